theorem tkBE (g : Nat → Int32) (t p : Nat) : tkB g t p ≤ tkE g t p := by
  have h2 := p_fst_ge (isLe g t) (t - tkB g t p) (tkB g t p)
  have h3 := p_fst_ge (isDi g t) (t - tkB g t p) (tkB g t p)
  unfold tkE
  split
  · omega
  · split
    · omega
    · split <;> omega
set_option maxRecDepth 100000 in
set_option maxHeartbeats 800000 in
theorem k_isWord (G : GT) (σ : Sg) (g : Nat → Int32) (t p : Nat) (hT : TS σ g t) (hp : p ≤ t) (hk : CkQ σ g t p) (i : Nat) (hi : i < 17) : Evi G mX2_isWord [.ref 4, .ref (100 + i)] σ (t_is g t p (wK.getD i 0)) (σ) := by
  have ht := hT.1
  have hg : ∀ j, j < t → iB (g j) 0 255 := fun j hj => (hT.2.2 j hj).2
  have hck := ck_tk (p := p) hg
  have hBl := (tkB_le (g := g) hp).2
  have hEl := tkE_le (g := g) hp
  have hsl := sLen_lt i hi
  have hBE := tkBE g t p
  refine Ev.ofL (m := 1) (L := [some (.ref 4), some (.ref (100 + i)), none]) rfl (Nat.le_of_ble_eq_true rfl) rfl rfl ?_
  refine w_aload_n dX2_isWord_0 rfl ?_
  refine w_getI dX2_isWord_1 fl_X2_18 rfl rfl ?_
  refine w_eqi hk.1 ?_
  · skip
    refine w_iconst dX2_isWord_4 ic_1 ?_
    refine w_icmp_ne (t := 24) dX2_isWord_5 (by decide) (fun hz1 => ?_) (fun hz1 => ?_)
    · skip
      refine w_iconst dX2_isWord_24 ic_0 ?_
      refine w_zret dX2_isWord_25 rfl rfl ?_
      have e0 : t_is g t p (wK.getD i 0) = 0 := Classical.byContradiction fun y => hz1 (hck.2.1.mpr ((is_iff hp hi).mp y).1)
      exact ⟨by rw [e0], rfl⟩
    · skip
      refine w_aload_n dX2_isWord_8 rfl ?_
      refine w_strCall (i := i) hi dX2_isWord_9 ml_X2_140 mv_J0_length rfl rfl (j0_length G _ i hi) rfl rfl (Nat.le_of_ble_eq_true rfl) ?_
      refine w_aload_n dX2_isWord_12 rfl ?_
      refine w_getI dX2_isWord_13 fl_X2_25 rfl rfl ?_
      refine w_eqi hk.2.2.1 ?_
      · skip
        refine w_aload_n dX2_isWord_16 rfl ?_
        refine w_getI dX2_isWord_17 fl_X2_22 rfl rfl ?_
        refine w_eqi hk.2.1 ?_
        · skip
          refine w_isub dX2_isWord_20 ?_
          refine w_eqi (pk_sub hBE) ?_
          · skip
            refine w_icmp_eq (t := 26) dX2_isWord_21 (by decide) (fun hz2 => ?_) (fun hz2 => ?_)
            · skip
              have hlen : tkE g t p - tkB g t p = sLen.getD i 0 := ((nI_eq hsl (by omega)).mp hz2).symm
              refine w_iconst dX2_isWord_26 ic_0 ?_
              refine w_istore_n dX2_isWord_27 (by decide) rfl rfl ?_
              dsimp only [List.set]
              have lp : ∀ (m : Nat) (j : Nat), sLen.getD i 0 - j < m → j ≤ sLen.getD i 0 → (∀ q, q < j → g (tkB g t p + q) = (sByt.getD i []).getD q 0) → WP G mX2_isWord 28 [some (.ref 4), some (.ref (100 + i)), some (.int (nI j))] [] (σ) (fun v σ' => v = some (.int (t_is g t p (wK.getD i 0))) ∧ σ' = (σ)) := by
                intro m
                induction m with
                | zero => intro j hmz; exact absurd hmz (Nat.not_lt_zero _)
                | succ m ih =>
                  intro j hmz hjl hall
                  refine w_iload_n dX2_isWord_28 rfl ?_
                  refine w_aload_n dX2_isWord_29 rfl ?_
                  refine w_strCall (i := i) hi dX2_isWord_30 ml_X2_140 mv_J0_length rfl rfl (j0_length G _ i hi) rfl rfl (Nat.le_of_ble_eq_true rfl) ?_
                  refine w2_icmp_ge (t := 66) dX2_isWord_33 (by decide) (fun hz3 => ?_) (fun hz3 => ?_)
                  · skip
                    have hge := nlt_nI (by omega) hsl hz3
                    refine w_iconst dX2_isWord_66 ic_1 ?_
                    refine w_zret dX2_isWord_67 rfl rfl ?_
                    have e1 : ¬ t_is g t p (wK.getD i 0) = 0 := (is_iff hp hi).mpr ⟨hck.2.1.mp hz1, hlen, fun q hq => hall q (by omega)⟩
                    exact ⟨by rw [z_not e1 (t_is_01 _ _ _ _)], rfl⟩
                  · skip
                    have hlt := lt_nI (by omega) hsl hz3
                    refine w_aload_n dX2_isWord_36 rfl ?_
                    refine w_getR (t := 5) dX2_isWord_37 fl_X2_12 rfl (by decide) (by decide) rfl ?_
                    refine w_getR (t := 8) dX2_isWord_40 fl_X2_145 rfl (by decide) (by decide) rfl ?_
                    refine w_aload_n dX2_isWord_43 rfl ?_
                    refine w_getI dX2_isWord_44 fl_X2_22 rfl rfl ?_
                    refine w_eqi hk.2.1 ?_
                    · skip
                      refine w_iload_n dX2_isWord_47 rfl ?_
                      refine w_iaddN (a := tkB g t p) (b := j) dX2_isWord_48 ?_
                      refine w_iald (j := tkB g t p + j) dX2_isWord_49 rfl (by decide) rfl (show tkB g t p + j < 120 by omega) ?_
                      refine w_eqi (hT.2.2 (tkB g t p + j) (by omega)).1 ?_
                      refine w_aload_n dX2_isWord_50 rfl ?_
                      refine w_iload_n dX2_isWord_51 rfl ?_
                      refine w_strCall (i := i) hi dX2_isWord_52 ml_X2_149 mv_J0_charAt rfl rfl (j0_charAt G _ i hi j hlt) rfl rfl (Nat.le_of_ble_eq_true rfl) ?_
                      refine w_icmp_eq (t := 60) dX2_isWord_55 (by decide) (fun hz4 => ?_) (fun hz4 => ?_)
                      · skip
                        have hch := hz4
                        refine w_iincN (a := j) (b := 1) dX2_isWord_60 rfl ic_1 (by decide) rfl rfl ?_
                        dsimp only [List.set]
                        refine w_goto (t := 28) dX2_isWord_63 (by decide) ?_
                        exact ih (j + 1) (by omega) (by omega) (fun q hq => by
                          by_cases e0 : q = j
                          · subst e0; exact hch
                          · exact hall q (by omega))
                      · skip
                        refine w_iconst dX2_isWord_58 ic_0 ?_
                        refine w_zret dX2_isWord_59 rfl rfl ?_
                        have e0 : t_is g t p (wK.getD i 0) = 0 := Classical.byContradiction fun y => hz4 (((is_iff hp hi).mp y).2.2 j hlt)
                        exact ⟨by rw [e0], rfl⟩
              exact lp (sLen.getD i 0 + 1) 0 (by omega) (by omega) (fun q hq => absurd hq (Nat.not_lt_zero q))
            · skip
              refine w_iconst dX2_isWord_24 ic_0 ?_
              refine w_zret dX2_isWord_25 rfl rfl ?_
              have e0 : t_is g t p (wK.getD i 0) = 0 := Classical.byContradiction fun y => hz2 (by rw [((is_iff hp hi).mp y).2.1])
              exact ⟨by rw [e0], rfl⟩
set_option maxRecDepth 100000 in
set_option maxHeartbeats 800000 in
theorem k_takeWord (G : GT) (σ : Sg) (g : Nat → Int32) (t p : Nat) (hT : TS σ g t) (hp : p ≤ t) (hk : CkQ σ g t p) (i : Nat) (hi : i < 17) : Ev G mX2_takeWord [.ref 4, .ref (100 + i)] σ (fun v τ => v = some (.int (t_is g t p (wK.getD i 0))) ∧ Tc σ τ ∧ CkQ τ g t (if t_is g t p (wK.getD i 0) = 0 then p else tkE g t p)) := by
  have ht := hT.1
  have hg : ∀ j, j < t → iB (g j) 0 255 := fun j hj => (hT.2.2 j hj).2
  have hck := ck_tk (p := p) hg
  have hBl := (tkB_le (g := g) hp).2
  have hEl := tkE_le (g := g) hp
  refine Ev.ofL (m := 1) (L := [some (.ref 4), some (.ref (100 + i)), none]) rfl (Nat.le_of_ble_eq_true rfl) rfl rfl ?_
  refine w_aload_n dX2_takeWord_0 rfl ?_
  refine w_aload_n dX2_takeWord_1 rfl ?_
  refine w_callVi dX2_takeWord_2 ml_X2_127 mv_X2_isWord rfl rfl (by decide) rfl (k_isWord G _ g t p hT hp hk i hi) rfl rfl (Nat.le_of_ble_eq_true rfl) ?_
  refine w_istore_n dX2_takeWord_5 (by decide) rfl rfl ?_
  dsimp only [List.set]
  refine w_iload_n dX2_takeWord_6 rfl ?_
  refine w_if_eq (t := 14) dX2_takeWord_7 (by decide) (fun hz1 => ?_) (fun hz1 => ?_)
  · skip
    refine w_iload_n dX2_takeWord_14 rfl ?_
    refine w_zret dX2_takeWord_15 rfl (by rcases t_is_01 g t p (wK.getD i 0) with e0 | e0 <;> rw [e0] <;> rfl) ?_
    exact ⟨rfl, Tc.rfl, by rw [if_pos hz1]; exact hk⟩
  · skip
    refine w_aload_n dX2_takeWord_10 rfl ?_
    refine w_callVqv dX2_takeWord_11 ml_X2_31 mv_X2_goToToken rfl rfl (by decide) rfl (k_goTo G _ g t (tkE g t p) hT hEl hk.2.2.1) rfl rfl (Nat.le_of_ble_eq_true rfl) (fun τ hq => ?_)
    refine w_iload_n dX2_takeWord_14 rfl ?_
    refine w_zret dX2_takeWord_15 rfl (by rcases t_is_01 g t p (wK.getD i 0) with e0 | e0 <;> rw [e0] <;> rfl) ?_
    exact ⟨rfl, hq.1, by rw [if_neg hz1]; exact hq.2⟩
def isN (g : Nat → Int32) (t p : Nat) (a b : Int32) : Int32 := if tkS g t p = 2 then (if p_in (tkV g t p) a b = 0 then 0 else 1) else 0
theorem isN_2 {g : Nat → Int32} {t p : Nat} {a b : Int32} (h : ¬ isN g t p a b = 0) : tkS g t p = 2 ∧ ¬ p_in (tkV g t p) a b = 0 := by
  unfold isN at h
  split at h
  · rename_i h1
    split at h
    · exact absurd rfl h
    · rename_i h2
      exact ⟨h1, h2⟩
  · exact absurd rfl h
theorem isN_01 (g : Nat → Int32) (t p : Nat) (a b : Int32) : isN g t p a b = 0 ∨ isN g t p a b = 1 := by
  unfold isN
  split
  · split
    · exact Or.inl rfl
    · exact Or.inr rfl
  · exact Or.inl rfl
set_option maxRecDepth 100000 in
set_option maxHeartbeats 800000 in
theorem k_isNumber (G : GT) (σ : Sg) (g : Nat → Int32) (t p : Nat) (hT : TS σ g t) (hp : p ≤ t) (hk : CkQ σ g t p) (ax bx : Int32) (hb9 : bx.toInt ≤ 999) : Evi G mX2_isNumber [.ref 4, .int ax, .int bx] σ (isN g t p ax bx) (σ) := by
  have ht := hT.1
  have hg : ∀ j, j < t → iB (g j) 0 255 := fun j hj => (hT.2.2 j hj).2
  have hck := ck_tk (p := p) hg
  have hBl := (tkB_le (g := g) hp).2
  have hEl := tkE_le (g := g) hp
  refine Ev.ofL (m := 0) (L := [some (.ref 4), some (.int ax), some (.int bx)]) rfl (Nat.le_of_ble_eq_true rfl) rfl rfl ?_
  refine w_aload_n dX2_isNumber_0 rfl ?_
  refine w_getI dX2_isNumber_1 fl_X2_18 rfl rfl ?_
  refine w_eqi hk.1 ?_
  refine w_iconst dX2_isNumber_4 ic_2 ?_
  refine w_icmp_ne (t := 24) dX2_isNumber_5 (by decide) (fun hz1 => ?_) (fun hz1 => ?_)
  · skip
    refine w_iconst dX2_isNumber_24 ic_0 ?_
    refine w_zret dX2_isNumber_25 rfl rfl ?_
    exact ⟨by unfold isN; rw [if_neg (fun y => hz1 (hck.2.2.1.mpr y))], rfl⟩
  · skip
    refine w_aload_n dX2_isNumber_8 rfl ?_
    refine w_getI dX2_isNumber_9 fl_X2_28 rfl rfl ?_
    refine w_eqi (hk.2.2.2 (hck.2.2.1.mp hz1)) ?_
    refine w_iload_n dX2_isNumber_12 rfl ?_
    refine w_iload_n dX2_isNumber_13 rfl ?_
    refine w_callNi (host := "BoltsByOrder") dX2_isNumber_14 (by decide +kernel) ms_X6_isWithin rfl (c_isWithin G _ _ _ _) rfl rfl (Nat.le_of_ble_eq_true rfl) ?_
    refine w_if_eq (t := 24) dX2_isNumber_17 (by decide) (fun hz2 => ?_) (fun hz2 => ?_)
    · skip
      refine w_iconst dX2_isNumber_24 ic_0 ?_
      refine w_zret dX2_isNumber_25 rfl rfl ?_
      have h22 := hck.2.2.1.mp hz1
      have hin := (ckV_in hp h22 (a := ax) (b := bx) hb9).1
      have hz := hz2
      rw [hin] at hz
      exact ⟨by unfold isN; rw [if_pos h22, if_pos hz], rfl⟩
    · skip
      refine w_iconst dX2_isNumber_20 ic_1 ?_
      refine w_goto (t := 25) dX2_isNumber_21 (by decide) ?_
      refine w_zret dX2_isNumber_25 rfl rfl ?_
      have h22 := hck.2.2.1.mp hz1
      have hin := (ckV_in hp h22 (a := ax) (b := bx) hb9).1
      have hz := hz2
      rw [hin] at hz
      exact ⟨by unfold isN; rw [if_pos h22, if_neg hz], rfl⟩
set_option maxRecDepth 100000 in
set_option maxHeartbeats 800000 in
theorem k_takeNumber (G : GT) (σ : Sg) (g : Nat → Int32) (t p : Nat) (hT : TS σ g t) (hp : p ≤ t) (hk : CkQ σ g t p) : Ev G mX2_takeNumber [.ref 4] σ (fun v τ => v = some (.int (σ.1 4 4)) ∧ Tc σ τ ∧ CkQ τ g t (tkE g t p)) := by
  have ht := hT.1
  have hg : ∀ j, j < t → iB (g j) 0 255 := fun j hj => (hT.2.2 j hj).2
  have hck := ck_tk (p := p) hg
  have hBl := (tkB_le (g := g) hp).2
  have hEl := tkE_le (g := g) hp
  refine Ev.ofL (m := 1) (L := [some (.ref 4), none]) rfl (Nat.le_of_ble_eq_true rfl) rfl rfl ?_
  refine w_aload_n dX2_takeNumber_0 rfl ?_
  refine w_getI dX2_takeNumber_1 fl_X2_28 rfl rfl ?_
  refine w_istore_n dX2_takeNumber_4 (by decide) rfl rfl ?_
  dsimp only [List.set]
  refine w_aload_n dX2_takeNumber_5 rfl ?_
  refine w_callVqv dX2_takeNumber_6 ml_X2_31 mv_X2_goToToken rfl rfl (by decide) rfl (k_goTo G _ g t (tkE g t p) hT hEl hk.2.2.1) rfl rfl (Nat.le_of_ble_eq_true rfl) (fun τ hq => ?_)
  refine w_iload_n dX2_takeNumber_9 rfl ?_
  refine w_iret dX2_takeNumber_10 rfl ?_
  exact ⟨rfl, hq⟩
theorem CkQ.oth {σ τ : Sg} {g : Nat → Int32} {t p : Nat} (h : CkQ σ g t p) (e : ∀ j, τ.1 4 j = σ.1 4 j) : CkQ τ g t p := by
  unfold CkQ
  rw [e, e, e, e]
  exact h
theorem TS.oth {σ τ : Sg} {g : Nat → Int32} {t : Nat} (h : TS σ g t) (e1 : ∀ j, τ.1 5 j = σ.1 5 j) (e2 : ∀ j, τ.1 8 j = σ.1 8 j) : TS τ g t := by
  unfold TS
  simp only [e1, e2]
  exact h
theorem mst_999 : ∀ k, k < 5 → (mstF k).toInt ≤ 999 := by decide
set_option maxRecDepth 100000 in
set_option maxHeartbeats 800000 in
theorem k_takePart (G : GT) (σ : Sg) (g : Nat → Int32) (t p : Nat) (hT : TS σ g t) (hp : p ≤ t) (hk : CkQ σ g t p) (k : Nat) (hk5 : k < 5) : Ev G mX2_takeCloudPart [.ref 4, .ref 10, .int (nI k)] σ (fun v τ => v = some (.int (isN g t p (lstF k) (mstF k))) ∧ (isN g t p (lstF k) (mstF k) = 0 → τ = σ) ∧ (¬ isN g t p (lstF k) (mstF k) = 0 → Tc (wI σ 10 k (tkV g t p)) τ ∧ CkQ τ g t (tkE g t p))) := by
  have ht := hT.1
  have hg : ∀ j, j < t → iB (g j) 0 255 := fun j hj => (hT.2.2 j hj).2
  have hck := ck_tk (p := p) hg
  have hBl := (tkB_le (g := g) hp).2
  have hEl := tkE_le (g := g) hp
  refine Ev.ofL (m := 0) (L := [some (.ref 4), some (.ref 10), some (.int (nI k))]) rfl (Nat.le_of_ble_eq_true rfl) rfl rfl ?_
  refine w_aload_n dX2_takeCloudPart_0 rfl ?_
  refine w_getI dX2_takeCloudPart_1 fl_X2_18 rfl rfl ?_
  refine w_eqi hk.1 ?_
  refine w_iconst dX2_takeCloudPart_4 ic_2 ?_
  refine w_icmp_ne (t := 19) dX2_takeCloudPart_5 (by decide) (fun hz1 => ?_) (fun hz1 => ?_)
  · skip
    refine w_iconst dX2_takeCloudPart_19 ic_0 ?_
    refine w_zret dX2_takeCloudPart_20 rfl rfl ?_
    have e0 : isN g t p (lstF k) (mstF k) = 0 := by unfold isN; rw [if_neg (fun y => hz1 (hck.2.2.1.mpr y))]
    exact ⟨by rw [e0], fun _ => rfl, fun z => absurd e0 z⟩
  · skip
    have h22 := hck.2.2.1.mp hz1
    have hin := ckV_in hp h22 (a := lstF k) (b := mstF k) (mst_999 k hk5)
    have e44 := hk.2.2.2 h22
    refine w_iload_n dX2_takeCloudPart_8 rfl ?_
    refine w_aload_n dX2_takeCloudPart_9 rfl ?_
    refine w_getI dX2_takeCloudPart_10 fl_X2_28 rfl rfl ?_
    refine w_eqi e44 ?_
    refine w_callSi dX2_takeCloudPart_13 ml_X2_118 ms_X0_mayBe rfl (c0_mayBe G _ _ _) rfl rfl (Nat.le_of_ble_eq_true rfl) ?_
    refine w_if_ne (t := 21) dX2_takeCloudPart_16 (by decide) (fun hz2 => ?_) (fun hz2 => ?_)
    · skip
      refine w_aload_n dX2_takeCloudPart_21 rfl ?_
      refine w_iload_n dX2_takeCloudPart_22 rfl ?_
      refine w_aload_n dX2_takeCloudPart_23 rfl ?_
      refine w_getI dX2_takeCloudPart_24 fl_X2_28 rfl rfl ?_
      refine w_eqi e44 ?_
      refine w_callVv dX2_takeCloudPart_27 ml_X2_121 mv_X0_setPart rfl rfl (by decide) rfl (c0_setPart G _ 10 rfl _ _) rfl rfl (Nat.le_of_ble_eq_true rfl) ?_
      rw [k_put0_w hk5, ← wI_C]
      refine w_aload_n dX2_takeCloudPart_30 rfl ?_
      refine w_callVqv dX2_takeCloudPart_31 ml_X2_31 mv_X2_goToToken rfl rfl (by decide) rfl (k_goTo G _ g t (tkE g t p) (hT.oth (fun _ => wI_c (by decide)) (fun _ => wI_c (by decide))) hEl ((wI_c (by decide)).trans hk.2.2.1)) rfl rfl (Nat.le_of_ble_eq_true rfl) (fun τ hq => ?_)
      refine w_iconst dX2_takeCloudPart_34 ic_1 ?_
      refine w_zret dX2_takeCloudPart_35 rfl rfl ?_
      have e5 : c_told (nI k) (ckV g t p) = p_in (tkV g t p) (lstF k) (mstF k) := by rw [told_w hk5, hin.1]
      have hz := hz2
      rw [e5] at hz
      have e0 : ¬ isN g t p (lstF k) (mstF k) = 0 := by unfold isN; rw [if_pos h22, if_neg hz]; decide
      refine ⟨by rw [z_not e0 (isN_01 _ _ _ _ _)], fun z => absurd z e0, fun _ => ?_⟩
      rw [← hin.2 hz]
      exact hq
    · skip
      refine w_iconst dX2_takeCloudPart_19 ic_0 ?_
      refine w_zret dX2_takeCloudPart_20 rfl rfl ?_
      have e5 : c_told (nI k) (ckV g t p) = p_in (tkV g t p) (lstF k) (mstF k) := by rw [told_w hk5, hin.1]
      have hz := hz2
      rw [e5] at hz
      have e0 : isN g t p (lstF k) (mstF k) = 0 := by unfold isN; rw [if_pos h22, if_pos hz]
      exact ⟨by rw [e0], fun _ => rfl, fun z => absurd e0 z⟩
set_option maxRecDepth 100000 in
set_option maxHeartbeats 800000 in
theorem k_kindTold (G : GT) (σ : Sg) (g : Nat → Int32) (t p : Nat) (hT : TS σ g t) (hp : p ≤ t) (hk : CkQ σ g t p) : Evi G mX2_kindTold [.ref 4] σ (t_kind g t p) (σ) := by
  refine Ev.ofL (m := 0) (L := [some (.ref 4)]) rfl (Nat.le_of_ble_eq_true rfl) rfl rfl ?_
  refine w_aload_n dX2_kindTold_0 rfl ?_
  refine w_ldcS (i := 11) (by decide) dX2_kindTold_1 rfl ?_
  refine w_callVi dX2_kindTold_3 ml_X2_127 mv_X2_isWord rfl rfl (by decide) rfl (k_isWord G _ g t p hT hp hk 11 (by decide)) rfl rfl (Nat.le_of_ble_eq_true rfl) ?_
  refine w_if_eq (t := 11) dX2_kindTold_6 (by decide) (fun hz1 => ?_) (fun hz1 => ?_)
  · skip
    refine w_aload_n dX2_kindTold_11 rfl ?_
    refine w_ldcS (i := 12) (by decide) dX2_kindTold_12 rfl ?_
    refine w_callVi dX2_kindTold_14 ml_X2_127 mv_X2_isWord rfl rfl (by decide) rfl (k_isWord G _ g t p hT hp hk 12 (by decide)) rfl rfl (Nat.le_of_ble_eq_true rfl) ?_
    refine w_if_eq (t := 22) dX2_kindTold_17 (by decide) (fun hz2 => ?_) (fun hz2 => ?_)
    · skip
      refine w_aload_n dX2_kindTold_22 rfl ?_
      refine w_ldcS (i := 13) (by decide) dX2_kindTold_23 rfl ?_
      refine w_callVi dX2_kindTold_25 ml_X2_127 mv_X2_isWord rfl rfl (by decide) rfl (k_isWord G _ g t p hT hp hk 13 (by decide)) rfl rfl (Nat.le_of_ble_eq_true rfl) ?_
      refine w_if_eq (t := 33) dX2_kindTold_28 (by decide) (fun hz3 => ?_) (fun hz3 => ?_)
      · skip
        refine w_aload_n dX2_kindTold_33 rfl ?_
        refine w_ldcS (i := 14) (by decide) dX2_kindTold_34 rfl ?_
        refine w_callVi dX2_kindTold_36 ml_X2_127 mv_X2_isWord rfl rfl (by decide) rfl (k_isWord G _ g t p hT hp hk 14 (by decide)) rfl rfl (Nat.le_of_ble_eq_true rfl) ?_
        refine w_if_eq (t := 44) dX2_kindTold_39 (by decide) (fun hz4 => ?_) (fun hz4 => ?_)
        · skip
          refine w_aload_n dX2_kindTold_44 rfl ?_
          refine w_ldcS (i := 15) (by decide) dX2_kindTold_45 rfl ?_
          refine w_callVi dX2_kindTold_47 ml_X2_127 mv_X2_isWord rfl rfl (by decide) rfl (k_isWord G _ g t p hT hp hk 15 (by decide)) rfl rfl (Nat.le_of_ble_eq_true rfl) ?_
          refine w_if_eq (t := 55) dX2_kindTold_50 (by decide) (fun hz5 => ?_) (fun hz5 => ?_)
          · skip
            refine w_aload_n dX2_kindTold_55 rfl ?_
            refine w_ldcS (i := 16) (by decide) dX2_kindTold_56 rfl ?_
            refine w_callVi dX2_kindTold_58 ml_X2_127 mv_X2_isWord rfl rfl (by decide) rfl (k_isWord G _ g t p hT hp hk 16 (by decide)) rfl rfl (Nat.le_of_ble_eq_true rfl) ?_
            refine w_if_eq (t := 68) dX2_kindTold_61 (by decide) (fun hz6 => ?_) (fun hz6 => ?_)
            · skip
              refine w_iconst dX2_kindTold_68 ic_m1 ?_
              refine w_iret dX2_kindTold_69 rfl ?_
              exact ⟨by simp only [t_kind, eq_true (show t_is g t p 13531 = 0 from hz1), eq_true (show t_is g t p 51345081 = 0 from hz2), eq_true (show t_is g t p 223619 = 0 from hz3), eq_true (show t_is g t p 10973 = 0 from hz4), eq_true (show t_is g t p 865614912780 = 0 from hz5), eq_true (show t_is g t p 6414557904 = 0 from hz6), if_true, if_false], rfl⟩
            · skip
              refine w_iconst dX2_kindTold_64 ic_5 ?_
              refine w_goto (t := 69) dX2_kindTold_65 (by decide) ?_
              refine w_iret dX2_kindTold_69 rfl ?_
              exact ⟨by simp only [t_kind, eq_true (show t_is g t p 13531 = 0 from hz1), eq_true (show t_is g t p 51345081 = 0 from hz2), eq_true (show t_is g t p 223619 = 0 from hz3), eq_true (show t_is g t p 10973 = 0 from hz4), eq_true (show t_is g t p 865614912780 = 0 from hz5), eq_false (show ¬ t_is g t p 6414557904 = 0 from hz6), if_true, if_false], rfl⟩
          · skip
            refine w_iconst dX2_kindTold_53 ic_4 ?_
            refine w_iret dX2_kindTold_54 rfl ?_
            exact ⟨by simp only [t_kind, eq_true (show t_is g t p 13531 = 0 from hz1), eq_true (show t_is g t p 51345081 = 0 from hz2), eq_true (show t_is g t p 223619 = 0 from hz3), eq_true (show t_is g t p 10973 = 0 from hz4), eq_false (show ¬ t_is g t p 865614912780 = 0 from hz5), if_true, if_false], rfl⟩
        · skip
          refine w_iconst dX2_kindTold_42 ic_3 ?_
          refine w_iret dX2_kindTold_43 rfl ?_
          exact ⟨by simp only [t_kind, eq_true (show t_is g t p 13531 = 0 from hz1), eq_true (show t_is g t p 51345081 = 0 from hz2), eq_true (show t_is g t p 223619 = 0 from hz3), eq_false (show ¬ t_is g t p 10973 = 0 from hz4), if_true, if_false], rfl⟩
      · skip
        refine w_iconst dX2_kindTold_31 ic_2 ?_
        refine w_iret dX2_kindTold_32 rfl ?_
        exact ⟨by simp only [t_kind, eq_true (show t_is g t p 13531 = 0 from hz1), eq_true (show t_is g t p 51345081 = 0 from hz2), eq_false (show ¬ t_is g t p 223619 = 0 from hz3), if_true, if_false], rfl⟩
    · skip
      refine w_iconst dX2_kindTold_20 ic_1 ?_
      refine w_iret dX2_kindTold_21 rfl ?_
      exact ⟨by simp only [t_kind, eq_true (show t_is g t p 13531 = 0 from hz1), eq_false (show ¬ t_is g t p 51345081 = 0 from hz2), if_true, if_false], rfl⟩
  · skip
    refine w_iconst dX2_kindTold_9 ic_0 ?_
    refine w_iret dX2_kindTold_10 rfl ?_
    exact ⟨by simp only [t_kind, eq_false (show ¬ t_is g t p 13531 = 0 from hz1), if_true, if_false], rfl⟩
