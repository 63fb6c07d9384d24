def NxQ (σ σ' : Sg) (n : Nat) : Prop := Mq σ σ' ∧ σ'.1 50 3 = nI (p_nx (σ.1 51) n) ∧ σ'.1 50 4 = oI (p_strk (p_nf (σ.1 51) n) n (p_nf (σ.1 51) n 0)) ∧ σ'.1 50 5 = p_nf (σ.1 51) n 1 ∧ σ'.1 50 6 = p_nf (σ.1 51) n 0
theorem nx_end {σ τ : Sg} {n i : Nat} (h8 : n ≤ 8) (h1 : τ.1 51 = p_pass (σ.1 51) n i) (h2 : τ.1 50 3 = nI i) (h3 : Mr σ τ) (h4 : ∀ j, j < 65 → τ.1 53 j = σ.1 51 j) (h6 : i = p_nx (σ.1 51) n) :
    NxQ σ (cpN (wI (wI (wI τ 50 4 (oI (p_strk (τ.1 51) n (τ.1 51 0)))) 50 5 (τ.1 51 1)) 50 6 (τ.1 51 0)) 53 51 65) n := by
  have e : τ.1 51 = p_nf (σ.1 51) n := by rw [h1, h6]; rfl
  refine ⟨⟨back51 (fun j h => ?_) (fun j h => ?_), h3.trans ((Mr.fld rfl).trans ((Mr.fld rfl).trans ((Mr.fld rfl).trans (Mr.cp (by decide)))))⟩, ?_, ?_, ?_, ?_⟩
  · rw [wI_c (by decide), wI_c (by decide), wI_c (by decide)]
    exact h4 j h
  · rw [wI_c (by decide), wI_c (by decide), wI_c (by decide), h1, p_pass_65 _ h8 h]
  · rw [cpN_ne (by decide), wI_k (by decide), wI_k (by decide), wI_k (by decide), h2, h6]
  · rw [cpN_ne (by decide), wI_k (by decide), wI_k (by decide), wI_s, e]
  · rw [cpN_ne (by decide), wI_k (by decide), wI_s, e]
  · rw [cpN_ne (by decide), wI_s, e]
set_option maxRecDepth 100000 in
set_option maxHeartbeats 4000000 in
theorem e7_findNext (G : GT) (σ : Sg) (n : Nat) (hn : σ.1 51 8 = nI n) (h8 : n ≤ 8) : Ev G mX7_findNext [.ref 50] σ (fun v σ' => v = some (.int (if p_nx (σ.1 51) n < 100 then 1 else 0)) ∧ NxQ σ σ' n) := by
  refine Ev.ofL (m := 0) (L := [some (.ref 50)]) rfl (Nat.le_of_ble_eq_true rfl) rfl rfl ?_
  refine w_aload_n dX7_findNext_0 rfl ?_
  refine w_iconst dX7_findNext_1 ic_1 ?_
  refine w_aload_n dX7_findNext_2 rfl ?_
  refine w_getR (t := 53) dX7_findNext_3 fl_X7_16 rfl (by decide) (by decide) rfl ?_
  refine w_callVv dX7_findNext_6 ml_X7_126 mv_X7_moveAll rfl rfl (by decide) rfl (e7_move1 G _ 53 rfl rfl (by decide) (by decide)) rfl rfl (Nat.le_of_ble_eq_true rfl) ?_
  refine w_aload_n dX7_findNext_9 rfl ?_
  refine w_iconst dX7_findNext_10 ic_0 ?_
  refine w_putI dX7_findNext_11 fl_X7_133 rfl rfl (by decide +kernel) ?_
  have lp : ∀ (m : Nat) (i : Nat) (τ : Sg), 100 - i < m → i ≤ 100 → τ.1 51 = p_pass (σ.1 51) n i → τ.1 50 3 = nI i → Mr σ τ → (∀ j, j < 65 → τ.1 53 j = σ.1 51 j) → p_find (σ.1 51) n (100 - i) i = p_nx (σ.1 51) n → WP G mX7_findNext 14 [some (.ref 50)] [] (τ) (fun v σ' => v = some (.int (if p_nx (σ.1 51) n < 100 then 1 else 0)) ∧ NxQ σ σ' n) := by
    intro m
    induction m with
    | zero => intro i τ hm; exact absurd hm (Nat.not_lt_zero _)
    | succ m ih =>
      intro i τ hm hi h1 h2 h3 h4 h5
      refine w_aload_n dX7_findNext_14 rfl ?_
      refine w_getI dX7_findNext_15 fl_X7_133 rfl rfl ?_
      refine w_eqi (y := nI i) (h2) ?_
      · skip
        refine w_bipush dX7_findNext_18 bp_100 ?_
        refine w2_icmp_ge (t := 47) dX7_findNext_20 (by decide) (fun hz1 => ?_) (fun hz1 => ?_)
        · skip
          have hge := nlt_nI (n := 100) (by omega) (by omega) hz1
          have h6 : i = p_nx (σ.1 51) n := by rw [← h5, show 100 - i = 0 by omega]; rfl
          refine w_aload_n dX7_findNext_47 rfl ?_
          refine w_aload_n dX7_findNext_48 rfl ?_
          refine w_aload_n dX7_findNext_49 rfl ?_
          refine w_getR (t := 51) dX7_findNext_50 fl_X7_7 rfl (by decide) (by decide) rfl ?_
          refine w_iconst dX7_findNext_53 ic_0 ?_
          refine w_iald (j := 0) dX7_findNext_54 rfl (by decide) rfl (by decide) ?_
          refine w_callVi dX7_findNext_55 ml_X7_101 mv_X7_struckAt rfl rfl (by decide) rfl (e7_struckAt G _ _ n (by rw [h1, p_pass_8]; exact hn) h8) rfl rfl (Nat.le_of_ble_eq_true rfl) ?_
          refine w_putI dX7_findNext_58 fl_X7_137 rfl rfl (by decide +kernel) ?_
          refine w_aload_n dX7_findNext_61 rfl ?_
          refine w_aload_n dX7_findNext_62 rfl ?_
          refine w_getR (t := 51) dX7_findNext_63 fl_X7_7 rfl (by decide) (by decide) rfl ?_
          refine w_iconst dX7_findNext_66 ic_1 ?_
          refine w_iald (j := 1) dX7_findNext_67 rfl (by decide) rfl (by decide) ?_
          refine w_putI dX7_findNext_68 fl_X7_140 rfl rfl (by decide +kernel) ?_
          refine w_aload_n dX7_findNext_71 rfl ?_
          refine w_aload_n dX7_findNext_72 rfl ?_
          refine w_getR (t := 51) dX7_findNext_73 fl_X7_7 rfl (by decide) (by decide) rfl ?_
          refine w_iconst dX7_findNext_76 ic_0 ?_
          refine w_iald (j := 0) dX7_findNext_77 rfl (by decide) rfl (by decide) ?_
          refine w_putI dX7_findNext_78 fl_X7_143 rfl rfl (by decide +kernel) ?_
          refine w_aload_n dX7_findNext_81 rfl ?_
          refine w_iconst dX7_findNext_82 ic_0 ?_
          refine w_aload_n dX7_findNext_83 rfl ?_
          refine w_getR (t := 53) dX7_findNext_84 fl_X7_16 rfl (by decide) (by decide) rfl ?_
          refine w_callVv dX7_findNext_87 ml_X7_126 mv_X7_moveAll rfl rfl (by decide) rfl (e7_move0 G _ 53 rfl rfl (by decide) (by decide)) rfl rfl (Nat.le_of_ble_eq_true rfl) ?_
          refine w_aload_n dX7_findNext_90 rfl ?_
          refine w_getI dX7_findNext_91 fl_X7_133 rfl rfl ?_
          refine w_eqi (y := nI i) (by rw [cpN_ne (by decide), wI_k (by decide), wI_k (by decide), wI_k (by decide), h2]) ?_
          · skip
            refine w_bipush dX7_findNext_94 bp_100 ?_
            refine w2_icmp_ge (t := 103) dX7_findNext_96 (by decide) (fun hz2 => ?_) (fun hz2 => ?_)
            · skip
              refine w_iconst dX7_findNext_103 ic_0 ?_
              refine w_zret dX7_findNext_104 rfl rfl ?_
              refine ⟨?_, nx_end h8 h1 h2 h3 h4 h6⟩
              rw [← h6]
              rw [if_neg (fun z => hz2 (nI_lt z (by decide)))]
            · skip
              refine w_iconst dX7_findNext_99 ic_1 ?_
              refine w_goto (t := 104) dX7_findNext_100 (by decide) ?_
              refine w_zret dX7_findNext_104 rfl rfl ?_
              refine ⟨?_, nx_end h8 h1 h2 h3 h4 h6⟩
              rw [← h6]
              rw [if_pos (lt_nI (n := 100) (by omega) (by omega) hz2)]
        · skip
          have hlt := lt_nI (n := 100) (by omega) (by omega) hz1
          refine w_aload_n dX7_findNext_23 rfl ?_
          refine w_callVi dX7_findNext_24 ml_X7_105 mv_X7_doesBreak rfl rfl (by decide) rfl (e7_doesBreak G _) rfl rfl (Nat.le_of_ble_eq_true rfl) ?_
          refine w_if_ne (t := 47) dX7_findNext_27 (by decide) (fun hz3 => ?_) (fun hz3 => ?_)
          · skip
            have hb1 := hz3
            rw [h1] at hb1
            have h6 : i = p_nx (σ.1 51) n := by rw [← h5, show 100 - i = (100 - (i + 1)) + 1 by omega, p_find, if_neg hb1]
            refine w_aload_n dX7_findNext_47 rfl ?_
            refine w_aload_n dX7_findNext_48 rfl ?_
            refine w_aload_n dX7_findNext_49 rfl ?_
            refine w_getR (t := 51) dX7_findNext_50 fl_X7_7 rfl (by decide) (by decide) rfl ?_
            refine w_iconst dX7_findNext_53 ic_0 ?_
            refine w_iald (j := 0) dX7_findNext_54 rfl (by decide) rfl (by decide) ?_
            refine w_callVi dX7_findNext_55 ml_X7_101 mv_X7_struckAt rfl rfl (by decide) rfl (e7_struckAt G _ _ n (by rw [h1, p_pass_8]; exact hn) h8) rfl rfl (Nat.le_of_ble_eq_true rfl) ?_
            refine w_putI dX7_findNext_58 fl_X7_137 rfl rfl (by decide +kernel) ?_
            refine w_aload_n dX7_findNext_61 rfl ?_
            refine w_aload_n dX7_findNext_62 rfl ?_
            refine w_getR (t := 51) dX7_findNext_63 fl_X7_7 rfl (by decide) (by decide) rfl ?_
            refine w_iconst dX7_findNext_66 ic_1 ?_
            refine w_iald (j := 1) dX7_findNext_67 rfl (by decide) rfl (by decide) ?_
            refine w_putI dX7_findNext_68 fl_X7_140 rfl rfl (by decide +kernel) ?_
            refine w_aload_n dX7_findNext_71 rfl ?_
            refine w_aload_n dX7_findNext_72 rfl ?_
            refine w_getR (t := 51) dX7_findNext_73 fl_X7_7 rfl (by decide) (by decide) rfl ?_
            refine w_iconst dX7_findNext_76 ic_0 ?_
            refine w_iald (j := 0) dX7_findNext_77 rfl (by decide) rfl (by decide) ?_
            refine w_putI dX7_findNext_78 fl_X7_143 rfl rfl (by decide +kernel) ?_
            refine w_aload_n dX7_findNext_81 rfl ?_
            refine w_iconst dX7_findNext_82 ic_0 ?_
            refine w_aload_n dX7_findNext_83 rfl ?_
            refine w_getR (t := 53) dX7_findNext_84 fl_X7_16 rfl (by decide) (by decide) rfl ?_
            refine w_callVv dX7_findNext_87 ml_X7_126 mv_X7_moveAll rfl rfl (by decide) rfl (e7_move0 G _ 53 rfl rfl (by decide) (by decide)) rfl rfl (Nat.le_of_ble_eq_true rfl) ?_
            refine w_aload_n dX7_findNext_90 rfl ?_
            refine w_getI dX7_findNext_91 fl_X7_133 rfl rfl ?_
            refine w_eqi (y := nI i) (by rw [cpN_ne (by decide), wI_k (by decide), wI_k (by decide), wI_k (by decide), h2]) ?_
            · skip
              refine w_bipush dX7_findNext_94 bp_100 ?_
              refine w2_icmp_ge (t := 103) dX7_findNext_96 (by decide) (fun hz4 => ?_) (fun hz4 => ?_)
              · skip
                refine w_iconst dX7_findNext_103 ic_0 ?_
                refine w_zret dX7_findNext_104 rfl rfl ?_
                refine ⟨?_, nx_end h8 h1 h2 h3 h4 h6⟩
                rw [← h6]
                rw [if_neg (fun z => hz4 (nI_lt z (by decide)))]
              · skip
                refine w_iconst dX7_findNext_99 ic_1 ?_
                refine w_goto (t := 104) dX7_findNext_100 (by decide) ?_
                refine w_zret dX7_findNext_104 rfl rfl ?_
                refine ⟨?_, nx_end h8 h1 h2 h3 h4 h6⟩
                rw [← h6]
                rw [if_pos (lt_nI (n := 100) (by omega) (by omega) hz4)]
          · skip
            have hb0 := hz3
            rw [h1] at hb0
            refine w_aload_n dX7_findNext_30 rfl ?_
            refine w_callVv dX7_findNext_31 ml_X7_112 mv_X7_oneHour rfl rfl (by decide) rfl (e7_oneHour G _ n (by rw [h1, p_pass_8]; exact hn) h8) rfl rfl (Nat.le_of_ble_eq_true rfl) ?_
            refine w_aload_n dX7_findNext_34 rfl ?_
            refine w_dup dX7_findNext_35 rfl ?_
            refine w_getI dX7_findNext_36 fl_X7_133 rfl rfl ?_
            refine w_iconst dX7_findNext_39 ic_1 ?_
            refine w_iadd dX7_findNext_40 ?_
            refine w_putI dX7_findNext_41 fl_X7_133 rfl rfl (by decide +kernel) ?_
            refine w_goto (t := 14) dX7_findNext_44 (by decide) ?_
            refine ih (i + 1) _ (by omega) (by omega) ?_ ?_ ?_ ?_ ?_
            · funext j
              rw [wI_c (by decide), setR_51, h1]
              rfl
            · rw [wI_s, setR_ne (by decide), h2, nI_1]
            · exact h3.trans (Mr.setR.trans (Mr.fld rfl))
            · intro j hj
              rw [wI_c (by decide), setR_ne (by decide)]
              exact h4 j hj
            · rw [← h5, show 100 - i = (100 - (i + 1)) + 1 by omega, p_find, if_pos hb0]
  refine lp 101 0 _ (by omega) (by omega) ?_ ?_ ?_ ?_ rfl
  · funext j
    rw [wI_c (by decide), cpN_ne (by decide)]
    rfl
  · rw [wI_s]
    rfl
  · exact (Mr.cp (by decide)).trans (Mr.fld rfl)
  · intro j hj
    rw [wI_c (by decide), cpN_b hj]
/-- does the next bolt strike rod k, were it of height h -/
def p_isStr (f : Nat → Int32) (n k : Nat) (h : Int32) : Int32 :=
  let g := upd f (9 + 7 * k + 2) h
  if p_nx g n < 100 then (if oI (p_strk (p_nf g n) n (p_nf g n 0)) = nI k then 1 else 0) else 0
theorem upd_back (f : Nat → Int32) (i : Nat) (h : Int32) : upd (upd f i h) i (f i) = f := by
  funext j
  unfold upd
  by_cases e : j = i <;> simp [e]
theorem p_isStr_z (f : Nat → Int32) (n k : Nat) (h : Int32) : p_isStr f n k h = 0 ∨ p_isStr f n k h = 1 := by
  unfold p_isStr
  simp only
  split
  · split
    · exact Or.inr rfl
    · exact Or.inl rfl
  · exact Or.inl rfl
set_option maxRecDepth 100000 in
set_option maxHeartbeats 4000000 in
theorem e7_isStruckBy (G : GT) (σ : Sg) (k : Nat) (h : Int32) (hk : k < 8) (n : Nat) (hn : σ.1 51 8 = nI n) (h8 : n ≤ 8) : Ev G mX7_isStruckBy [.ref 50, .int (nI k), .int h] σ (fun v σ' => v = some (.int (p_isStr (σ.1 51) n k h)) ∧ Mq σ σ') := by
  refine Ev.ofL (m := 2) (L := [some (.ref 50), some (.int (nI k)), some (.int h), none, none]) rfl (Nat.le_of_ble_eq_true rfl) rfl rfl ?_
  refine w_aload_n dX7_isStruckBy_0 rfl ?_
  refine w_iload_n dX7_isStruckBy_1 rfl ?_
  refine w_iconst dX7_isStruckBy_2 ic_2 ?_
  refine w_callVi dX7_isStruckBy_3 ml_X7_69 mv_X7_its rfl rfl (by decide) rfl (e7_its G _ (k) (2) (by omega) (by omega)) rfl rfl (Nat.le_of_ble_eq_true rfl) ?_
  refine w_topi (fun v hv => ?_)
  refine w_istore_n dX7_isStruckBy_6 (by decide) rfl rfl ?_
  dsimp only [List.set]
  refine w_aload_n dX7_isStruckBy_7 rfl ?_
  refine w_iload_n dX7_isStruckBy_8 rfl ?_
  refine w_iconst dX7_isStruckBy_9 ic_2 ?_
  refine w_iload_n dX7_isStruckBy_10 rfl ?_
  refine w_callVv dX7_isStruckBy_11 ml_X7_57 mv_X7_puts rfl rfl (by decide) rfl (e7_puts G _ (k) (2) _ (by omega) (by omega)) rfl rfl (Nat.le_of_ble_eq_true rfl) ?_
  refine w_aload_n dX7_isStruckBy_14 rfl ?_
  refine w_callVqi dX7_isStruckBy_15 ml_X7_146 mv_X7_findNext rfl rfl (by decide) rfl (e7_findNext G _ n (by rw [setR_51, updN (by omega)]; exact hn) h8) rfl rfl (Nat.le_of_ble_eq_true rfl) (fun τ hq => ?_)
  refine w_if_eq (t := 33) dX7_isStruckBy_18 (by decide) (fun hz1 => ?_) (fun hz1 => ?_)
  · skip
    refine w_iconst dX7_isStruckBy_33 ic_0 ?_
    refine w_istore dX7_isStruckBy_34 (by decide) rfl rfl ?_
    dsimp only [List.set]
    refine w_aload_n dX7_isStruckBy_36 rfl ?_
    refine w_iload_n dX7_isStruckBy_37 rfl ?_
    refine w_iconst dX7_isStruckBy_38 ic_2 ?_
    refine w_iload_n dX7_isStruckBy_39 rfl ?_
    refine w_callVv dX7_isStruckBy_40 ml_X7_57 mv_X7_puts rfl rfl (by decide) rfl (e7_puts G _ (k) (2) _ (by omega) (by omega)) rfl rfl (Nat.le_of_ble_eq_true rfl) ?_
    refine w_iload dX7_isStruckBy_43 rfl ?_
    refine w_zret dX7_isStruckBy_45 rfl rfl ?_
    refine ⟨?_, ?_, ?_⟩
    · have e := hz1
      simp only [setR_51] at e
      have e2 : ¬ p_nx (upd (σ.1 51) (9 + 7 * k + 2) h) n < 100 := fun z => by rw [if_pos z] at e; cases e
      simp only [p_isStr, e2, if_false]
    · rw [setR_51, hq.1.1, setR_51, hv, upd_back]
    · exact Mr.setR.trans (hq.1.2.trans Mr.setR)
  · skip
    refine w_aload_n dX7_isStruckBy_21 rfl ?_
    refine w_getI dX7_isStruckBy_22 fl_X7_137 rfl rfl ?_
    refine w_iload_n dX7_isStruckBy_25 rfl ?_
    refine w_icmp_ne (t := 33) dX7_isStruckBy_26 (by decide) (fun hz2 => ?_) (fun hz2 => ?_)
    · skip
      refine w_iconst dX7_isStruckBy_33 ic_0 ?_
      refine w_istore dX7_isStruckBy_34 (by decide) rfl rfl ?_
      dsimp only [List.set]
      refine w_aload_n dX7_isStruckBy_36 rfl ?_
      refine w_iload_n dX7_isStruckBy_37 rfl ?_
      refine w_iconst dX7_isStruckBy_38 ic_2 ?_
      refine w_iload_n dX7_isStruckBy_39 rfl ?_
      refine w_callVv dX7_isStruckBy_40 ml_X7_57 mv_X7_puts rfl rfl (by decide) rfl (e7_puts G _ (k) (2) _ (by omega) (by omega)) rfl rfl (Nat.le_of_ble_eq_true rfl) ?_
      refine w_iload dX7_isStruckBy_43 rfl ?_
      refine w_zret dX7_isStruckBy_45 rfl rfl ?_
      refine ⟨?_, ?_, ?_⟩
      · have e := hz1
        simp only [setR_51] at e
        have e2 : p_nx (upd (σ.1 51) (9 + 7 * k + 2) h) n < 100 := Classical.byContradiction fun z => e (by rw [if_neg z])
        have e3 := hz2
        rw [hq.2.2.1, setR_51] at e3
        simp only [p_isStr, e2, e3, if_true, if_false]
      · rw [setR_51, hq.1.1, setR_51, hv, upd_back]
      · exact Mr.setR.trans (hq.1.2.trans Mr.setR)
    · skip
      refine w_iconst dX7_isStruckBy_29 ic_1 ?_
      refine w_goto (t := 34) dX7_isStruckBy_30 (by decide) ?_
      refine w_istore dX7_isStruckBy_34 (by decide) rfl rfl ?_
      dsimp only [List.set]
      refine w_aload_n dX7_isStruckBy_36 rfl ?_
      refine w_iload_n dX7_isStruckBy_37 rfl ?_
      refine w_iconst dX7_isStruckBy_38 ic_2 ?_
      refine w_iload_n dX7_isStruckBy_39 rfl ?_
      refine w_callVv dX7_isStruckBy_40 ml_X7_57 mv_X7_puts rfl rfl (by decide) rfl (e7_puts G _ (k) (2) _ (by omega) (by omega)) rfl rfl (Nat.le_of_ble_eq_true rfl) ?_
      refine w_iload dX7_isStruckBy_43 rfl ?_
      refine w_zret dX7_isStruckBy_45 rfl rfl ?_
      refine ⟨?_, ?_, ?_⟩
      · have e := hz1
        simp only [setR_51] at e
        have e2 : p_nx (upd (σ.1 51) (9 + 7 * k + 2) h) n < 100 := Classical.byContradiction fun z => e (by rw [if_neg z])
        have e3 := hz2
        rw [hq.2.2.1, setR_51] at e3
        simp only [p_isStr, e2, e3, if_true, if_false]
      · rw [setR_51, hq.1.1, setR_51, hv, upd_back]
      · exact Mr.setR.trans (hq.1.2.trans Mr.setR)
set_option maxRecDepth 100000 in
set_option maxHeartbeats 4000000 in
theorem e7_clocksOf (G : GT) (σ : Sg) (k q : Nat) (hk : k < 8) (hq : q < 2 ^ 31) (n : Nat) (hn : σ.1 51 8 = nI n) (h8 : n ≤ 8) : Ev G mX7_clocksOf [.ref 50, .int (nI k), .int (nI q)] σ (fun v σ' => v = some (.int (p_clk (σ.1 51) n k q)) ∧ Mq σ σ') := by
  refine Ev.ofL (m := 2) (L := [some (.ref 50), some (.int (nI k)), some (.int (nI q)), none, none]) rfl (Nat.le_of_ble_eq_true rfl) rfl rfl ?_
  refine w_aload_n dX7_clocksOf_0 rfl ?_
  refine w_iconst dX7_clocksOf_1 ic_1 ?_
  refine w_aload_n dX7_clocksOf_2 rfl ?_
  refine w_getR (t := 53) dX7_clocksOf_3 fl_X7_16 rfl (by decide) (by decide) rfl ?_
  refine w_callVv dX7_clocksOf_6 ml_X7_126 mv_X7_moveAll rfl rfl (by decide) rfl (e7_move1 G _ 53 rfl rfl (by decide) (by decide)) rfl rfl (Nat.le_of_ble_eq_true rfl) ?_
  refine w_iconst dX7_clocksOf_9 ic_0 ?_
  refine w_istore_n dX7_clocksOf_10 (by decide) rfl rfl ?_
  dsimp only [List.set]
  refine w_iconst dX7_clocksOf_11 ic_0 ?_
  refine w_istore dX7_clocksOf_12 (by decide) rfl rfl ?_
  dsimp only [List.set]
  have lp : ∀ (m : Nat) (i : Nat) (τ : Sg), q - i < m → i ≤ q → τ.1 51 = p_pass (σ.1 51) n i → Mr σ τ → (∀ j, j < 65 → τ.1 53 j = σ.1 51 j) → WP G mX7_clocksOf 14 [some (.ref 50), some (.int (nI k)), some (.int (nI q)), some (.int (p_clk (σ.1 51) n k i)), some (.int (nI i))] [] (τ) (fun v σ' => v = some (.int (p_clk (σ.1 51) n k q)) ∧ Mq σ σ') := by
    intro m
    induction m with
    | zero => intro i τ hm; exact absurd hm (Nat.not_lt_zero _)
    | succ m ih =>
      intro i τ hm hi h1 h3 h4
      refine w_iload dX7_clocksOf_14 rfl ?_
      refine w_iload_n dX7_clocksOf_16 rfl ?_
      refine w2_icmp_ge (t := 64) dX7_clocksOf_17 (by decide) (fun hz1 => ?_) (fun hz1 => ?_)
      · skip
        have hge := nlt_nI (by omega) (by omega) hz1
        have hen : i = q := by omega
        subst hen
        refine w_aload_n dX7_clocksOf_64 rfl ?_
        refine w_iconst dX7_clocksOf_65 ic_0 ?_
        refine w_aload_n dX7_clocksOf_66 rfl ?_
        refine w_getR (t := 53) dX7_clocksOf_67 fl_X7_16 rfl (by decide) (by decide) rfl ?_
        refine w_callVv dX7_clocksOf_70 ml_X7_126 mv_X7_moveAll rfl rfl (by decide) rfl (e7_move0 G _ 53 rfl rfl (by decide) (by decide)) rfl rfl (Nat.le_of_ble_eq_true rfl) ?_
        refine w_iload_n dX7_clocksOf_73 rfl ?_
        refine w_iret dX7_clocksOf_74 rfl ?_
        refine ⟨rfl, back51 h4 (fun j h => by rw [h1, p_pass_65 _ h8 h]), h3.trans (Mr.cp (by decide))⟩
      · skip
        have hlt := lt_nI (by omega) (by omega) hz1
        refine w_iload_n dX7_clocksOf_20 rfl ?_
        refine w_aload_n dX7_clocksOf_21 rfl ?_
        refine w_callVi dX7_clocksOf_22 ml_X7_105 mv_X7_doesBreak rfl rfl (by decide) rfl (e7_doesBreak G _) rfl rfl (Nat.le_of_ble_eq_true rfl) ?_
        refine w_if_eq (t := 51) dX7_clocksOf_25 (by decide) (fun hz2 => ?_) (fun hz2 => ?_)
        · skip
          refine w_iconst dX7_clocksOf_51 ic_0 ?_
          have cc := hz2
          have cc2 := cc
          refine w_ior dX7_clocksOf_52 ?_
          refine w_istore_n dX7_clocksOf_53 (by decide) rfl rfl ?_
          dsimp only [List.set]
          refine w_aload_n dX7_clocksOf_54 rfl ?_
          refine w_callVv dX7_clocksOf_55 ml_X7_112 mv_X7_oneHour rfl rfl (by decide) rfl (e7_oneHour G _ n (by rw [h1, p_pass_8]; exact hn) h8) rfl rfl (Nat.le_of_ble_eq_true rfl) ?_
          refine w_iincN (a := i) (b := 1) dX7_clocksOf_58 rfl ic_1 (by decide) rfl rfl ?_
          dsimp only [List.set]
          refine w_goto (t := 14) dX7_clocksOf_61 (by decide) ?_
          have q0 := ih (i + 1) (setR τ (p_hour (τ.1 51) n)) (by omega) (by omega) (by rw [setR_51, h1]; rfl) (h3.trans Mr.setR) (fun j hj => by rw [setR_ne (by decide)]; exact h4 j hj)
          simp only [p_clk, ← h1, cc, cc2, if_true, if_false] at q0
          exact q0
        · skip
          refine w_aload_n dX7_clocksOf_28 rfl ?_
          refine w_aload_n dX7_clocksOf_29 rfl ?_
          refine w_getR (t := 51) dX7_clocksOf_30 fl_X7_7 rfl (by decide) (by decide) rfl ?_
          refine w_iconst dX7_clocksOf_33 ic_0 ?_
          refine w_iald (j := 0) dX7_clocksOf_34 rfl (by decide) rfl (by decide) ?_
          refine w_callVi dX7_clocksOf_35 ml_X7_101 mv_X7_struckAt rfl rfl (by decide) rfl (e7_struckAt G _ _ n (by rw [h1, p_pass_8]; exact hn) h8) rfl rfl (Nat.le_of_ble_eq_true rfl) ?_
          refine w_iload_n dX7_clocksOf_38 rfl ?_
          refine w_icmp_ne (t := 51) dX7_clocksOf_39 (by decide) (fun hz3 => ?_) (fun hz3 => ?_)
          · skip
            refine w_iconst dX7_clocksOf_51 ic_0 ?_
            have cc := hz2
            have cc2 := hz3
            refine w_ior dX7_clocksOf_52 ?_
            refine w_istore_n dX7_clocksOf_53 (by decide) rfl rfl ?_
            dsimp only [List.set]
            refine w_aload_n dX7_clocksOf_54 rfl ?_
            refine w_callVv dX7_clocksOf_55 ml_X7_112 mv_X7_oneHour rfl rfl (by decide) rfl (e7_oneHour G _ n (by rw [h1, p_pass_8]; exact hn) h8) rfl rfl (Nat.le_of_ble_eq_true rfl) ?_
            refine w_iincN (a := i) (b := 1) dX7_clocksOf_58 rfl ic_1 (by decide) rfl rfl ?_
            dsimp only [List.set]
            refine w_goto (t := 14) dX7_clocksOf_61 (by decide) ?_
            have q0 := ih (i + 1) (setR τ (p_hour (τ.1 51) n)) (by omega) (by omega) (by rw [setR_51, h1]; rfl) (h3.trans Mr.setR) (fun j hj => by rw [setR_ne (by decide)]; exact h4 j hj)
            simp only [p_clk, ← h1, cc, cc2, if_true, if_false] at q0
            exact q0
          · skip
            refine w_iconst dX7_clocksOf_42 ic_1 ?_
            refine w_aload_n dX7_clocksOf_43 rfl ?_
            refine w_callVi dX7_clocksOf_44 ml_X7_77 mv_X7_clock rfl rfl (by decide) rfl (e7_clock G _) rfl rfl (Nat.le_of_ble_eq_true rfl) ?_
            refine w_ishl dX7_clocksOf_47 ?_
            refine w_goto (t := 52) dX7_clocksOf_48 (by decide) ?_
            have cc := hz2
            have cc2 := hz3
            refine w_ior dX7_clocksOf_52 ?_
            refine w_istore_n dX7_clocksOf_53 (by decide) rfl rfl ?_
            dsimp only [List.set]
            refine w_aload_n dX7_clocksOf_54 rfl ?_
            refine w_callVv dX7_clocksOf_55 ml_X7_112 mv_X7_oneHour rfl rfl (by decide) rfl (e7_oneHour G _ n (by rw [h1, p_pass_8]; exact hn) h8) rfl rfl (Nat.le_of_ble_eq_true rfl) ?_
            refine w_iincN (a := i) (b := 1) dX7_clocksOf_58 rfl ic_1 (by decide) rfl rfl ?_
            dsimp only [List.set]
            refine w_goto (t := 14) dX7_clocksOf_61 (by decide) ?_
            have q0 := ih (i + 1) (setR τ (p_hour (τ.1 51) n)) (by omega) (by omega) (by rw [setR_51, h1]; rfl) (h3.trans Mr.setR) (fun j hj => by rw [setR_ne (by decide)]; exact h4 j hj)
            simp only [p_clk, ← h1, cc, cc2, if_true, if_false] at q0
            exact q0
  have q0 := lp (q + 1) 0 (cpN σ 51 53 65) (by omega) (by omega) (funext fun j => cpN_ne (by decide)) (Mr.cp (by decide)) (fun j hj => cpN_b hj)
  exact q0
