theorem lt_nI {r n : Nat} (hr : r < 2 ^ 31) (hn : n < 2 ^ 31) (h : nI r < nI n) : r < n := (nI_ltI hr hn).mp h
theorem nlt_nI {r n : Nat} (hr : r < 2 ^ 31) (hn : n < 2 ^ 31) (h : ¬ nI r < nI n) : n ≤ r := Nat.not_lt.mp (fun z => h ((nI_ltI hr hn).mpr z))
set_option maxRecDepth 100000 in
set_option maxHeartbeats 4000000 in
theorem e7_struckAt (G : GT) (σ : Sg) (c : Int32) (n : Nat) (hn : σ.1 51 8 = nI n) (h8 : n ≤ 8) : Evi G mX7_struckAt [.ref 50, .int c] σ (p_struck (σ.1 51) n c) (σ) := by
  refine Ev.ofL (m := 4) (L := [some (.ref 50), some (.int c), none, none, none, none]) rfl (Nat.le_of_ble_eq_true rfl) rfl rfl ?_
  refine w_iconst dX7_struckAt_0 ic_m1 ?_
  refine w_istore_n dX7_struckAt_1 (by decide) rfl rfl ?_
  dsimp only [List.set]
  refine w_iconst dX7_struckAt_2 ic_0 ?_
  refine w_istore_n dX7_struckAt_3 (by decide) rfl rfl ?_
  dsimp only [List.set]
  refine w_iconst dX7_struckAt_4 ic_0 ?_
  refine w_istore dX7_struckAt_5 (by decide) rfl rfl ?_
  dsimp only [List.set]
  have lp : ∀ (m : Nat) (r : Nat) (x : Option Value), n - r < m → r ≤ n → WP G mX7_struckAt 7 [some (.ref 50), some (.int c), some (.int (p_best (σ.1 51) c r).1), some (.int (p_best (σ.1 51) c r).2), some (.int (nI r)), x] [] (σ) (fun v σ' => v = some (.int (p_struck (σ.1 51) n c)) ∧ σ' = (σ)) := by
    intro m
    induction m with
    | zero => intro r x hm; exact absurd hm (Nat.not_lt_zero _)
    | succ m ih =>
      intro r x hm hr
      refine w_iload dX7_struckAt_7 rfl ?_
      refine w_aload_n dX7_struckAt_9 rfl ?_
      refine w_getR (t := 51) dX7_struckAt_10 fl_X7_7 rfl (by decide) (by decide) rfl ?_
      refine w_bipush dX7_struckAt_13 bp_8 ?_
      refine w_iald (j := 8) dX7_struckAt_15 rfl (by decide) rfl (by decide) ?_
      refine w2_icmp_ge (t := 60) dX7_struckAt_16 (by decide) (fun c1 => ?_) (fun c1 => ?_)
      · skip
        rw [hn] at c1
        have hge := nlt_nI (by omega) (by omega) c1
        have hen : r = n := by omega
        subst hen
        refine w_iload_n dX7_struckAt_60 rfl ?_
        refine w_iret dX7_struckAt_61 rfl ?_
        exact ⟨rfl, rfl⟩
      · skip
        rw [hn] at c1
        have hlt := lt_nI (by omega) (by omega) c1
        refine w_aload_n dX7_struckAt_19 rfl ?_
        refine w_iload dX7_struckAt_20 rfl ?_
        refine w_iload_n dX7_struckAt_22 rfl ?_
        refine w_callVi dX7_struckAt_23 ml_X7_90 mv_X7_draws rfl rfl (by decide) rfl (e7_draws G _ (r) _ (by omega)) rfl rfl (Nat.le_of_ble_eq_true rfl) ?_
        refine w_istore dX7_struckAt_26 (by decide) rfl rfl ?_
        dsimp only [List.set]
        refine w_iload dX7_struckAt_28 rfl ?_
        refine w_iload_n dX7_struckAt_30 rfl ?_
        refine w2_icmp_le (t := 39) dX7_struckAt_31 (by decide) (fun c2 => ?_) (fun c2 => ?_)
        · skip
          refine w_iload_n dX7_struckAt_39 rfl ?_
          refine w_istore_n dX7_struckAt_40 (by decide) rfl rfl ?_
          dsimp only [List.set]
          have cc := c2
          refine w_iload dX7_struckAt_41 rfl ?_
          refine w_iload_n dX7_struckAt_43 rfl ?_
          refine w2_icmp_le (t := 52) dX7_struckAt_44 (by decide) (fun c3 => ?_) (fun c3 => absurd c3 c2)
          refine w_iload_n dX7_struckAt_52 rfl ?_
          refine w_istore_n dX7_struckAt_53 (by decide) rfl rfl ?_
          dsimp only [List.set]
          refine w_iincN (a := r) (b := 1) dX7_struckAt_54 rfl ic_1 (by decide) rfl rfl ?_
          dsimp only [List.set]
          refine w_goto (t := 7) dX7_struckAt_57 (by decide) ?_
          have q := ih (r + 1) (some (.int (p_draws (σ.1 51) r c))) (by omega) (by omega)
          simp only [p_best, cc, if_true, if_false] at q
          exact q
        · skip
          refine w_iload dX7_struckAt_34 rfl ?_
          refine w_goto (t := 40) dX7_struckAt_36 (by decide) ?_
          refine w_istore_n dX7_struckAt_40 (by decide) rfl rfl ?_
          dsimp only [List.set]
          have cc := c2
          refine w_iload dX7_struckAt_41 rfl ?_
          refine w_iload_n dX7_struckAt_43 rfl ?_
          refine w2_icmp_le (t := 52) dX7_struckAt_44 (by decide) (fun c4 => absurd c2 c4) (fun c4 => ?_)
          refine w_iload dX7_struckAt_47 rfl ?_
          refine w_goto (t := 53) dX7_struckAt_49 (by decide) ?_
          refine w_istore_n dX7_struckAt_53 (by decide) rfl rfl ?_
          dsimp only [List.set]
          refine w_iincN (a := r) (b := 1) dX7_struckAt_54 rfl ic_1 (by decide) rfl rfl ?_
          dsimp only [List.set]
          refine w_goto (t := 7) dX7_struckAt_57 (by decide) ?_
          have q := ih (r + 1) (some (.int (p_draws (σ.1 51) r c))) (by omega) (by omega)
          simp only [p_best, cc, if_true, if_false] at q
          exact q
  exact lp (n + 1) 0 none (by omega) (by omega)
