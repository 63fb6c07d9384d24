theorem b_best_congr {d d' : Nat → Int32} : ∀ {n : Nat}, (∀ r, r < n → d r = d' r) → b_best d n = b_best d' n
  | 0, _ => rfl
  | n + 1, h => by
    rw [b_best, b_best, b_best_congr (fun r hr => h r (by omega)), h n (by omega)]
/-- a plain's target from a place -/
def tgt (σ : Sg) (p n : Nat) (pl : Int32) : Int32 := oI (b_best (cdr σ p pl) n).1
theorem tgt_set {σ : Sg} {p n c : Nat} {f : Nat → Int32} {pl : Int32} (hc : ¬ kd c = 3) (hr : ∀ j, j < 8 → kd (σ.2.2 (p + 11) j) = 3) (h8 : n ≤ 8) : tgt (setC σ c f) p n pl = tgt σ p n pl := by
  unfold tgt
  rw [b_best_congr (d' := cdr σ p pl) (fun r hrn => ?_)]
  unfold cdr
  show c_draws ((setC σ c f).1 (σ.2.2 (p + 11) r)) pl = _
  have hne : σ.2.2 (p + 11) r ≠ c := by
    intro z
    have q0 := hr r (by omega)
    rw [z] at q0
    exact hc q0
  rw [setC_ne hne]
def aimT (σ : Sg) (p n m : Nat) : Nat → Int32 := fun i => if i < m then tgt σ p n (nI i) else σ.1 (p + 14) i
theorem aimT_0 (σ : Sg) (p n : Nat) : aimT σ p n 0 = σ.1 (p + 14) := by
  funext i
  exact if_neg (Nat.not_lt_zero i)
theorem aimT_s (σ : Sg) (p n m : Nat) : upd (aimT σ p n m) m (tgt σ p n (nI m)) = aimT σ p n (m + 1) := by
  funext i
  by_cases hi : i = m
  · subst hi
    rw [updS]
    exact (if_pos (by omega)).symm
  · rw [updN hi]
    unfold aimT
    by_cases h : i < m
    · rw [if_pos h, if_pos (by omega)]
    · rw [if_neg h, if_neg (by omega)]
set_option maxRecDepth 100000 in
set_option maxHeartbeats 800000 in
theorem c1_aim (G : GT) (σ : Sg) (p : Nat) (hp : kd p = 1) (hp8 : kd (p + 8) = 0) (hp11 : kd (p + 11) = 10) (hp14 : kd (p + 14) = 8) (hr : ∀ j, j < 8 → kd (σ.2.2 (p + 11) j) = 3) (h62 : p + 14 < 62) (hl14 : ln (p + 14) = 16) (n : Nat) (hn : σ.1 p 2 = nI n) (h8 : n ≤ 8) : Evv G mX1_aim [.ref p] σ (setC σ (p + 14) (aimT σ p n 16)) := by
  refine Ev.ofL (m := 1) (L := [some (.ref p), none]) rfl (Nat.le_of_ble_eq_true rfl) rfl rfl ?_
  refine w_iconst dX1_aim_0 ic_0 ?_
  refine w_istore_n dX1_aim_1 (by decide) rfl rfl ?_
  dsimp only [List.set]
  have lp : ∀ (m : Nat) (i : Nat), 16 - i < m → i ≤ 16 → WP G mX1_aim 2 [some (.ref p), some (.int (nI i))] [] (setC σ (p + 14) (aimT σ p n i)) (fun v σ' => v = none ∧ σ' = (setC σ (p + 14) (aimT σ p n 16))) := by
    intro m
    induction m with
    | zero => intro i hm; exact absurd hm (Nat.not_lt_zero _)
    | succ m ih =>
      intro i hm hi
      refine w_iload_n dX1_aim_2 rfl ?_
      refine w_bipush dX1_aim_3 bp_16 ?_
      refine w2_icmp_ge (t := 25) dX1_aim_5 (by decide) (fun hz1 => ?_) (fun hz1 => ?_)
      · skip
        have hge : 16 ≤ i := nlt_nI (n := 16) (by omega) (by decide) hz1
        have hen : i = 16 := by omega
        subst hen
        refine w_vret dX1_aim_25 rfl ?_
        exact ⟨rfl, rfl⟩
      · skip
        have hlt : i < 16 := lt_nI (n := 16) (by omega) (by decide) hz1
        refine w_aload_n dX1_aim_8 rfl ?_
        refine w_getR (t := (p + 14)) dX1_aim_9 fl_X1_38 hp (by decide) (by decide) rfl ?_
        refine w_iload_n dX1_aim_12 rfl ?_
        refine w_aload_n dX1_aim_13 rfl ?_
        refine w_iload_n dX1_aim_14 rfl ?_
        refine w_callVi dX1_aim_15 ml_X1_57 mv_X1_targetFrom rfl hp (by decide) rfl (c1_targetFrom G (setC σ (p + 14) (aimT σ p n i)) p hp hp8 hp11 hp14 hr (nI i) n (by rw [setC_ne (by omega)]; exact hn) h8) rfl rfl (Nat.le_of_ble_eq_true rfl) ?_
        try simp only [wI_C, setC_setC, setC_at]
        refine w_eqi (show _ = tgt σ p n (nI i) from tgt_set (by rw [hp14]; decide) hr h8) ?_
        · skip
          refine w_iast (j := i) dX1_aim_18 hp14 (by omega) rfl (by rw [hl14]; exact hlt) ?_
          try simp only [wI_C, setC_setC, setC_at]
          refine w_iincN (a := i) (b := 1) dX1_aim_19 rfl ic_1 (by decide) rfl rfl ?_
          dsimp only [List.set]
          refine w_goto (t := 2) dX1_aim_22 (by decide) ?_
          rw [aimT_s]
          exact ih (i + 1) (by omega) (by omega)
  have q0 := lp 17 0 (by omega) (by omega)
  rw [aimT_0, setC_self] at q0
  exact q0
