/-! sheets -/
theorem badk_cases (μ : MO) (sx : Int32) : (p_in sx 0 3 = 0 ∧ p_bad μ sx = -1000000001) ∨ (∃ s, s < 4 ∧ sx = nI s ∧ ¬ p_in (nI s) 0 3 = 0 ∧ mBit μ s = 0 ∧ p_bad μ (nI s) = -1000000006) ∨ ∃ s, s < 4 ∧ sx = nI s ∧ ¬ p_in (nI s) 0 3 = 0 ∧ ¬ mBit μ s = 0 ∧ p_bad μ (nI s) = 0 := by
  unfold p_bad
  by_cases h : p_in sx 0 3 = 0
  · exact Or.inl ⟨h, if_pos h⟩
  · obtain ⟨s, hs, rfl⟩ := in_0 (m := 3) h rfl (by decide)
    have hc : (nI s).toNatClampNeg = s := nI_clamp (by omega)
    right
    by_cases b : mBit μ s = 0
    · exact Or.inl ⟨s, by omega, rfl, h, b, by rw [if_neg h, hc, if_pos b]⟩
    · exact Or.inr ⟨s, by omega, rfl, h, b, by rw [if_neg h, hc, if_neg b]⟩
set_option maxRecDepth 100000 in
set_option maxHeartbeats 800000 in
theorem k_finding (G : GT) (σ : Sg) (μ : MO) (n : Nat) (hC : RC σ μ n) (sx : Int32) : Evi G mX6_findingOfSheet [.ref 0, .int sx] σ (p_bad μ sx) (σ) := by
  have h8 := hC.rv.le
  have hn := hC.rv.n
  have hnR := hC.nn
  have hr1 : ∀ j, j < 8 → kd (σ.2.2 12 j) = 3 := hC.p1.kd pp1
  refine Ev.ofL (m := 0) (L := [some (.ref 0), some (.int sx)]) rfl (Nat.le_of_ble_eq_true rfl) rfl rfl ?_
  refine w_iload_n dX6_findingOfSheet_0 rfl ?_
  refine w_callSi dX6_findingOfSheet_1 ml_X6_228 ms_X6_isSheet rfl (c_isSheet G _ _) rfl rfl (Nat.le_of_ble_eq_true rfl) ?_
  refine w_if_ne (t := 10) dX6_findingOfSheet_4 (by decide) (fun hz1 => ?_) (fun hz1 => ?_)
  · skip
    obtain ⟨s, hs3, rfl⟩ := in_0 (m := 3) hz1 rfl (by decide)
    have hs : s < 4 := by omega
    have hcs : (nI s).toNatClampNeg = s := nI_clamp (by omega)
    obtain ⟨z, z1, z2, z3, z4, z5, z6⟩ := hC.sh s hs
    · skip
      refine w_aload_n dX6_findingOfSheet_10 rfl ?_
      refine w_getR (t := 6) dX6_findingOfSheet_11 fl_X6_35 rfl (by decide) (by decide) rfl ?_
      refine w_iload_n dX6_findingOfSheet_14 rfl ?_
      refine w_sald (j := s) dX6_findingOfSheet_15 rfl (by omega) ?_
      refine w_callVi dX6_findingOfSheet_16 ml_X6_250 mv_X4_isMissing rfl (kd_sh hs) (by decide) rfl (c4_isMissing G _ _ (kd_sh hs)) rfl rfl (Nat.le_of_ble_eq_true rfl) ?_
      refine w_eqi (show _ = if mBit μ s = 0 then 1 else 0 from by unfold k_miss; rw [z3]) ?_
      refine w_if_eq (t := 27) dX6_findingOfSheet_19 (by decide) (fun hz2 => ?_) (fun hz2 => ?_)
      · skip
        refine w_iconst dX6_findingOfSheet_27 ic_0 ?_
        refine w_iret dX6_findingOfSheet_28 rfl ?_
        have hb : ¬ mBit μ s = 0 := fun z => by
          have y := hz2
          rw [if_pos z] at y
          cases y
        exact ⟨by unfold p_bad; rw [if_neg hz1, hcs, if_neg hb], rfl⟩
      · skip
        refine w_ldc dX6_findingOfSheet_22 kc_X6_253 ?_
        refine w_goto (t := 28) dX6_findingOfSheet_24 (by decide) ?_
        refine w_iret dX6_findingOfSheet_28 rfl ?_
        have hb : mBit μ s = 0 := Classical.byContradiction fun z => hz2 (if_neg z)
        exact ⟨by unfold p_bad; rw [if_neg hz1, hcs, if_pos hb], rfl⟩
  · skip
    refine w_ldc dX6_findingOfSheet_7 kc_X6_50 ?_
    refine w_iret dX6_findingOfSheet_9 rfl ?_
    exact ⟨by unfold p_bad; rw [if_pos hz1], rfl⟩
def p_badB (μ : MO) (sx r : Int32) : Int32 := if p_bad μ sx = 0 then (if p_in r 0 (μ.1 8 - 1) = 0 then -1000000001 else 0) else p_bad μ sx
set_option maxRecDepth 100000 in
set_option maxHeartbeats 800000 in
theorem k_findingB (G : GT) (σ : Sg) (μ : MO) (n : Nat) (hC : RC σ μ n) (sx r : Int32) : Evi G mX6_findingOfBook [.ref 0, .int sx, .int r] σ (p_badB μ sx r) (σ) := by
  have h8 := hC.rv.le
  have hn := hC.rv.n
  have hnR := hC.nn
  have hr1 : ∀ j, j < 8 → kd (σ.2.2 12 j) = 3 := hC.p1.kd pp1
  refine Ev.ofL (m := 1) (L := [some (.ref 0), some (.int sx), some (.int r), none]) rfl (Nat.le_of_ble_eq_true rfl) rfl rfl ?_
  refine w_aload_n dX6_findingOfBook_0 rfl ?_
  refine w_iload_n dX6_findingOfBook_1 rfl ?_
  refine w_callVi dX6_findingOfBook_2 ml_X6_239 mv_X6_findingOfSheet rfl rfl (by decide) rfl (k_finding G _ μ n hC _) rfl rfl (Nat.le_of_ble_eq_true rfl) ?_
  refine w_istore_n dX6_findingOfBook_5 (by decide) rfl rfl ?_
  dsimp only [List.set]
  refine w_iload_n dX6_findingOfBook_6 rfl ?_
  refine w_if_ne (t := 21) dX6_findingOfBook_7 (by decide) (fun hz1 => ?_) (fun hz1 => ?_)
  · skip
    refine w_iload_n dX6_findingOfBook_21 rfl ?_
    refine w_iret dX6_findingOfBook_22 rfl ?_
    exact ⟨by simp only [p_badB, eq_false hz1, if_true, if_false], rfl⟩
  · skip
    refine w_aload_n dX6_findingOfBook_10 rfl ?_
    refine w_iload_n dX6_findingOfBook_11 rfl ?_
    refine w_callVi dX6_findingOfBook_12 ml_X6_90 mv_X6_isRod rfl rfl (by decide) rfl (k_isRod G _ μ n hC _) rfl rfl (Nat.le_of_ble_eq_true rfl) ?_
    refine w_if_ne (t := 21) dX6_findingOfBook_15 (by decide) (fun hz2 => ?_) (fun hz2 => ?_)
    · skip
      refine w_iload_n dX6_findingOfBook_21 rfl ?_
      refine w_iret dX6_findingOfBook_22 rfl ?_
      have e0 : p_bad μ sx = 0 := hz1
      exact ⟨by rw [e0]; simp only [p_badB, eq_true hz1, eq_false hz2, if_true, if_false], rfl⟩
    · skip
      refine w_ldc dX6_findingOfBook_18 kc_X6_50 ?_
      refine w_iret dX6_findingOfBook_20 rfl ?_
      have e0 : p_bad μ sx = 0 := hz1
      exact ⟨by simp only [p_badB, eq_true hz1, eq_true hz2, if_true, if_false], rfl⟩
theorem badB_cases (μ : MO) (sx rx : Int32) : (p_in sx 0 3 = 0 ∧ p_badB μ sx rx = -1000000001) ∨ (∃ s, s < 4 ∧ sx = nI s ∧ ¬ p_in (nI s) 0 3 = 0 ∧ mBit μ s = 0 ∧ p_badB μ (nI s) rx = -1000000006) ∨ (∃ s, s < 4 ∧ sx = nI s ∧ ¬ p_in (nI s) 0 3 = 0 ∧ ¬ mBit μ s = 0 ∧ p_in rx 0 (μ.1 8 - 1) = 0 ∧ p_badB μ (nI s) rx = -1000000001) ∨ ∃ s, s < 4 ∧ sx = nI s ∧ ¬ p_in (nI s) 0 3 = 0 ∧ ¬ mBit μ s = 0 ∧ ¬ p_in rx 0 (μ.1 8 - 1) = 0 ∧ p_badB μ (nI s) rx = 0 := by
  unfold p_badB
  rcases badk_cases μ sx with ⟨hb1, eb⟩ | ⟨s, hs, es, hb1, hb2, eb⟩ | ⟨s, hs, es, hb1, hb2, eb⟩
  · exact Or.inl ⟨hb1, by rw [eb, if_neg (by decide)]⟩
  · exact Or.inr (Or.inl ⟨s, hs, es, hb1, hb2, by rw [eb, if_neg (by decide)]⟩)
  · by_cases h3 : p_in rx 0 (μ.1 8 - 1) = 0
    · exact Or.inr (Or.inr (Or.inl ⟨s, hs, es, hb1, hb2, h3, by rw [eb, if_pos rfl, if_pos h3]⟩))
    · exact Or.inr (Or.inr (Or.inr ⟨s, hs, es, hb1, hb2, h3, by rw [eb, if_pos rfl, if_neg h3]⟩))
set_option maxRecDepth 100000 in
set_option maxHeartbeats 800000 in
theorem c4_put (G : GT) (σ : Sg) (s : Nat) (hs : s < 4) (i : Nat) (hi : i < 40) (v : Int64) : Evv G mX4_put [.ref (18 + s), .int (nI i), .long v] σ (wL σ (22 + s) i (p_nar (σ.1 (18 + s) 1) v)) := by
  refine Ev.ofL (m := 0) (L := [some (.ref (18 + s)), some (.int (nI i)), some (.long v), none]) rfl (Nat.le_of_ble_eq_true rfl) rfl rfl ?_
  refine w_aload_n dX4_put_0 rfl ?_
  refine w_getI dX4_put_1 fl_X4_15 (kd_sh hs) rfl ?_
  refine w_bipush dX4_put_4 bp_8 ?_
  refine w_icmp_ne (t := 22) dX4_put_6 (by decide) (fun hz1 => ?_) (fun hz1 => ?_)
  · skip
    refine w_aload_n dX4_put_22 rfl ?_
    refine w_getI dX4_put_23 fl_X4_15 (kd_sh hs) rfl ?_
    refine w_bipush dX4_put_26 bp_16 ?_
    refine w_icmp_ne (t := 44) dX4_put_28 (by decide) (fun hz2 => ?_) (fun hz2 => ?_)
    · skip
      refine w_aload_n dX4_put_44 rfl ?_
      refine w_getR (t := (22 + s)) dX4_put_45 fl_X4_9 (kd_sh hs) (by decide) (by decide) sr_sh ?_
      refine w_iload_n dX4_put_48 rfl ?_
      refine w_lload_n dX4_put_49 rfl ?_
      refine w_last (j := i) dX4_put_50 (kd_nu hs) rfl (by rw [ln_nu hs]; exact hi) ?_
      refine w_vret dX4_put_51 rfl ?_
      exact ⟨rfl, by rw [p_nar, if_neg hz1, if_neg hz2]⟩
    · skip
      refine w_aload_n dX4_put_31 rfl ?_
      refine w_getR (t := (22 + s)) dX4_put_32 fl_X4_9 (kd_sh hs) (by decide) (by decide) sr_sh ?_
      refine w_iload_n dX4_put_35 rfl ?_
      refine w_lload_n dX4_put_36 rfl ?_
      refine w_l2i dX4_put_37 ?_
      refine w_i2s dX4_put_38 ?_
      refine w_i2l dX4_put_39 ?_
      refine w_last (j := i) dX4_put_40 (kd_nu hs) rfl (by rw [ln_nu hs]; exact hi) ?_
      refine w_goto (t := 51) dX4_put_41 (by decide) ?_
      refine w_vret dX4_put_51 rfl ?_
      exact ⟨rfl, by rw [p_nar, if_neg hz1, if_pos hz2, nar16]⟩
  · skip
    refine w_aload_n dX4_put_9 rfl ?_
    refine w_getR (t := (22 + s)) dX4_put_10 fl_X4_9 (kd_sh hs) (by decide) (by decide) sr_sh ?_
    refine w_iload_n dX4_put_13 rfl ?_
    refine w_lload_n dX4_put_14 rfl ?_
    refine w_l2i dX4_put_15 ?_
    refine w_i2b dX4_put_16 ?_
    refine w_i2l dX4_put_17 ?_
    refine w_last (j := i) dX4_put_18 (kd_nu hs) rfl (by rw [ln_nu hs]; exact hi) ?_
    refine w_goto (t := 51) dX4_put_19 (by decide) ?_
    refine w_vret dX4_put_51 rfl ?_
    exact ⟨rfl, by rw [p_nar, if_pos hz1, nar8]⟩
def LyI (σ τ : Sg) (s : Nat) (b : Int32) (z i : Nat) : Prop := τ.1 (18 + s) 1 = b ∧ τ.1 (18 + s) 2 = nI z ∧ (∀ c j, c ≠ 18 + s → τ.1 c j = σ.1 c j) ∧ (∀ c j, c ≠ 22 + s → τ.2.1 c j = σ.2.1 c j) ∧ (∀ j, j < i → τ.2.1 (22 + s) j = 0) ∧ τ.2.2 = σ.2.2
theorem LyI.step {σ τ : Sg} {s z i : Nat} {b : Int32} (h : LyI σ τ s b z i) : LyI σ (wL τ (22 + s) i 0) s b z (i + 1) := by
  obtain ⟨h1, h2, h3, h4, h5, h6⟩ := h
  refine ⟨h1, h2, h3, fun c j hc => (wL_c hc).trans (h4 c j hc), fun j hj => ?_, h6⟩
  by_cases e : j = i
  · subst e; exact wL_s _ _ _ _
  · rw [wL_k e]; exact h5 j (by omega)
set_option maxRecDepth 100000 in
set_option maxHeartbeats 800000 in
theorem q4_layNew (G : GT) (σ : Sg) (s : Nat) (hs : s < 4) (b : Int32) (q z : Nat) (hz : (if b = 0 then 0 else nI q) = nI z) (hz40 : z ≤ 40) : Ev G mX4_layNew [.ref (18 + s), .int b, .int (nI q)] σ (fun v τ => v = none ∧ LyI σ τ s b z z) := by
  refine Ev.ofL (m := 1) (L := [some (.ref (18 + s)), some (.int b), some (.int (nI q)), none]) rfl (Nat.le_of_ble_eq_true rfl) rfl rfl ?_
  refine w_aload_n dX4_layNew_0 rfl ?_
  refine w_iload_n dX4_layNew_1 rfl ?_
  refine w_putI dX4_layNew_2 fl_X4_15 (kd_sh hs) rfl (by decide +kernel) ?_
  refine w_aload_n dX4_layNew_5 rfl ?_
  refine w_iload_n dX4_layNew_6 rfl ?_
  refine w_if_ne (t := 14) dX4_layNew_7 (by decide) (fun hz1 => ?_) (fun hz1 => ?_)
  · skip
    refine w_iload_n dX4_layNew_14 rfl ?_
    refine w_eqi (show _ = nI z from by rw [← hz, if_neg hz1]) ?_
    · skip
      refine w_putI dX4_layNew_15 fl_X4_19 (kd_sh hs) rfl (by decide +kernel) ?_
      refine w_iconst dX4_layNew_18 ic_0 ?_
      refine w_istore_n dX4_layNew_19 (by decide) rfl rfl ?_
      dsimp only [List.set]
      have lp : ∀ (m : Nat) (i : Nat) (τ : Sg), z - i < m → i ≤ z → LyI σ τ s b z i → WP G mX4_layNew 20 [some (.ref (18 + s)), some (.int b), some (.int (nI q)), some (.int (nI i))] [] (τ) (fun v τ => v = none ∧ LyI σ τ s b z z) := by
        intro m
        induction m with
        | zero => intro i τ hmz; exact absurd hmz (Nat.not_lt_zero _)
        | succ m ih =>
          intro i τ hmz hi ht
          refine w_iload_n dX4_layNew_20 rfl ?_
          refine w_aload_n dX4_layNew_21 rfl ?_
          refine w_getI dX4_layNew_22 fl_X4_19 (kd_sh hs) rfl ?_
          refine w_eqi ht.2.1 ?_
          refine w2_icmp_ge (t := 41) dX4_layNew_25 (by decide) (fun hz2 => ?_) (fun hz2 => ?_)
          · skip
            have hge := nlt_nI (by omega) (by omega) hz2
            have hen : i = z := by omega
            subst hen
            refine w_vret dX4_layNew_41 rfl ?_
            exact ⟨rfl, ht⟩
          · skip
            have hlt := lt_nI (by omega) (by omega) hz2
            refine w_aload_n dX4_layNew_28 rfl ?_
            refine w_getR (t := (22 + s)) dX4_layNew_29 fl_X4_9 (kd_sh hs) (by decide) (by decide) sr_sh ?_
            refine w_iload_n dX4_layNew_32 rfl ?_
            refine w_lconst dX4_layNew_33 lc_0 ?_
            refine w_last (j := i) dX4_layNew_34 (kd_nu hs) rfl (by rw [ln_nu hs]; omega) ?_
            refine w_iincN (a := i) (b := 1) dX4_layNew_35 rfl ic_1 (by decide) rfl rfl ?_
            dsimp only [List.set]
            refine w_goto (t := 20) dX4_layNew_38 (by decide) ?_
            exact ih (i + 1) _ (by omega) (by omega) ht.step
      exact lp (z + 1) 0 _ (by omega) (by omega) ⟨(wI_k (by decide)).trans (wI_s _ _ _ _), wI_s _ _ _ _, fun c j hc => (wI_c hc).trans (wI_c hc), fun _ _ _ => rfl, fun j hj => absurd hj (Nat.not_lt_zero j), rfl⟩
  · skip
    refine w_iconst dX4_layNew_10 ic_0 ?_
    refine w_goto (t := 15) dX4_layNew_11 (by decide) ?_
    refine w_eqi (show _ = nI z from by rw [← hz, if_pos hz1]) ?_
    · skip
      refine w_putI dX4_layNew_15 fl_X4_19 (kd_sh hs) rfl (by decide +kernel) ?_
      refine w_iconst dX4_layNew_18 ic_0 ?_
      refine w_istore_n dX4_layNew_19 (by decide) rfl rfl ?_
      dsimp only [List.set]
      have lp : ∀ (m : Nat) (i : Nat) (τ : Sg), z - i < m → i ≤ z → LyI σ τ s b z i → WP G mX4_layNew 20 [some (.ref (18 + s)), some (.int b), some (.int (nI q)), some (.int (nI i))] [] (τ) (fun v τ => v = none ∧ LyI σ τ s b z z) := by
        intro m
        induction m with
        | zero => intro i τ hmz; exact absurd hmz (Nat.not_lt_zero _)
        | succ m ih =>
          intro i τ hmz hi ht
          refine w_iload_n dX4_layNew_20 rfl ?_
          refine w_aload_n dX4_layNew_21 rfl ?_
          refine w_getI dX4_layNew_22 fl_X4_19 (kd_sh hs) rfl ?_
          refine w_eqi ht.2.1 ?_
          refine w2_icmp_ge (t := 41) dX4_layNew_25 (by decide) (fun hz3 => ?_) (fun hz3 => ?_)
          · skip
            have hge := nlt_nI (by omega) (by omega) hz3
            have hen : i = z := by omega
            subst hen
            refine w_vret dX4_layNew_41 rfl ?_
            exact ⟨rfl, ht⟩
          · skip
            have hlt := lt_nI (by omega) (by omega) hz3
            refine w_aload_n dX4_layNew_28 rfl ?_
            refine w_getR (t := (22 + s)) dX4_layNew_29 fl_X4_9 (kd_sh hs) (by decide) (by decide) sr_sh ?_
            refine w_iload_n dX4_layNew_32 rfl ?_
            refine w_lconst dX4_layNew_33 lc_0 ?_
            refine w_last (j := i) dX4_layNew_34 (kd_nu hs) rfl (by rw [ln_nu hs]; omega) ?_
            refine w_iincN (a := i) (b := 1) dX4_layNew_35 rfl ic_1 (by decide) rfl rfl ?_
            dsimp only [List.set]
            refine w_goto (t := 20) dX4_layNew_38 (by decide) ?_
            exact ih (i + 1) _ (by omega) (by omega) ht.step
      exact lp (z + 1) 0 _ (by omega) (by omega) ⟨(wI_k (by decide)).trans (wI_s _ _ _ _), wI_s _ _ _ _, fun c j hc => (wI_c hc).trans (wI_c hc), fun _ _ _ => rfl, fun j hj => absurd hj (Nat.not_lt_zero j), rfl⟩
theorem may_iff (b : Int32) : k_may b = 0 ↔ ¬ b = 0 ∧ ¬ b = 8 ∧ ¬ b = 16 ∧ ¬ b = 64 := by
  unfold k_may
  by_cases h0 : b = 0
  · rw [if_pos h0]; exact ⟨fun z => absurd z (by decide), fun z => absurd h0 z.1⟩
  · rw [if_neg h0]
    by_cases h1 : b = 8
    · rw [if_pos h1]; exact ⟨fun z => absurd z (by decide), fun z => absurd h1 z.2.1⟩
    · rw [if_neg h1]
      by_cases h2 : b = 16
      · rw [if_pos h2]; exact ⟨fun z => absurd z (by decide), fun z => absurd h2 z.2.2.1⟩
      · rw [if_neg h2]
        by_cases h3 : b = 64
        · rw [if_pos h3]; exact ⟨fun z => absurd z (by decide), fun z => absurd h3 z.2.2.2⟩
        · rw [if_neg h3]; exact ⟨fun _ => ⟨h0, h1, h2, h3⟩, fun _ => rfl⟩
theorem may_or {b : Int32} (h : ¬ k_may b = 0) : b = 0 ∨ b = 8 ∨ b = 16 ∨ b = 64 := Classical.byContradiction fun z => h ((may_iff b).mpr ⟨fun e => z (Or.inl e), fun e => z (Or.inr (Or.inl e)), fun e => z (Or.inr (Or.inr (Or.inl e))), fun e => z (Or.inr (Or.inr (Or.inr e)))⟩)
theorem sheet_end {σ τ : Sg} {μ : MO} {n s z q : Nat} {b : Int32} (hC : RC σ μ n) (hs : s < 4) (hb : ¬ k_may b = 0) (hz : (if b = 0 then 0 else nI q) = nI z) (hz40 : z ≤ 40) (hq : q ≤ 40) (h1 : ¬ p_in (nI s) 0 3 = 0) (hL : LyI σ τ s b z z) : CQ σ (M_sheet μ (nI s) b (nI q)) (some (.int (nI z))) τ := by
  obtain ⟨g1, g2, g3, g4, g5, g6⟩ := hL
  have hK : Ky σ τ := ⟨fun c j hc => g3 c j (by omega), g6⟩
  have hcs : (nI s).toNatClampNeg = s := nI_clamp (by omega)
  have hR : M_sheet μ (nI s) b (nI q) = (nI z, sShe (sSiz (sBit μ (upd (mBit μ) s b)) (upd (mSiz μ) s (nI z))) (fun j => if 40 * s ≤ j ∧ j < 40 * s + 40 then 0 else mShe μ j)) := by
    unfold M_sheet
    rw [if_neg h1, if_neg (fun y => hb ((may_iff b).mpr y)), if_neg (nI_pos (by omega)), if_neg (show ¬ 40 < nI q from fun y => absurd (lt_nI (r := 40) (n := q) (by decide) (by omega) y) (by omega)), hcs, hz]
  rw [hR]
  refine ⟨rfl, ⟨n, hC.mk' hK rfl (fun j hj => ?_) ?_ ?_ (fun s' hs' => ?_)⟩, ⟨fun c j hc => g3 c j (by omega), fun c j hc => g4 c j (by omega)⟩⟩
  · rw [g3 7 j (by omega)]; exact hC.fd j hj
  · exact hC.kp.ky hK hC.p3 (g3 _ _ (by omega)) rfl rfl
  · exact hC.tp.eq (g3 _ _ (by omega)) (fun j => g3 _ _ (by omega)) rfl rfl
  · by_cases e : s' = s
    · subst e
      refine ⟨z, hz40, updS, g1.trans updS.symm, g2, ?_, fun j hj => ?_⟩
      · show upd (mBit μ) s' b s' = 0 ∨ upd (mBit μ) s' b s' = 8 ∨ upd (mBit μ) s' b s' = 16 ∨ upd (mBit μ) s' b s' = 64
        rw [updS]
        exact may_or hb
      · rw [g5 j hj]
        exact (if_pos (show 40 * s' ≤ 40 * s' + j ∧ 40 * s' + j < 40 * s' + 40 by omega)).symm
    · obtain ⟨y, y1, y2, y3, y4, y5, y6⟩ := hC.sh s' hs'
      refine ⟨y, y1, (updN e).trans y2, (g3 _ _ (by omega)).trans (y3.trans (updN e).symm), (g3 _ _ (by omega)).trans y4, ?_, fun j hj => ?_⟩
      · show upd (mBit μ) s b s' = 0 ∨ upd (mBit μ) s b s' = 8 ∨ upd (mBit μ) s b s' = 16 ∨ upd (mBit μ) s b s' = 64
        rw [updN e]
        exact y5
      · rw [g4 _ _ (by omega), y6 j hj]
        exact (if_neg (show ¬ (40 * s ≤ 40 * s' + j ∧ 40 * s' + j < 40 * s + 40) by omega)).symm
set_option maxRecDepth 100000 in
set_option maxHeartbeats 800000 in
theorem k_sheet (G : GT) (σ : Sg) (μ : MO) (n : Nat) (hC : RC σ μ n) (sx b qx : Int32) : Ev G mX6_sheet [.ref 0, .int sx, .int b, .int qx] σ (CQ σ (M_sheet μ sx b qx)) := by
  have h8 := hC.rv.le
  have hn := hC.rv.n
  have hnR := hC.nn
  have hr1 : ∀ j, j < 8 → kd (σ.2.2 12 j) = 3 := hC.p1.kd pp1
  refine Ev.ofL (m := 0) (L := [some (.ref 0), some (.int sx), some (.int b), some (.int qx)]) rfl (Nat.le_of_ble_eq_true rfl) rfl rfl ?_
  refine w_iload_n dX6_sheet_0 rfl ?_
  refine w_callSi dX6_sheet_1 ml_X6_228 ms_X6_isSheet rfl (c_isSheet G _ _) rfl rfl (Nat.le_of_ble_eq_true rfl) ?_
  refine w_if_eq (t := 14) dX6_sheet_4 (by decide) (fun hz1 => ?_) (fun hz1 => ?_)
  · skip
    refine w_aload_n dX6_sheet_14 rfl ?_
    refine w_ldc dX6_sheet_15 kc_X6_50 ?_
    refine w_callVi dX6_sheet_17 ml_X6_51 mv_X6_tell rfl rfl (by decide) rfl (c_tell G _ _ 0 (by decide) (by decide)) rfl rfl (Nat.le_of_ble_eq_true rfl) ?_
    refine w_iret dX6_sheet_20 rfl ?_
    first
    | exact CQ.fnd hC Mo.rfl (by decide) (by simp only [M_sheet, eq_true hz1, if_true, if_false])
  · skip
    refine w_iload_n dX6_sheet_7 rfl ?_
    refine w_callSi dX6_sheet_8 ml_X6_231 ms_X4_mayHave rfl (c4_mayHave G _ _) rfl rfl (Nat.le_of_ble_eq_true rfl) ?_
    refine w_if_ne (t := 21) dX6_sheet_11 (by decide) (fun hz2 => ?_) (fun hz2 => ?_)
    · skip
      refine w_iload_n dX6_sheet_21 rfl ?_
      refine w2_if_ge (t := 32) dX6_sheet_22 (by decide) (fun hz3 => ?_) (fun hz3 => ?_)
      · skip
        refine w_iload_n dX6_sheet_32 rfl ?_
        refine w_bipush dX6_sheet_33 bp_40 ?_
        refine w2_icmp_le (t := 45) dX6_sheet_35 (by decide) (fun hz4 => ?_) (fun hz4 => ?_)
        · skip
          obtain ⟨s, hs3, rfl⟩ := in_0 (m := 3) hz1 rfl (by decide)
          have hs : s < 4 := by omega
          obtain ⟨q, hq31, rfl⟩ := nI_of hz3
          have hq40 : q ≤ 40 := nlt_nI (r := 40) (by decide) hq31 hz4
          obtain ⟨z, hz40, hz⟩ : ∃ z, z ≤ 40 ∧ (if b = 0 then 0 else nI q) = nI z := by
            by_cases y : b = 0
            · exact ⟨0, by decide, by rw [if_pos y]; rfl⟩
            · exact ⟨q, hq40, if_neg y⟩
          · skip
            refine w_aload_n dX6_sheet_45 rfl ?_
            refine w_getR (t := 6) dX6_sheet_46 fl_X6_35 rfl (by decide) (by decide) rfl ?_
            refine w_iload_n dX6_sheet_49 rfl ?_
            refine w_sald (j := s) dX6_sheet_50 rfl (by omega) ?_
            refine w_iload_n dX6_sheet_51 rfl ?_
            refine w_iload_n dX6_sheet_52 rfl ?_
            refine w_callVqv dX6_sheet_53 ml_X6_235 mv_X4_layNew rfl (kd_sh hs) (by decide) rfl (q4_layNew G _ s hs b q z hz hz40) rfl rfl (Nat.le_of_ble_eq_true rfl) (fun τ hq => ?_)
            refine w_aload_n dX6_sheet_56 rfl ?_
            refine w_getR (t := 6) dX6_sheet_57 fl_X6_35 rfl (by decide) (by decide) rfl ?_
            refine w_iload_n dX6_sheet_60 rfl ?_
            refine w_sald (j := s) dX6_sheet_61 rfl (by omega) ?_
            refine w_getI dX6_sheet_62 fl_X6_238 (kd_sh hs) rfl ?_
            refine w_eqi hq.2.1 ?_
            refine w_iret dX6_sheet_65 rfl ?_
            exact sheet_end hC hs hz2 hz hz40 hq40 hz1 hq
        · skip
          refine w_aload_n dX6_sheet_38 rfl ?_
          refine w_ldc dX6_sheet_39 kc_X6_50 ?_
          refine w_callVi dX6_sheet_41 ml_X6_51 mv_X6_tell rfl rfl (by decide) rfl (c_tell G _ _ 0 (by decide) (by decide)) rfl rfl (Nat.le_of_ble_eq_true rfl) ?_
          refine w_iret dX6_sheet_44 rfl ?_
          first
          | exact CQ.fnd hC Mo.rfl (by decide) (by simp only [M_sheet, eq_false hz1, eq_false (fun y => hz2 ((may_iff b).mpr y)), eq_false hz3, eq_true hz4, if_true, if_false])
      · skip
        refine w_aload_n dX6_sheet_25 rfl ?_
        refine w_ldc dX6_sheet_26 kc_X6_234 ?_
        refine w_callVi dX6_sheet_28 ml_X6_51 mv_X6_tell rfl rfl (by decide) rfl (c_tell G _ _ 6 (by decide) (by decide)) rfl rfl (Nat.le_of_ble_eq_true rfl) ?_
        refine w_iret dX6_sheet_31 rfl ?_
        first
        | exact CQ.fnd hC Mo.rfl (by decide) (by simp only [M_sheet, eq_false hz1, eq_false (fun y => hz2 ((may_iff b).mpr y)), eq_true hz3, if_true, if_false])
    · skip
      refine w_aload_n dX6_sheet_14 rfl ?_
      refine w_ldc dX6_sheet_15 kc_X6_50 ?_
      refine w_callVi dX6_sheet_17 ml_X6_51 mv_X6_tell rfl rfl (by decide) rfl (c_tell G _ _ 0 (by decide) (by decide)) rfl rfl (Nat.le_of_ble_eq_true rfl) ?_
      refine w_iret dX6_sheet_20 rfl ?_
      first
      | exact CQ.fnd hC Mo.rfl (by decide) (by simp only [M_sheet, eq_false hz1, eq_true ((may_iff b).mp hz2), if_true, if_false])
def CQl (σ : Sg) (R : Int64 × MO) : Option Value → Sg → Prop := fun v τ => v = some (.long R.1) ∧ (∃ n, RC τ R.2 n) ∧ Mo σ τ
theorem CQl.fnd {σ τ : Sg} {μ : MO} {n j : Nat} {R : Int64 × MO} {x : Int64} (h : RC τ μ n) (hM : Mo σ τ) (hj : j < 7) (hR : R = (x, sFnd μ j)) : CQl σ R (some (.long x)) (wI τ 7 j (τ.1 7 j + 1)) := by
  subst hR
  exact ⟨rfl, ⟨n, h.fnd hj⟩, hM.trans (Mo.w (by decide))⟩
/-- the longs of sheets have changed -/
theorem RC.lng {σ τ : Sg} {μ : MO} {n : Nat} {S : Nat → Int64} (hC : RC σ μ n) (h1 : τ.1 = σ.1) (h2 : τ.2.2 = σ.2.2) (h3 : ∀ s, s < 4 → ∀ z, z ≤ 40 → mSiz μ s = nI z → (∀ j, j < z → σ.2.1 (22 + s) j = mShe μ (40 * s + j)) → ∀ j, j < z → τ.2.1 (22 + s) j = S (40 * s + j)) : RC τ (sShe μ S) n := by
  have hK : Ky σ τ := ⟨fun c j _ => by rw [h1], h2⟩
  refine hC.mk' hK rfl (fun j hj => by rw [h1]; exact hC.fd j hj) (hC.kp.ky hK hC.p3 (by rw [h1]) rfl rfl) (hC.tp.eq (by rw [h1]) (fun j => by rw [h1]) rfl rfl) (fun s hs => ?_)
  obtain ⟨z, z1, z2, z3, z4, z5, z6⟩ := hC.sh s hs
  exact ⟨z, z1, z2, by rw [h1]; exact z3, by rw [h1]; exact z4, z5, h3 s hs z z1 z2 z6⟩
theorem write_end {σ : Sg} {μ : MO} {n s z i : Nat} {v : Int64} (hC : RC σ μ n) (hs : s < 4) (hi : i < z) (hz : z ≤ 40) : RC (wL σ (22 + s) i (p_nar (mBit μ s) v)) (sShe μ (vp_updL (mShe μ) (40 * s + i) (p_nar (mBit μ s) v))) n := by
  refine hC.lng rfl rfl (fun s' hs' y hy _ he j hj => ?_)
  by_cases e : s' = s
  · subst e
    by_cases e2 : j = i
    · subst e2; rw [wL_s, pk_uLs]
    · rw [wL_k e2, pk_uLn (by omega)]; exact he j hj
  · rw [wL_c (by omega), pk_uLn (by omega)]; exact he j hj
set_option maxRecDepth 100000 in
set_option maxHeartbeats 800000 in
theorem k_write (G : GT) (σ : Sg) (μ : MO) (n : Nat) (hC : RC σ μ n) (sx ix : Int32) (v : Int64) : Ev G mX6_write [.ref 0, .int sx, .int ix, .long v] σ (CQl σ (M_write μ sx ix v)) := by
  have h8 := hC.rv.le
  have hn := hC.rv.n
  have hnR := hC.nn
  have hr1 : ∀ j, j < 8 → kd (σ.2.2 12 j) = 3 := hC.p1.kd pp1
  refine Ev.ofL (m := 3) (L := [some (.ref 0), some (.int sx), some (.int ix), some (.long v), none, none, none, none]) rfl (Nat.le_of_ble_eq_true rfl) rfl rfl ?_
  refine w_aload_n dX6_write_0 rfl ?_
  refine w_iload_n dX6_write_1 rfl ?_
  refine w_callVi dX6_write_2 ml_X6_239 mv_X6_findingOfSheet rfl rfl (by decide) rfl (k_finding G _ μ n hC _) rfl rfl (Nat.le_of_ble_eq_true rfl) ?_
  rcases badk_cases μ sx with ⟨hb1, eb⟩ | ⟨s, hs, es, hb1, hb2, eb⟩ | ⟨s, hs, es, hb1, hb2, eb⟩
  · skip
    refine w_eqi eb ?_
    refine w_istore dX6_write_5 (by decide) rfl rfl ?_
    dsimp only [List.set]
    refine w_iload dX6_write_7 rfl ?_
    refine w_if_eq (t := 20) dX6_write_9 (by decide) (fun hz1 => absurd hz1 (by decide)) (fun hz1 => ?_)
    refine w_aload_n dX6_write_12 rfl ?_
    refine w_iload dX6_write_13 rfl ?_
    refine w_callVi dX6_write_15 ml_X6_51 mv_X6_tell rfl rfl (by decide) rfl (c_tell G _ _ 0 (by decide) (by decide)) rfl rfl (Nat.le_of_ble_eq_true rfl) ?_
    refine w_i2l dX6_write_18 ?_
    refine w_lret dX6_write_19 rfl ?_
    exact CQl.fnd hC Mo.rfl (by decide) (by simp only [M_write, eq_true hb1, if_true])
  · skip
    subst es
    have hcs : (nI s).toNatClampNeg = s := nI_clamp (by omega)
    refine w_eqi eb ?_
    obtain ⟨z, z1, z2, z3, z4, z5, z6⟩ := hC.sh s hs
    refine w_istore dX6_write_5 (by decide) rfl rfl ?_
    dsimp only [List.set]
    refine w_iload dX6_write_7 rfl ?_
    refine w_if_eq (t := 20) dX6_write_9 (by decide) (fun hz2 => absurd hz2 (by decide)) (fun hz2 => ?_)
    refine w_aload_n dX6_write_12 rfl ?_
    refine w_iload dX6_write_13 rfl ?_
    refine w_callVi dX6_write_15 ml_X6_51 mv_X6_tell rfl rfl (by decide) rfl (c_tell G _ _ 5 (by decide) (by decide)) rfl rfl (Nat.le_of_ble_eq_true rfl) ?_
    refine w_i2l dX6_write_18 ?_
    refine w_lret dX6_write_19 rfl ?_
    exact CQl.fnd hC Mo.rfl (by decide) (by simp only [M_write, hcs, eq_false hb1, eq_true hb2, if_true, if_false])
  · skip
    subst es
    have hcs : (nI s).toNatClampNeg = s := nI_clamp (by omega)
    refine w_eqi eb ?_
    obtain ⟨z, z1, z2, z3, z4, z5, z6⟩ := hC.sh s hs
    refine w_istore dX6_write_5 (by decide) rfl rfl ?_
    dsimp only [List.set]
    refine w_iload dX6_write_7 rfl ?_
    refine w_if_eq (t := 20) dX6_write_9 (by decide) (fun hz3 => ?_) (fun hz3 => absurd rfl hz3)
    refine w_iload_n dX6_write_20 rfl ?_
    refine w_iconst dX6_write_21 ic_0 ?_
    refine w_aload_n dX6_write_22 rfl ?_
    refine w_getR (t := 6) dX6_write_23 fl_X6_35 rfl (by decide) (by decide) rfl ?_
    refine w_iload_n dX6_write_26 rfl ?_
    refine w_sald (j := s) dX6_write_27 rfl (by omega) ?_
    refine w_getI dX6_write_28 fl_X6_238 (kd_sh hs) rfl ?_
    refine w_eqi z4 ?_
    · skip
      refine w_iconst dX6_write_31 ic_1 ?_
      refine w_isub dX6_write_32 ?_
      refine w_callSi dX6_write_33 ml_X6_66 ms_X6_isWithin rfl (c_isWithin G _ _ _ _) rfl rfl (Nat.le_of_ble_eq_true rfl) ?_
      refine w_if_ne (t := 47) dX6_write_36 (by decide) (fun hz4 => ?_) (fun hz4 => ?_)
      · skip
        obtain ⟨i, hi, rfl⟩ := in_lt hz4 rfl (by omega)
        have hci : (nI i).toNatClampNeg = i := nI_clamp (by omega)
        · skip
          refine w_aload_n dX6_write_47 rfl ?_
          refine w_getR (t := 6) dX6_write_48 fl_X6_35 rfl (by decide) (by decide) rfl ?_
          refine w_iload_n dX6_write_51 rfl ?_
          refine w_sald (j := s) dX6_write_52 rfl (by omega) ?_
          refine w_getR (t := (22 + s)) dX6_write_53 fl_X6_242 (kd_sh hs) (by decide) (by decide) sr_sh ?_
          refine w_iload_n dX6_write_56 rfl ?_
          refine w_lald (j := i) dX6_write_57 (kd_nu hs) rfl (by rw [ln_nu hs]; omega) ?_
          refine w_lstore dX6_write_58 (by decide) rfl rfl ?_
          dsimp only [List.set]
          refine w_aload_n dX6_write_60 rfl ?_
          refine w_getR (t := 6) dX6_write_61 fl_X6_35 rfl (by decide) (by decide) rfl ?_
          refine w_iload_n dX6_write_64 rfl ?_
          refine w_sald (j := s) dX6_write_65 rfl (by omega) ?_
          refine w_iload_n dX6_write_66 rfl ?_
          refine w_lload_n dX6_write_67 rfl ?_
          refine w_callVv dX6_write_68 ml_X6_246 mv_X4_put rfl (kd_sh hs) (by decide) rfl (c4_put G _ s hs i (by omega) v) rfl rfl (Nat.le_of_ble_eq_true rfl) ?_
          refine w_lload dX6_write_71 rfl ?_
          refine w_lret dX6_write_73 rfl ?_
          have hR : M_write μ (nI s) (nI i) v = (mShe μ (40 * s + i), sShe μ (vp_updL (mShe μ) (40 * s + i) (p_nar (mBit μ s) v))) := by simp only [M_write, hcs, hci, z2, eq_false hb1, eq_false hb2, eq_false hz4, if_false]
          rw [hR, z6 i hi, z3]
          exact ⟨rfl, ⟨n, write_end hC hs hi z1⟩, ⟨fun _ _ _ => rfl, fun c j hc => wL_c (by omega)⟩⟩
      · skip
        refine w_aload_n dX6_write_39 rfl ?_
        refine w_ldc dX6_write_40 kc_X6_50 ?_
        refine w_callVi dX6_write_42 ml_X6_51 mv_X6_tell rfl rfl (by decide) rfl (c_tell G _ _ 0 (by decide) (by decide)) rfl rfl (Nat.le_of_ble_eq_true rfl) ?_
        refine w_i2l dX6_write_45 ?_
        refine w_lret dX6_write_46 rfl ?_
        exact CQl.fnd hC Mo.rfl (by decide) (by simp only [M_write, hcs, z2, eq_false hb1, eq_false hb2, eq_true hz4, if_true, if_false])
theorem has_part {σ : Sg} {c : Nat} {z : Nat} (h : σ.1 c 2 = nI z) (hz : z ≤ 40) (a m : Int32) : k_has (σ.1 c) a m = p_part (nI z) a m := by
  unfold k_has p_part
  rw [h]
  by_cases h1 : a < 0
  · rw [if_pos h1, if_pos h1]
  · rw [if_neg h1, if_neg h1]
    by_cases h2 : m < 0
    · rw [if_pos h2, if_pos h2]
    · rw [if_neg h2, if_neg h2]
      obtain ⟨x, hx, rfl⟩ := nI_of h1
      obtain ⟨y, hy, rfl⟩ := nI_of h2
      have e1 : nI z - nI x < nI y ↔ z < x + y := by
        rw [Int32.lt_iff_toInt_lt, nI_toInt hy]
        have e : (nI z - nI x).toInt = (z : Int) - x := by
          rw [Int32.toInt_sub, nI_toInt (by omega), nI_toInt hx, Int.bmod_def]
          omega
        rw [e]
        omega
      by_cases h3 : nI z < nI y
      · rw [if_pos h3]
        have q0 := (nI_ltI (by omega) hy).mp h3
        rw [if_pos (e1.mpr (by omega))]
      · rw [if_neg h3]
        have q0 := nlt_nI (by omega) hy h3
        rw [pk_sub q0]
        by_cases h4 : nI (z - y) < nI x
        · have q1 := (nI_ltI (by omega) hx).mp h4
          rw [if_pos h4, if_pos (e1.mpr (by omega))]
        · have q1 := nlt_nI (by omega) hx h4
          rw [if_neg h4, if_neg (fun w => absurd (e1.mp w) (by omega))]
theorem copy_end {σ : Sg} {μ : MO} {n s t a b m zs zt : Nat} (hC : RC σ μ n) (hs : s < 4) (ht : t < 4) (h1 : a + m ≤ zs) (h2 : b + m ≤ zt) (h3 : zs ≤ 40) (h4 : zt ≤ 40) (h5 : mSiz μ s = nI zs) (h6 : mSiz μ t = nI zt) (h7 : ∀ j, j < zs → σ.2.1 (22 + s) j = mShe μ (40 * s + j)) : RC (cpL σ (22 + s) a (22 + t) b m) (sShe μ (fun j => if 40 * t + b ≤ j ∧ j < 40 * t + b + m then mShe μ (40 * s + a + (j - (40 * t + b))) else mShe μ j)) n := by
  refine hC.lng rfl rfl (fun s' hs' y hy _ he j hj => ?_)
  show (if 22 + s' = 22 + t then va_cpy (σ.2.1 (22 + s)) (σ.2.1 (22 + t)) a b m j else σ.2.1 (22 + s') j) = if 40 * t + b ≤ 40 * s' + j ∧ 40 * s' + j < 40 * t + b + m then mShe μ (40 * s + a + (40 * s' + j - (40 * t + b))) else mShe μ (40 * s' + j)
  by_cases e : s' = t
  · subst e
    rw [if_pos rfl]
    by_cases c : b ≤ j ∧ j < b + m
    · rw [pk_cpy_in c.1 c.2, if_pos (by omega), h7 _ (by omega)]
      congr 1
      omega
    · rw [pk_cpy_out (by omega), if_neg (by omega)]
      exact he j hj
  · rw [if_neg (by omega), if_neg (by omega)]
    exact he j hj
theorem miss_iff {σ : Sg} {c : Nat} {x : Int32} (h : σ.1 c 1 = x) : k_miss (σ.1 c) = if x = 0 then 1 else 0 := by
  unfold k_miss
  rw [h]
set_option maxRecDepth 100000 in
set_option maxHeartbeats 800000 in
theorem k_copy (G : GT) (σ : Sg) (μ : MO) (n : Nat) (hC : RC σ μ n) (sx ax tx bx mx : Int32) : Ev G mX6_copy [.ref 0, .int sx, .int ax, .int tx, .int bx, .int mx] σ (CQ σ (M_copy μ sx ax tx bx mx)) := by
  have h8 := hC.rv.le
  have hn := hC.rv.n
  have hnR := hC.nn
  have hr1 : ∀ j, j < 8 → kd (σ.2.2 12 j) = 3 := hC.p1.kd pp1
  refine Ev.ofL (m := 0) (L := [some (.ref 0), some (.int sx), some (.int ax), some (.int tx), some (.int bx), some (.int mx)]) rfl (Nat.le_of_ble_eq_true rfl) rfl rfl ?_
  refine w_iload_n dX6_copy_0 rfl ?_
  refine w_callSi dX6_copy_1 ml_X6_228 ms_X6_isSheet rfl (c_isSheet G _ _) rfl rfl (Nat.le_of_ble_eq_true rfl) ?_
  refine w_if_eq (t := 14) dX6_copy_4 (by decide) (fun hz1 => ?_) (fun hz1 => ?_)
  · skip
    refine w_aload_n dX6_copy_14 rfl ?_
    refine w_ldc dX6_copy_15 kc_X6_50 ?_
    refine w_callVi dX6_copy_17 ml_X6_51 mv_X6_tell rfl rfl (by decide) rfl (c_tell G _ _ 0 (by decide) (by decide)) rfl rfl (Nat.le_of_ble_eq_true rfl) ?_
    refine w_iret dX6_copy_20 rfl ?_
    first
    | exact CQ.fnd hC Mo.rfl (by decide) (by simp only [M_copy, hnR, if_true, if_false, eq_true hz1])
    | exact CQ.same hC Mo.rfl (by simp only [M_copy, hnR, if_true, if_false, eq_true hz1])
  · skip
    refine w_iload_n dX6_copy_7 rfl ?_
    refine w_callSi dX6_copy_8 ml_X6_228 ms_X6_isSheet rfl (c_isSheet G _ _) rfl rfl (Nat.le_of_ble_eq_true rfl) ?_
    refine w_if_ne (t := 21) dX6_copy_11 (by decide) (fun hz2 => ?_) (fun hz2 => ?_)
    · skip
      obtain ⟨s, hs3, rfl⟩ := in_0 (m := 3) hz1 rfl (by decide)
      obtain ⟨t, ht3, rfl⟩ := in_0 (m := 3) hz2 rfl (by decide)
      have hs : s < 4 := by omega
      have ht : t < 4 := by omega
      have hcs : (nI s).toNatClampNeg = s := nI_clamp (by omega)
      have hct : (nI t).toNatClampNeg = t := nI_clamp (by omega)
      obtain ⟨zs, sz1, sz2, sz3, sz4, sz5, sz6⟩ := hC.sh s hs
      obtain ⟨zt, tz1, tz2, tz3, tz4, tz5, tz6⟩ := hC.sh t ht
      · skip
        refine w_aload_n dX6_copy_21 rfl ?_
        refine w_getR (t := 6) dX6_copy_22 fl_X6_35 rfl (by decide) (by decide) rfl ?_
        refine w_iload_n dX6_copy_25 rfl ?_
        refine w_sald (j := s) dX6_copy_26 rfl (by omega) ?_
        refine w_callVi dX6_copy_27 ml_X6_250 mv_X4_isMissing rfl (kd_sh hs) (by decide) rfl (c4_isMissing G _ _ (kd_sh hs)) rfl rfl (Nat.le_of_ble_eq_true rfl) ?_
        refine w_eqi (miss_iff sz3) ?_
        refine w_if_ne (t := 45) dX6_copy_30 (by decide) (fun hz3 => ?_) (fun hz3 => ?_)
        · skip
          refine w_aload_n dX6_copy_45 rfl ?_
          refine w_ldc dX6_copy_46 kc_X6_253 ?_
          refine w_callVi dX6_copy_48 ml_X6_51 mv_X6_tell rfl rfl (by decide) rfl (c_tell G _ _ 5 (by decide) (by decide)) rfl rfl (Nat.le_of_ble_eq_true rfl) ?_
          refine w_iret dX6_copy_51 rfl ?_
          exact CQ.fnd hC Mo.rfl (by decide) (by simp only [M_copy, hcs, hct, sz2, tz2, eq_false hz1, eq_false hz2, eq_true (show mBit μ s = 0 from Classical.byContradiction fun y => hz3 (if_neg y)), if_true, if_false])
        · skip
          refine w_aload_n dX6_copy_33 rfl ?_
          refine w_getR (t := 6) dX6_copy_34 fl_X6_35 rfl (by decide) (by decide) rfl ?_
          refine w_iload_n dX6_copy_37 rfl ?_
          refine w_sald (j := t) dX6_copy_38 rfl (by omega) ?_
          refine w_callVi dX6_copy_39 ml_X6_250 mv_X4_isMissing rfl (kd_sh ht) (by decide) rfl (c4_isMissing G _ _ (kd_sh ht)) rfl rfl (Nat.le_of_ble_eq_true rfl) ?_
          refine w_eqi (miss_iff tz3) ?_
          refine w_if_eq (t := 52) dX6_copy_42 (by decide) (fun hz4 => ?_) (fun hz4 => ?_)
          · skip
            refine w_aload_n dX6_copy_52 rfl ?_
            refine w_getR (t := 6) dX6_copy_53 fl_X6_35 rfl (by decide) (by decide) rfl ?_
            refine w_iload_n dX6_copy_56 rfl ?_
            refine w_sald (j := s) dX6_copy_57 rfl (by omega) ?_
            refine w_getI dX6_copy_58 fl_X6_254 (kd_sh hs) rfl ?_
            refine w_eqi sz3 ?_
            refine w_aload_n dX6_copy_61 rfl ?_
            refine w_getR (t := 6) dX6_copy_62 fl_X6_35 rfl (by decide) (by decide) rfl ?_
            refine w_iload_n dX6_copy_65 rfl ?_
            refine w_sald (j := t) dX6_copy_66 rfl (by omega) ?_
            refine w_getI dX6_copy_67 fl_X6_254 (kd_sh ht) rfl ?_
            refine w_eqi tz3 ?_
            refine w_icmp_eq (t := 80) dX6_copy_70 (by decide) (fun hz5 => ?_) (fun hz5 => ?_)
            · skip
              refine w_aload_n dX6_copy_80 rfl ?_
              refine w_getR (t := 6) dX6_copy_81 fl_X6_35 rfl (by decide) (by decide) rfl ?_
              refine w_iload_n dX6_copy_84 rfl ?_
              refine w_sald (j := s) dX6_copy_85 rfl (by omega) ?_
              refine w_iload_n dX6_copy_86 rfl ?_
              refine w_iload dX6_copy_87 rfl ?_
              refine w_callVi dX6_copy_89 ml_X6_257 mv_X4_has rfl (kd_sh hs) (by decide) rfl (c4_has G _ _ (kd_sh hs) _ _) rfl rfl (Nat.le_of_ble_eq_true rfl) ?_
              refine w_eqi (has_part sz4 sz1 _ _) ?_
              refine w_if_eq (t := 111) dX6_copy_92 (by decide) (fun hz6 => ?_) (fun hz6 => ?_)
              · skip
                refine w_aload_n dX6_copy_111 rfl ?_
                refine w_ldc dX6_copy_112 kc_X6_50 ?_
                refine w_callVi dX6_copy_114 ml_X6_51 mv_X6_tell rfl rfl (by decide) rfl (c_tell G _ _ 0 (by decide) (by decide)) rfl rfl (Nat.le_of_ble_eq_true rfl) ?_
                refine w_iret dX6_copy_117 rfl ?_
                exact CQ.fnd hC Mo.rfl (by decide) (by simp only [M_copy, hcs, hct, sz2, tz2, eq_false hz1, eq_false hz2, eq_false (show ¬ mBit μ s = 0 from fun y => by have x := hz3; rw [if_pos y] at x; cases x), eq_false (show ¬ mBit μ t = 0 from fun y => by have x := hz4; rw [if_pos y] at x; cases x), eq_false (show ¬ ¬ mBit μ s = mBit μ t from fun y => y hz5), eq_true hz6, if_true, if_false])
              · skip
                refine w_aload_n dX6_copy_95 rfl ?_
                refine w_getR (t := 6) dX6_copy_96 fl_X6_35 rfl (by decide) (by decide) rfl ?_
                refine w_iload_n dX6_copy_99 rfl ?_
                refine w_sald (j := t) dX6_copy_100 rfl (by omega) ?_
                refine w_iload dX6_copy_101 rfl ?_
                refine w_iload dX6_copy_103 rfl ?_
                refine w_callVi dX6_copy_105 ml_X6_257 mv_X4_has rfl (kd_sh ht) (by decide) rfl (c4_has G _ _ (kd_sh ht) _ _) rfl rfl (Nat.le_of_ble_eq_true rfl) ?_
                refine w_eqi (has_part tz4 tz1 _ _) ?_
                refine w_if_ne (t := 118) dX6_copy_108 (by decide) (fun hz7 => ?_) (fun hz7 => ?_)
                · skip
                  obtain ⟨a, m, ea, em, hpa⟩ := part_of hz6 rfl sz1
                  obtain ⟨b, m2, eb, em2, hpb⟩ := part_of hz7 rfl tz1
                  subst ea
                  subst em
                  subst eb
                  have emm : m = m2 := (nI_eq (by omega) (by omega)).mp em2
                  subst emm
                  have hca : (nI a).toNatClampNeg = a := nI_clamp (by omega)
                  have hcb : (nI b).toNatClampNeg = b := nI_clamp (by omega)
                  have hcm : (nI m).toNatClampNeg = m := nI_clamp (by omega)
                  · skip
                    refine w_aload_n dX6_copy_118 rfl ?_
                    refine w_getR (t := 6) dX6_copy_119 fl_X6_35 rfl (by decide) (by decide) rfl ?_
                    refine w_iload_n dX6_copy_122 rfl ?_
                    refine w_sald (j := s) dX6_copy_123 rfl (by omega) ?_
                    refine w_getR (t := (22 + s)) dX6_copy_124 fl_X6_242 (kd_sh hs) (by decide) (by decide) sr_sh ?_
                    refine w_iload_n dX6_copy_127 rfl ?_
                    refine w_aload_n dX6_copy_128 rfl ?_
                    refine w_getR (t := 6) dX6_copy_129 fl_X6_35 rfl (by decide) (by decide) rfl ?_
                    refine w_iload_n dX6_copy_132 rfl ?_
                    refine w_sald (j := t) dX6_copy_133 rfl (by omega) ?_
                    refine w_getR (t := (22 + t)) dX6_copy_134 fl_X6_242 (kd_sh ht) (by decide) (by decide) sr_sh ?_
                    refine w_iload dX6_copy_137 rfl ?_
                    refine w_iload dX6_copy_139 rfl ?_
                    refine w_copy (sp := a) (dp := b) (m0 := m) dX6_copy_141 mi_X6_260 mm_copy (kd_nu hs) (kd_nu ht) rfl rfl rfl (by rw [ln_nu hs]; omega) (by rw [ln_nu ht]; omega) rfl ?_
                    refine w_iload dX6_copy_144 rfl ?_
                    refine w_iret dX6_copy_146 rfl ?_
                    rw [show M_copy μ (nI s) (nI a) (nI t) (nI b) (nI m) = (nI m, sShe μ (fun j => if 40 * t + b ≤ j ∧ j < 40 * t + b + m then mShe μ (40 * s + a + (j - (40 * t + b))) else mShe μ j)) from by simp only [M_copy, hcs, hct, sz2, tz2, eq_false hz1, eq_false hz2, eq_false (show ¬ mBit μ s = 0 from fun y => by have x := hz3; rw [if_pos y] at x; cases x), eq_false (show ¬ mBit μ t = 0 from fun y => by have x := hz4; rw [if_pos y] at x; cases x), eq_false (show ¬ ¬ mBit μ s = mBit μ t from fun y => y hz5), eq_false hz6, eq_false hz7, if_true, if_false, hca, hcb, hcm]]
                    exact ⟨rfl, ⟨n, copy_end hC hs ht hpa hpb sz1 tz1 sz2 tz2 sz6⟩, ⟨fun _ _ _ => rfl, fun c j hc => if_neg (by omega)⟩⟩
                · skip
                  refine w_aload_n dX6_copy_111 rfl ?_
                  refine w_ldc dX6_copy_112 kc_X6_50 ?_
                  refine w_callVi dX6_copy_114 ml_X6_51 mv_X6_tell rfl rfl (by decide) rfl (c_tell G _ _ 0 (by decide) (by decide)) rfl rfl (Nat.le_of_ble_eq_true rfl) ?_
                  refine w_iret dX6_copy_117 rfl ?_
                  exact CQ.fnd hC Mo.rfl (by decide) (by simp only [M_copy, hcs, hct, sz2, tz2, eq_false hz1, eq_false hz2, eq_false (show ¬ mBit μ s = 0 from fun y => by have x := hz3; rw [if_pos y] at x; cases x), eq_false (show ¬ mBit μ t = 0 from fun y => by have x := hz4; rw [if_pos y] at x; cases x), eq_false (show ¬ ¬ mBit μ s = mBit μ t from fun y => y hz5), eq_false hz6, eq_true hz7, if_true, if_false])
            · skip
              refine w_aload_n dX6_copy_73 rfl ?_
              refine w_ldc dX6_copy_74 kc_X6_145 ?_
              refine w_callVi dX6_copy_76 ml_X6_51 mv_X6_tell rfl rfl (by decide) rfl (c_tell G _ _ 2 (by decide) (by decide)) rfl rfl (Nat.le_of_ble_eq_true rfl) ?_
              refine w_iret dX6_copy_79 rfl ?_
              exact CQ.fnd hC Mo.rfl (by decide) (by simp only [M_copy, hcs, hct, sz2, tz2, eq_false hz1, eq_false hz2, eq_false (show ¬ mBit μ s = 0 from fun y => by have x := hz3; rw [if_pos y] at x; cases x), eq_false (show ¬ mBit μ t = 0 from fun y => by have x := hz4; rw [if_pos y] at x; cases x), eq_true (show ¬ mBit μ s = mBit μ t from hz5), if_true, if_false])
          · skip
            refine w_aload_n dX6_copy_45 rfl ?_
            refine w_ldc dX6_copy_46 kc_X6_253 ?_
            refine w_callVi dX6_copy_48 ml_X6_51 mv_X6_tell rfl rfl (by decide) rfl (c_tell G _ _ 5 (by decide) (by decide)) rfl rfl (Nat.le_of_ble_eq_true rfl) ?_
            refine w_iret dX6_copy_51 rfl ?_
            exact CQ.fnd hC Mo.rfl (by decide) (by simp only [M_copy, hcs, hct, sz2, tz2, eq_false hz1, eq_false hz2, eq_false (show ¬ mBit μ s = 0 from fun y => by have x := hz3; rw [if_pos y] at x; cases x), eq_true (show mBit μ t = 0 from Classical.byContradiction fun y => hz4 (if_neg y)), if_true, if_false])
    · skip
      refine w_aload_n dX6_copy_14 rfl ?_
      refine w_ldc dX6_copy_15 kc_X6_50 ?_
      refine w_callVi dX6_copy_17 ml_X6_51 mv_X6_tell rfl rfl (by decide) rfl (c_tell G _ _ 0 (by decide) (by decide)) rfl rfl (Nat.le_of_ble_eq_true rfl) ?_
      refine w_iret dX6_copy_20 rfl ?_
      first
      | exact CQ.fnd hC Mo.rfl (by decide) (by simp only [M_copy, hnR, if_true, if_false, eq_false hz1, eq_true hz2])
      | exact CQ.same hC Mo.rfl (by simp only [M_copy, hnR, if_true, if_false, eq_false hz1, eq_true hz2])
