/-! heights from sheets; books -/
theorem min_nI {a b : Nat} (ha : a < 2 ^ 31) (hb : b < 2 ^ 31) : (if nI b < nI a then nI b else nI a) = nI (min a b) := by
  by_cases h : b < a
  · rw [if_pos ((nI_ltI hb ha).mpr h), Nat.min_eq_right (by omega)]
  · rw [if_neg (fun z => h ((nI_ltI hb ha).mp z)), Nat.min_eq_left (by omega)]
theorem lay_B {v : Int64} (h1 : ¬ lg_cmp v 0 < 0) (h2 : ¬ 0 < lg_cmp v 60) : iB v.toInt32 0 60 := by
  rw [lg_cmp_lt] at h1
  rw [lg_cmp_gt] at h2
  rw [Int64.lt_iff_toInt_lt] at h1 h2
  rw [show (0 : Int64).toInt = 0 from rfl] at h1
  rw [show (60 : Int64).toInt = 60 from rfl] at h2
  unfold iB
  rw [Int64.toInt_toInt32, Int.bmod_def]
  omega
theorem p_lay_s (f : Nat → Int32) (S : Nat → Int64) (k : Nat) : p_lay f S (k + 1) = if lg_cmp (S k) 0 < 0 then p_lay f S k else if 0 < lg_cmp (S k) 60 then p_lay f S k else (upd (p_lay f S k).1 (9 + 7 * k + 2) (S k).toInt32, (p_lay f S k).2 + 1) := rfl
theorem RV.lay {f : Nat → Int32} {n : Nat} {S : Nat → Int64} (h : RV f n) : ∀ k, k ≤ n → RV (p_lay f S k).1 n
  | 0, _ => h
  | k + 1, hk => by
    have q0 := RV.lay (S := S) h k (by omega)
    rw [p_lay_s]
    split
    · exact q0
    · split
      · exact q0
      · rename_i h1 h2
        exact q0.rodw (by omega) (by decide) (lay_B h1 h2)
theorem p_lay_5 (f : Nat → Int32) (S : Nat → Int64) : ∀ k, (p_lay f S k).1 5 = f 5
  | 0 => rfl
  | k + 1 => by
    rw [p_lay_s]
    split
    · exact p_lay_5 f S k
    · split
      · exact p_lay_5 f S k
      · show upd _ _ _ 5 = _
        rw [updN (by omega)]
        exact p_lay_5 f S k
set_option maxRecDepth 100000 in
set_option maxHeartbeats 800000 in
theorem k_lays (G : GT) (σ : Sg) (μ : MO) (n : Nat) (hC : RC σ μ n) (sx : Int32) : Ev G mX6_lays [.ref 0, .int sx] σ (CQ σ (M_lays μ sx)) := by
  have h8 := hC.rv.le
  have hn := hC.rv.n
  have hnR := hC.nn
  have hr1 : ∀ j, j < 8 → kd (σ.2.2 12 j) = 3 := hC.p1.kd pp1
  refine Ev.ofL (m := 6) (L := [some (.ref 0), some (.int sx), none, none, none, none, none, none]) rfl (Nat.le_of_ble_eq_true rfl) rfl rfl ?_
  refine w_aload_n dX6_lays_0 rfl ?_
  refine w_iload_n dX6_lays_1 rfl ?_
  refine w_callVi dX6_lays_2 ml_X6_239 mv_X6_findingOfSheet rfl rfl (by decide) rfl (k_finding G _ μ n hC _) rfl rfl (Nat.le_of_ble_eq_true rfl) ?_
  rcases badk_cases μ sx with ⟨hb1, eb⟩ | ⟨s, hs, es, hb1, hb2, eb⟩ | ⟨s, hs, es, hb1, hb2, eb⟩
  · skip
    refine w_eqi eb ?_
    refine w_istore_n dX6_lays_5 (by decide) rfl rfl ?_
    dsimp only [List.set]
    refine w_iload_n dX6_lays_6 rfl ?_
    refine w_if_eq (t := 16) dX6_lays_7 (by decide) (fun hz1 => absurd hz1 (by decide)) (fun hz1 => ?_)
    refine w_aload_n dX6_lays_10 rfl ?_
    refine w_iload_n dX6_lays_11 rfl ?_
    refine w_callVi dX6_lays_12 ml_X6_51 mv_X6_tell rfl rfl (by decide) rfl (c_tell G _ _ 0 (by decide) (by decide)) rfl rfl (Nat.le_of_ble_eq_true rfl) ?_
    refine w_iret dX6_lays_15 rfl ?_
    exact CQ.fnd hC Mo.rfl (by decide) (by simp only [M_lays, eq_true hb1, if_true])
  · skip
    subst es
    have hcs : (nI s).toNatClampNeg = s := nI_clamp (by omega)
    refine w_eqi eb ?_
    obtain ⟨z, z1, z2, z3, z4, z5, z6⟩ := hC.sh s hs
    refine w_istore_n dX6_lays_5 (by decide) rfl rfl ?_
    dsimp only [List.set]
    refine w_iload_n dX6_lays_6 rfl ?_
    refine w_if_eq (t := 16) dX6_lays_7 (by decide) (fun hz2 => absurd hz2 (by decide)) (fun hz2 => ?_)
    refine w_aload_n dX6_lays_10 rfl ?_
    refine w_iload_n dX6_lays_11 rfl ?_
    refine w_callVi dX6_lays_12 ml_X6_51 mv_X6_tell rfl rfl (by decide) rfl (c_tell G _ _ 5 (by decide) (by decide)) rfl rfl (Nat.le_of_ble_eq_true rfl) ?_
    refine w_iret dX6_lays_15 rfl ?_
    exact CQ.fnd hC Mo.rfl (by decide) (by simp only [M_lays, hcs, eq_false hb1, eq_true hb2, if_true, if_false])
  · skip
    subst es
    have hcs : (nI s).toNatClampNeg = s := nI_clamp (by omega)
    refine w_eqi eb ?_
    obtain ⟨z, z1, z2, z3, z4, z5, z6⟩ := hC.sh s hs
    refine w_istore_n dX6_lays_5 (by decide) rfl rfl ?_
    dsimp only [List.set]
    refine w_iload_n dX6_lays_6 rfl ?_
    refine w_if_eq (t := 16) dX6_lays_7 (by decide) (fun hz3 => ?_) (fun hz3 => absurd rfl hz3)
    refine w_iconst dX6_lays_16 ic_0 ?_
    refine w_istore_n dX6_lays_17 (by decide) rfl rfl ?_
    dsimp only [List.set]
    refine w_aload_n dX6_lays_18 rfl ?_
    refine w_getR (t := 6) dX6_lays_19 fl_X6_35 rfl (by decide) (by decide) rfl ?_
    refine w_iload_n dX6_lays_22 rfl ?_
    refine w_sald (j := s) dX6_lays_23 rfl (by omega) ?_
    refine w_getI dX6_lays_24 fl_X6_238 (kd_sh hs) rfl ?_
    refine w_eqi z4 ?_
    · skip
      refine w_aload_n dX6_lays_27 rfl ?_
      refine w_getR (t := 1) dX6_lays_28 fl_X6_10 rfl (by decide) (by decide) rfl ?_
      refine w_getI dX6_lays_31 fl_X6_86 rfl rfl ?_
      refine w_eqi hC.rp.n ?_
      · skip
        refine w_min dX6_lays_34 mi_X6_266 mm_min rfl ?_
        refine w_eqi (min_nI (by omega) (by omega)) ?_
        · skip
          refine w_istore dX6_lays_37 (by decide) rfl rfl ?_
          dsimp only [List.set]
          refine w_iconst dX6_lays_39 ic_0 ?_
          refine w_istore dX6_lays_40 (by decide) rfl rfl ?_
          dsimp only [List.set]
          have lp : ∀ (m : Nat) (i : Nat) (τ : Sg) (w6 w7 : Option Value), min z n - i < m → i ≤ min z n → Pl σ τ 1 (p_lay μ.1 (fun k => mShe μ (40 * s + k)) i).1 n → WP G mX6_lays 42 [some (.ref 0), some (.int (nI s)), some (.int 0), some (.int (p_lay μ.1 (fun k => mShe μ (40 * s + k)) i).2), some (.int (nI (min z n))), some (.int (nI i)), w6, w7] [] (τ) (CQ σ (M_lays μ (nI s))) := by
            intro m
            induction m with
            | zero => intro i τ w6 w7 hmz; exact absurd hmz (Nat.not_lt_zero _)
            | succ m ih =>
              intro i τ w6 w7 hmz hi ht
              refine w_iload dX6_lays_42 rfl ?_
              refine w_iload dX6_lays_44 rfl ?_
              refine w2_icmp_ge (t := 104) dX6_lays_46 (by decide) (fun hz4 => ?_) (fun hz4 => ?_)
              · skip
                have hge := nlt_nI (by omega) (by omega) hz4
                have hen : i = min z n := by omega
                rw [hen] at ht
                refine w_iload_n dX6_lays_104 rfl ?_
                rw [hen]
                refine w_iret dX6_lays_105 rfl ?_
                have hR : M_lays μ (nI s) = ((p_lay μ.1 (fun k => mShe μ (40 * s + k)) (min z n)).2, sRow μ (p_lay μ.1 (fun k => mShe μ (40 * s + k)) (min z n)).1) := by simp only [M_lays, hcs, z2, nI_clamp (show z < 2 ^ 31 by omega), hnR, eq_false hb1, eq_false hb2, if_false]
                exact CQ.row hC ht (hC.rv.lay (min z n) (by omega)) (by rw [p_lay_5]; exact hC.h5) hR
              · skip
                have hlt := lt_nI (by omega) (by omega) hz4
                refine w_aload_n dX6_lays_49 rfl ?_
                refine w_getR (t := 6) dX6_lays_50 fl_X6_35 rfl (by decide) (by decide) rfl ?_
                refine w_iload_n dX6_lays_53 rfl ?_
                refine w_sald (j := s) dX6_lays_54 rfl (by omega) ?_
                refine w_getR (t := (22 + s)) dX6_lays_55 fl_X6_242 (kd_sh hs) (by decide) (by decide) sr_sh ?_
                refine w_iload dX6_lays_58 rfl ?_
                refine w_lald (j := i) dX6_lays_60 (kd_nu hs) rfl (by rw [ln_nu hs]; omega) ?_
                have e6 : τ.2.1 (22 + s) i = mShe μ (40 * s + i) := by rw [ht.2.2.2.1]; exact z6 i (by omega)
                rw [e6]
                · skip
                  refine w_lstore dX6_lays_61 (by decide) rfl rfl ?_
                  dsimp only [List.set]
                  refine w_lload dX6_lays_63 rfl ?_
                  refine w_lconst dX6_lays_65 lc_0 ?_
                  refine w_lcmp dX6_lays_66 ?_
                  refine w_if_lt (t := 98) dX6_lays_67 (by decide) (fun hz5 => ?_) (fun hz5 => ?_)
                  · skip
                    have ps : p_lay μ.1 (fun k => mShe μ (40 * s + k)) (i + 1) = p_lay μ.1 (fun k => mShe μ (40 * s + k)) i := by rw [p_lay_s, if_pos hz5]
                    refine w_iincN (a := i) (b := 1) dX6_lays_98 rfl ic_1 (by decide) rfl rfl ?_
                    dsimp only [List.set]
                    refine w_goto (t := 42) dX6_lays_101 (by decide) ?_
                    have q0 := ih (i + 1) τ (some (.long (mShe μ (40 * s + i)))) none (by omega) (by omega) (by rw [ps]; exact ht)
                    rw [ps] at q0
                    exact q0
                  · skip
                    refine w_lload dX6_lays_70 rfl ?_
                    refine w_ldc2 dX6_lays_72 kl_X6_271 ?_
                    refine w_lcmp dX6_lays_75 ?_
                    refine w_if_gt (t := 98) dX6_lays_76 (by decide) (fun hz6 => ?_) (fun hz6 => ?_)
                    · skip
                      have ps : p_lay μ.1 (fun k => mShe μ (40 * s + k)) (i + 1) = p_lay μ.1 (fun k => mShe μ (40 * s + k)) i := by rw [p_lay_s, if_neg hz5, if_pos hz6]
                      refine w_iincN (a := i) (b := 1) dX6_lays_98 rfl ic_1 (by decide) rfl rfl ?_
                      dsimp only [List.set]
                      refine w_goto (t := 42) dX6_lays_101 (by decide) ?_
                      have q0 := ih (i + 1) τ (some (.long (mShe μ (40 * s + i)))) none (by omega) (by omega) (by rw [ps]; exact ht)
                      rw [ps] at q0
                      exact q0
                    · skip
                      have ps : p_lay μ.1 (fun k => mShe μ (40 * s + k)) (i + 1) = (upd (p_lay μ.1 (fun k => mShe μ (40 * s + k)) i).1 (9 + 7 * i + 2) (mShe μ (40 * s + i)).toInt32, (p_lay μ.1 (fun k => mShe μ (40 * s + k)) i).2 + 1) := by rw [p_lay_s, if_neg hz5, if_neg hz6]
                      refine w_aload_n dX6_lays_79 rfl ?_
                      refine w_getR (t := 1) dX6_lays_80 fl_X6_10 rfl (by decide) (by decide) rfl ?_
                      refine w_getR (t := 12) dX6_lays_83 fl_X6_93 rfl (by decide) (by decide) rfl ?_
                      refine w_iload dX6_lays_86 rfl ?_
                      refine w_aald (j := i) dX6_lays_88 rfl rfl (by omega) ?_
                      refine w_lload dX6_lays_89 rfl ?_
                      refine w_l2i dX6_lays_91 ?_
                      refine w_putI dX6_lays_92 fl_X6_124 (ht.2.1.kd pp1 i (by omega)) rfl (by decide +kernel) ?_
                      refine w_iinc dX6_lays_95 rfl rfl (by decide) rfl rfl ?_
                      dsimp only [List.set]
                      
                      refine w_iincN (a := i) (b := 1) dX6_lays_98 rfl ic_1 (by decide) rfl rfl ?_
                      dsimp only [List.set]
                      refine w_goto (t := 42) dX6_lays_101 (by decide) ?_
                      have q0 := ih (i + 1) _ (some (.long (mShe μ (40 * s + i)))) none (by omega) (by omega) (by rw [ps]; exact ht.trans (Pl.rodw ht.1 pp1 ht.2.1 h8 (by omega) (by decide)))
                      rw [ps] at q0
                      exact q0
          exact lp (min z n + 1) 0 σ none none (by omega) (by omega) ⟨hC.rp, hC.p1, Fp.rfl⟩
def BkI (σ τ : Sg) (μ : MO) (n s k i : Nat) : Prop := (∀ c j, c ≠ 2 → c ≠ 10 → c ≠ 16 → ¬ (34 ≤ c ∧ c < 42) → τ.1 c j = σ.1 c j) ∧ (∀ c j, c ≠ 22 + s → τ.2.1 c j = σ.2.1 c j) ∧ (∀ c j, c ≠ 13 → τ.2.2 c j = σ.2.2 c j) ∧ Rp τ 2 (p_pass μ.1 n i) n ∧ Pm τ 2 ∧ TG τ 2 (p_pass μ.1 n i) n ∧ (∀ j, j < i → τ.2.1 (22 + s) j = p_nar (mBit μ s) (p_pass μ.1 n j (9 + 7 * k + 6)).toInt64) ∧ ∀ j, i ≤ j → τ.2.1 (22 + s) j = σ.2.1 (22 + s) j
theorem BkI.step {σ τ τ2 : Sg} {μ : MO} {n s k i : Nat} (h : BkI σ τ μ n s k i) (hP : Pt (wL τ (22 + s) i (p_nar (mBit μ s) (p_pass μ.1 n i (9 + 7 * k + 6)).toInt64)) τ2 2 (p_hour (p_pass μ.1 n i) n) n) : BkI σ τ2 μ n s k (i + 1) := by
  obtain ⟨h1, h2, h3, h4, h5, h6, h7, h8⟩ := h
  obtain ⟨g1, g2, g3, g4, -⟩ := hP
  have e2 : ∀ c j, τ2.2.1 c j = (wL τ (22 + s) i (p_nar (mBit μ s) (p_pass μ.1 n i (9 + 7 * k + 6)).toInt64)).2.1 c j := fun c j => by rw [g3.2.1]
  refine ⟨fun c j a1 a2 a3 a4 => (g3.1 c j a1 a2 a3 (by omega)).trans (h1 c j a1 a2 a3 a4), fun c j hc => ?_, fun c j hc => (g3.2.2 c j hc).trans (h3 c j hc), g1, g2, g4, fun j hj => ?_, fun j hj => ?_⟩
  · rw [e2, wL_c hc]; exact h2 c j hc
  · rw [e2]
    by_cases e : j = i
    · subst e; exact wL_s _ _ _ _
    · rw [wL_k e]; exact h7 j (by omega)
  · rw [e2, wL_k (by omega)]; exact h8 j (by omega)
theorem book_end {σ τ : Sg} {μ : MO} {n s k z : Nat} (hC : RC σ μ n) (hs : s < 4) (hz : z ≤ 40) (h : BkI σ τ μ n s k z) (hsz : mSiz μ s = nI z) : RC τ (sShe μ (fun j => if 40 * s ≤ j ∧ j < 40 * s + z then p_nar (mBit μ s) (p_pass μ.1 n (j - 40 * s) (9 + 7 * k + 6)).toInt64 else mShe μ j)) n := by
  obtain ⟨h1, h2, h3, h4, h5, h6, h7, h8⟩ := h
  have hF : Fp 2 σ (τ.1, σ.2.1, τ.2.2) := ⟨fun c j a1 a2 a3 a4 => h1 c j a1 a2 a3 (by omega), rfl, fun c j hc => h3 c j hc⟩
  have hC2 : RC (τ.1, σ.2.1, τ.2.2) μ n := hC.ghost hF h5
  refine hC2.lng rfl rfl (fun s' hs' y hy hyz he j hj => ?_)
  by_cases e : s' = s
  · subst e
    have eyz : y = z := (nI_eq (by omega) (by omega)).mp (hyz.symm.trans hsz)
    subst eyz
    rw [if_pos (by omega), show 40 * s' + j - 40 * s' = j by omega]
    exact h7 j hj
  · rw [if_neg (by omega), h2 _ _ (by omega)]
    exact he j hj
set_option maxRecDepth 100000 in
set_option maxHeartbeats 800000 in
theorem k_book (G : GT) (σ : Sg) (μ : MO) (n : Nat) (hC : RC σ μ n) (sx rx : Int32) : Ev G mX6_book [.ref 0, .int sx, .int rx] σ (CQ σ (M_book μ sx rx)) := by
  have h8 := hC.rv.le
  have hn := hC.rv.n
  have hnR := hC.nn
  have hr1 : ∀ j, j < 8 → kd (σ.2.2 12 j) = 3 := hC.p1.kd pp1
  refine Ev.ofL (m := 2) (L := [some (.ref 0), some (.int sx), some (.int rx), none, none]) rfl (Nat.le_of_ble_eq_true rfl) rfl rfl ?_
  refine w_aload_n dX6_book_0 rfl ?_
  refine w_iload_n dX6_book_1 rfl ?_
  refine w_iload_n dX6_book_2 rfl ?_
  refine w_callVi dX6_book_3 ml_X6_273 mv_X6_findingOfBook rfl rfl (by decide) rfl (k_findingB G _ μ n hC _ _) rfl rfl (Nat.le_of_ble_eq_true rfl) ?_
  rcases badB_cases μ sx rx with ⟨hb1, eb⟩ | ⟨s, hs, es, hb1, hb2, eb⟩ | ⟨s, hs, es, hb1, hb2, hb3, eb⟩ | ⟨s, hs, es, hb1, hb2, hb3, eb⟩
  · skip
    refine w_eqi eb ?_
    refine w_istore_n dX6_book_6 (by decide) rfl rfl ?_
    dsimp only [List.set]
    refine w_iload_n dX6_book_7 rfl ?_
    refine w_if_eq (t := 17) dX6_book_8 (by decide) (fun hz1 => absurd hz1 (by decide)) (fun hz1 => ?_)
    refine w_aload_n dX6_book_11 rfl ?_
    refine w_iload_n dX6_book_12 rfl ?_
    refine w_callVi dX6_book_13 ml_X6_51 mv_X6_tell rfl rfl (by decide) rfl (c_tell G _ _ 0 (by decide) (by decide)) rfl rfl (Nat.le_of_ble_eq_true rfl) ?_
    refine w_iret dX6_book_16 rfl ?_
    exact CQ.fnd hC Mo.rfl (by decide) (by simp only [M_book, eq_true hb1, if_true])
  · skip
    subst es
    have hcs : (nI s).toNatClampNeg = s := nI_clamp (by omega)
    obtain ⟨z, z1, z2, z3, z4, z5, z6⟩ := hC.sh s hs
    refine w_eqi eb ?_
    refine w_istore_n dX6_book_6 (by decide) rfl rfl ?_
    dsimp only [List.set]
    refine w_iload_n dX6_book_7 rfl ?_
    refine w_if_eq (t := 17) dX6_book_8 (by decide) (fun hz2 => absurd hz2 (by decide)) (fun hz2 => ?_)
    refine w_aload_n dX6_book_11 rfl ?_
    refine w_iload_n dX6_book_12 rfl ?_
    refine w_callVi dX6_book_13 ml_X6_51 mv_X6_tell rfl rfl (by decide) rfl (c_tell G _ _ 5 (by decide) (by decide)) rfl rfl (Nat.le_of_ble_eq_true rfl) ?_
    refine w_iret dX6_book_16 rfl ?_
    exact CQ.fnd hC Mo.rfl (by decide) (by simp only [M_book, hcs, eq_false hb1, eq_true hb2, if_true, if_false])
  · skip
    subst es
    have hcs : (nI s).toNatClampNeg = s := nI_clamp (by omega)
    obtain ⟨z, z1, z2, z3, z4, z5, z6⟩ := hC.sh s hs
    refine w_eqi eb ?_
    refine w_istore_n dX6_book_6 (by decide) rfl rfl ?_
    dsimp only [List.set]
    refine w_iload_n dX6_book_7 rfl ?_
    refine w_if_eq (t := 17) dX6_book_8 (by decide) (fun hz3 => absurd hz3 (by decide)) (fun hz3 => ?_)
    refine w_aload_n dX6_book_11 rfl ?_
    refine w_iload_n dX6_book_12 rfl ?_
    refine w_callVi dX6_book_13 ml_X6_51 mv_X6_tell rfl rfl (by decide) rfl (c_tell G _ _ 0 (by decide) (by decide)) rfl rfl (Nat.le_of_ble_eq_true rfl) ?_
    refine w_iret dX6_book_16 rfl ?_
    exact CQ.fnd hC Mo.rfl (by decide) (by simp only [M_book, hcs, eq_false hb1, eq_false hb2, eq_true hb3, if_true, if_false])
  · skip
    subst es
    have hcs : (nI s).toNatClampNeg = s := nI_clamp (by omega)
    obtain ⟨z, z1, z2, z3, z4, z5, z6⟩ := hC.sh s hs
    refine w_eqi eb ?_
    obtain ⟨k, hk, rfl⟩ := rod_of hb3 hn h8
    have hck : (nI k).toNatClampNeg = k := nI_clamp (by omega)
    refine w_istore_n dX6_book_6 (by decide) rfl rfl ?_
    dsimp only [List.set]
    refine w_iload_n dX6_book_7 rfl ?_
    refine w_if_eq (t := 17) dX6_book_8 (by decide) (fun hz4 => ?_) (fun hz4 => absurd rfl hz4)
    refine w_aload_n dX6_book_17 rfl ?_
    refine w_callVqv dX6_book_18 ml_X6_175 mv_X6_raiseGhost rfl rfl (by decide) rfl (k_raise G _ μ n hC) rfl rfl (Nat.le_of_ble_eq_true rfl) (fun τ1 h1 => ?_)
    refine w_aload_n dX6_book_21 rfl ?_
    refine w_getR (t := 2) dX6_book_22 fl_X6_16 rfl (by decide) (by decide) rfl ?_
    refine w_callVqv dX6_book_25 ml_X6_276 mv_X1_aim rfl rfl (by decide) rfl (q1_aim G _ 2 pp2 h1.1 hC.rv h1.2.1) rfl rfl (Nat.le_of_ble_eq_true rfl) (fun τ2 h2 => ?_)
    refine w_iconst dX6_book_28 ic_0 ?_
    refine w_istore dX6_book_29 (by decide) rfl rfl ?_
    dsimp only [List.set]
    have lp : ∀ (m : Nat) (i : Nat) (τ : Sg), z - i < m → i ≤ z → BkI σ τ μ n s k i → WP G mX6_book 31 [some (.ref 0), some (.int (nI s)), some (.int (nI k)), some (.int 0), some (.int (nI i))] [] (τ) (CQ σ (M_book μ (nI s) (nI k))) := by
      intro m
      induction m with
      | zero => intro i τ hmz; exact absurd hmz (Nat.not_lt_zero _)
      | succ m ih =>
        intro i τ hmz hi ht
        refine w_iload dX6_book_31 rfl ?_
        refine w_aload_n dX6_book_33 rfl ?_
        refine w_getR (t := 6) dX6_book_34 fl_X6_35 rfl (by decide) (by decide) rfl ?_
        refine w_iload_n dX6_book_37 rfl ?_
        refine w_sald (j := s) dX6_book_38 rfl (by omega) ?_
        refine w_getI dX6_book_39 fl_X6_238 (kd_sh hs) rfl ?_
        refine w_eqi ((ht.1 (18 + s) 2 (by omega) (by omega) (by omega) (by omega)).trans z4) ?_
        · skip
          refine w2_icmp_ge (t := 82) dX6_book_42 (by decide) (fun hz5 => ?_) (fun hz5 => ?_)
          · skip
            have hge := nlt_nI (by omega) (by omega) hz5
            have hen : i = z := by omega
            rw [hen] at ht
            refine w_aload_n dX6_book_82 rfl ?_
            refine w_getR (t := 6) dX6_book_83 fl_X6_35 rfl (by decide) (by decide) rfl ?_
            refine w_iload_n dX6_book_86 rfl ?_
            refine w_sald (j := s) dX6_book_87 rfl (by omega) ?_
            refine w_getI dX6_book_88 fl_X6_238 (kd_sh hs) rfl ?_
            refine w_eqi ((ht.1 (18 + s) 2 (by omega) (by omega) (by omega) (by omega)).trans z4) ?_
            refine w_iret dX6_book_91 rfl ?_
            have hR : M_book μ (nI s) (nI k) = (nI z, sShe μ (fun j => if 40 * s ≤ j ∧ j < 40 * s + z then p_nar (mBit μ s) (p_pass μ.1 n (j - 40 * s) (9 + 7 * k + 6)).toInt64 else mShe μ j)) := by simp only [M_book, hcs, hck, z2, nI_clamp (show z < 2 ^ 31 by omega), hnR, eq_false hb1, eq_false hb2, eq_false hb3, if_false]
            rw [hR]
            exact ⟨rfl, ⟨n, book_end hC hs z1 ht z2⟩, ⟨fun c j hc => ht.1 c j (by omega) (by omega) (by omega) (by omega), fun c j hc => ht.2.1 c j (by omega)⟩⟩
          · skip
            have hlt := lt_nI (by omega) (by omega) hz5
            refine w_aload_n dX6_book_45 rfl ?_
            refine w_getR (t := 6) dX6_book_46 fl_X6_35 rfl (by decide) (by decide) rfl ?_
            refine w_iload_n dX6_book_49 rfl ?_
            refine w_sald (j := s) dX6_book_50 rfl (by omega) ?_
            refine w_iload dX6_book_51 rfl ?_
            refine w_aload_n dX6_book_53 rfl ?_
            refine w_getR (t := 2) dX6_book_54 fl_X6_16 rfl (by decide) (by decide) rfl ?_
            refine w_getR (t := 13) dX6_book_57 fl_X6_93 rfl (by decide) (by decide) rfl ?_
            refine w_iload_n dX6_book_60 rfl ?_
            refine w_aald (j := k) dX6_book_61 rfl rfl (by omega) ?_
            refine w_getI dX6_book_62 fl_X6_178 (ht.2.2.2.2.1.kd pp2 k (by omega)) rfl ?_
            refine w_eqi (show _ = p_pass μ.1 n i (9 + 7 * k + 6) from ht.2.2.2.1.rd hk 6 (by decide)) ?_
            · skip
              refine w_i2l dX6_book_65 ?_
              refine w_callVv dX6_book_66 ml_X6_246 mv_X4_put rfl (kd_sh hs) (by decide) rfl (c4_put G _ s hs i (by omega) _) rfl rfl (Nat.le_of_ble_eq_true rfl) ?_
              rw [show τ.1 (18 + s) 1 = mBit μ s from (ht.1 (18 + s) 1 (by omega) (by omega) (by omega) (by omega)).trans z3]
              · skip
                refine w_aload_n dX6_book_69 rfl ?_
                refine w_getR (t := 2) dX6_book_70 fl_X6_16 rfl (by decide) (by decide) rfl ?_
                refine w_callVqv dX6_book_73 ml_X6_279 mv_X1_goHour rfl rfl (by decide) rfl (q1_goHour G _ 2 pp2 ht.2.2.2.1 (hC.rv.pass i) ht.2.2.2.2.1 ht.2.2.2.2.2.1) rfl rfl (Nat.le_of_ble_eq_true rfl) (fun τ4 h4 => ?_)
                refine w_iincN (a := i) (b := 1) dX6_book_76 rfl ic_1 (by decide) rfl rfl ?_
                dsimp only [List.set]
                refine w_goto (t := 31) dX6_book_79 (by decide) ?_
                exact ih (i + 1) τ4 (by omega) (by omega) (ht.step h4)
    exact lp (z + 1) 0 τ2 (by omega) (by omega) ⟨fun c j a1 a2 a3 a4 => (h1.2.2.trans h2.2.2.1).1 c j a1 a2 a3 (by omega), fun c j _ => by rw [(h1.2.2.trans h2.2.2.1).2.1], fun c j hc => (h1.2.2.trans h2.2.2.1).2.2 c j hc, h2.1, h2.2.1, h2.2.2.2.1, fun j hj => absurd hj (Nat.not_lt_zero j), fun j _ => by rw [(h1.2.2.trans h2.2.2.1).2.1]⟩
theorem bst_ld {f g : Nat → Int32} {n : Nat} (hr : ∀ r, r < n → ∀ w, w < 3 → g (9 + 7 * r + w) = f (9 + 7 * r + w)) (r : Int32) : p_bst (ldf f g) n r = p_bst g n r := by
  have e1 : p_breaks (ldf f g) = p_breaks g := by
    unfold p_breaks
    rw [ldf_lo (by decide), ldf_lo (by decide)]
  have e2 : p_strk (ldf f g) n (ldf f g 0) = p_strk g n (g 0) := by
    rw [ldf_lo (by decide)]
    exact p_strk_cg (fun r hrn w hw => by rw [ldf_hi (by omega), hr r hrn w hw])
  unfold p_bst
  rw [e1, e2]
theorem hour_bolts {g : Nat → Int32} {n k : Nat} (hv : RV g n) (hk : k < n) : p_hour g n (9 + 7 * k + 6) = if p_bst g n (nI k) = 0 then g (9 + 7 * k + 6) else k_held (g (9 + 7 * k + 6) + 1) := by
  have h8 := hv.le
  have hb6 : ¬ g (9 + 7 * k + 6) + 1 < 0 := (sum_nn (hv.rod hk).2.2.2.2.2.2 (iB.of (k := 1) (b := 1) (by decide) (by decide)) (by decide)).1
  unfold p_hour p_bst
  rw [p_rest_ge _ (by omega)]
  by_cases b : p_breaks g = 0
  · rw [if_pos b, if_pos b, if_pos rfl]
  · rw [if_neg b, if_neg b]
    unfold p_bolt
    rw [p_bs_bolt, updN (by omega)]
    cases ho : p_strk g n (g 0) with
    | none =>
      rw [if_neg (show ¬ oI none = nI k from fun z => absurd z.symm (by
        show ¬ nI k = -1
        intro y
        have q0 := nI_pos (n := k) (by omega)
        rw [y] at q0
        exact q0 (by decide))), if_pos rfl]
      exact updN (by omega)
    | some o =>
      have hol := p_strk_lt ho
      by_cases e : o = k
      · subst e
        rw [if_pos (show oI (some o) = nI o from rfl), if_neg (by decide), ← held_k hb6]
        simp only [p_bs]
        split
        · rw [updN (by omega), updN (by omega), updS]
        · rw [updN (by omega), updS]
      · rw [if_neg (show ¬ oI (some o) = nI k from fun z => e ((nI_eq (by omega) (by omega)).mp z)), if_pos rfl]
        simp only [p_bs]
        split
        · rw [updN (by omega), updN (by omega), updN (by omega)]
        · rw [updN (by omega), updN (by omega)]
/-- nothing but the ghost's cloud is changed -/
def Gc (σ τ : Sg) : Prop := (∀ c j, c ≠ 10 → τ.1 c j = σ.1 c j) ∧ τ.2 = σ.2
theorem Gc.rfl {σ : Sg} : Gc σ σ := ⟨fun _ _ _ => Eq.refl _, Eq.refl _⟩
theorem Gc.trans {a b c : Sg} (h : Gc a b) (k : Gc b c) : Gc a c := ⟨fun d j hd => (k.1 d j hd).trans (h.1 d j hd), k.2.trans h.2⟩
theorem Gc.setC {σ : Sg} {g : Nat → Int32} : Gc σ (setC σ 10 g) := ⟨fun d j hd => by rw [setC_ne hd], Eq.refl _⟩
theorem Gc.fp {σ τ : Sg} (h : Gc σ τ) : Fp 2 σ τ := ⟨fun c j _ h2 _ _ => h.1 c j h2, by rw [h.2], fun c j _ => by rw [h.2]⟩
theorem Rp.gc {σ τ : Sg} {f g : Nat → Int32} {n : Nat} (h : Rp σ 2 f n) (hm : Pm σ 2) (h8 : n ≤ 8) (hG : Gc σ τ) (hc : ∀ k, k < 5 → τ.1 10 k = g k) : Rp τ 2 (ldf f g) n := by
  refine ⟨fun k hk => by rw [ldf_lo hk]; exact hc k hk, (hG.1 2 2 (by decide)).trans h.n, ?_, ?_, ?_, fun r hr w hw => ?_⟩
  · rw [ldf_hi (by decide)]; exact (hG.1 2 3 (by decide)).trans h.hr
  · rw [ldf_hi (by decide)]; exact (hG.1 2 4 (by decide)).trans h.st
  · rw [ldf_hi (by decide)]; exact (hG.1 2 5 (by decide)).trans h.z
  · rw [hG.2]
    have q0 := hm.1 r (by omega)
    rw [hG.1 _ _ (by omega), h.rd hr w hw]
    exact (ldf_hi (j := 9 + 7 * r + w) (by omega)).symm
theorem grow_cg {a b : Nat → Int32} (e : ∀ j, j < 5 → a j = b j) : ∀ j, j < 5 → p_grow (p_drift a) j = p_grow (p_drift b) j := by
  have e1 : ∀ j, j < 5 → p_drift a j = p_drift b j := by
    unfold p_drift
    rw [e 0 (by decide), e 2 (by decide)]
    split
    · intro j hj
      by_cases z : j = 2
      · subst z; rw [updS, updS]
      · rw [updN z, updN z, e j hj]
    · intro j hj
      by_cases z : j = 0
      · subst z; rw [updS, updS]
      · rw [updN z, updN z, e j hj]
  intro j hj
  unfold p_grow
  by_cases z : j = 1
  · subst z; rw [updS, updS, e1 1 (by decide), e1 3 (by decide)]
  · rw [updN z, updN z, e1 j hj]
set_option maxRecDepth 100000 in
set_option maxHeartbeats 800000 in
theorem k_isBooked (G : GT) (σ : Sg) (μ : MO) (n : Nat) (hC : RC σ μ n) (s k z : Nat) (hs : s < 4) (hk : k < n) (z1 : z ≤ 40) (z4 : σ.1 (18 + s) 2 = nI z) (z6 : ∀ j, j < z → σ.2.1 (22 + s) j = mShe μ (40 * s + j)) {f g : Nat → Int32} (hR : Rp σ 2 f n) (hfv : RV f n) (hT : TG σ 2 f n) (hgv : RV g n) (hgr : ∀ j, 9 ≤ j → g j = μ.1 j) (hfr : ∀ j, 9 ≤ j → f j = μ.1 j) (hc0 : ∀ j, j < 5 → σ.1 10 j = g j) : Ev G mX6_isBooked [.ref 0, .ref (18 + s), .int (nI k)] σ (fun v τ => v = some (.int (p_so g n k (fun k => mShe μ (40 * s + k)) z)) ∧ Gc σ τ) := by
  have h8 := hC.rv.le
  have hn := hC.rv.n
  have hnR := hC.nn
  have hr1 : ∀ j, j < 8 → kd (σ.2.2 12 j) = 3 := hC.p1.kd pp1
  refine Ev.ofL (m := 2) (L := [some (.ref 0), some (.ref (18 + s)), some (.int (nI k)), none, none]) rfl (Nat.le_of_ble_eq_true rfl) rfl rfl ?_
  refine w_aload_n dX6_isBooked_0 rfl ?_
  refine w_getR (t := 1) dX6_isBooked_1 fl_X6_10 rfl (by decide) (by decide) rfl ?_
  refine w_getR (t := 12) dX6_isBooked_4 fl_X6_93 rfl (by decide) (by decide) rfl ?_
  refine w_iload_n dX6_isBooked_7 rfl ?_
  refine w_aald (j := k) dX6_isBooked_8 rfl rfl (by omega) ?_
  refine w_getI dX6_isBooked_9 fl_X6_178 (hr1 k (by omega)) rfl ?_
  refine w_eqi (show _ = p_pass g n 0 (9 + 7 * k + 6) from (hC.rd1 hk 6 (by decide)).trans (hgr _ (by omega)).symm) ?_
  · skip
    refine w_istore_n dX6_isBooked_12 (by decide) rfl rfl ?_
    dsimp only [List.set]
    refine w_iconst dX6_isBooked_13 ic_0 ?_
    refine w_istore dX6_isBooked_14 (by decide) rfl rfl ?_
    dsimp only [List.set]
    have lp : ∀ (m : Nat) (i : Nat) (τ : Sg), z - i < m → i ≤ z → Gc σ τ → (∀ j, j < 5 → τ.1 10 j = p_pass g n i j) → p_so g n k (fun k => mShe μ (40 * s + k)) i = 1 → WP G mX6_isBooked 16 [some (.ref 0), some (.ref (18 + s)), some (.int (nI k)), some (.int (p_pass g n i (9 + 7 * k + 6))), some (.int (nI i))] [] (τ) (fun v τ => v = some (.int (p_so g n k (fun k => mShe μ (40 * s + k)) z)) ∧ Gc σ τ) := by
      intro m
      induction m with
      | zero => intro i τ hmz; exact absurd hmz (Nat.not_lt_zero _)
      | succ m ih =>
        intro i τ hmz hi hG hcl hso
        refine w_iload dX6_isBooked_16 rfl ?_
        refine w_aload_n dX6_isBooked_18 rfl ?_
        refine w_getI dX6_isBooked_19 fl_X6_238 (kd_sh hs) rfl ?_
        refine w_eqi ((hG.1 (18 + s) 2 (by omega)).trans z4) ?_
        · skip
          refine w2_icmp_ge (t := 74) dX6_isBooked_22 (by decide) (fun hz1 => ?_) (fun hz1 => ?_)
          · skip
            have hge := nlt_nI (by omega) (by omega) hz1
            have hen : i = z := by omega
            subst hen
            refine w_iconst dX6_isBooked_74 ic_1 ?_
            refine w_zret dX6_isBooked_75 rfl rfl ?_
            exact ⟨by rw [hso], hG⟩
          · skip
            have hlt := lt_nI (by omega) (by omega) hz1
            refine w_aload_n dX6_isBooked_25 rfl ?_
            refine w_getR (t := (22 + s)) dX6_isBooked_26 fl_X6_242 (kd_sh hs) (by decide) (by decide) sr_sh ?_
            refine w_iload dX6_isBooked_29 rfl ?_
            refine w_lald (j := i) dX6_isBooked_31 (kd_nu hs) rfl (by rw [ln_nu hs]; omega) ?_
            have e6 : τ.2.1 (22 + s) i = mShe μ (40 * s + i) := by rw [hG.2]; exact z6 i (by omega)
            rw [e6]
            · skip
              refine w_iload_n dX6_isBooked_32 rfl ?_
              refine w_i2l dX6_isBooked_33 ?_
              refine w_lcmp dX6_isBooked_34 ?_
              refine w_if_eq (t := 40) dX6_isBooked_35 (by decide) (fun hz2 => ?_) (fun hz2 => ?_)
              · skip
                have hso1 : p_so g n k (fun k => mShe μ (40 * s + k)) (i + 1) = 1 := by rw [p_so_s, hso, if_neg (by decide), if_pos hz2]
                have hml : Pm τ 2 := hC.p2.eq (fun j => by rw [hG.2])
                have hRl : Rp τ 2 (ldf f (p_pass g n i)) n := hR.gc hC.p2 h8 hG hcl
                have hvl : RV (ldf f (p_pass g n i)) n := hfv.ldf (hgv.pass i)
                have hTl : TG τ 2 (ldf f (p_pass g n i)) n := fun q hq => by
                  rw [hG.1 _ _ (by decide), hT q hq]
                  exact congrArg oI (p_strk_cg (fun r hrn w hw => (ldf_hi (by omega)).symm))
                refine w_aload_n dX6_isBooked_40 rfl ?_
                refine w_getR (t := 2) dX6_isBooked_41 fl_X6_16 rfl (by decide) (by decide) rfl ?_
                refine w_iload_n dX6_isBooked_44 rfl ?_
                refine w_callVi dX6_isBooked_45 ml_X6_298 mv_X1_boltStrikes rfl rfl (by decide) rfl (q1_boltStrikes G _ 2 pp2 hRl hvl hml hTl _) rfl rfl (Nat.le_of_ble_eq_true rfl) ?_
                refine w_eqi (show _ = p_bst (p_pass g n i) n (nI k) from bst_ld (fun r hrn w hw => by rw [p_pass_rod g n (by omega), hgr _ (by omega), hfr _ (by omega)]) _) ?_
                · skip
                  refine w_if_eq (t := 58) dX6_isBooked_48 (by decide) (fun hz3 => ?_) (fun hz3 => ?_)
                  · skip
                    refine w_aload_n dX6_isBooked_58 rfl ?_
                    refine w_getR (t := 2) dX6_isBooked_59 fl_X6_16 rfl (by decide) (by decide) rfl ?_
                    refine w_getR (t := 10) dX6_isBooked_62 fl_X6_55 rfl (by decide) (by decide) rfl ?_
                    refine w_callVv dX6_isBooked_65 ml_X6_310 mv_X0_passHour rfl rfl (by decide) rfl (c0_passHour G _ _ rfl) rfl rfl (Nat.le_of_ble_eq_true rfl) ?_
                    refine w_iincN (a := i) (b := 1) dX6_isBooked_68 rfl ic_1 (by decide) rfl rfl ?_
                    dsimp only [List.set]
                    refine w_goto (t := 16) dX6_isBooked_71 (by decide) ?_
                    have hb := hour_bolts (hgv.pass i) hk
                    rw [if_pos hz3] at hb
                    have q0 := ih (i + 1) (setC τ 10 (k_pass (τ.1 10))) (by omega) (by omega) (hG.trans Gc.setC) (fun j hj => ?_) hso1
                    · rw [p_pass, hb] at q0
                      exact q0
                    · rw [setC_at, k_pass_p hcl (hgv.pass i).ch (hgv.pass i).2.2.2.2.1 j hj, p_pass]
                      unfold p_hour p_rest
                      rw [updN (by omega)]
                      by_cases br : p_breaks (p_pass g n i) = 0
                      · rw [if_pos br, if_pos br]
                      · rw [if_neg br, if_neg br]
                        refine grow_cg (fun l hl => ?_) j hj
                        unfold p_bolt
                        rw [p_bs_bolt]
                        by_cases e1 : l = 1
                        · subst e1; rw [updS, updS]
                        · rw [updN e1, updN e1, p_bs_low _ _ (by omega) (by omega)]
                  · skip
                    refine w_iload_n dX6_isBooked_51 rfl ?_
                    refine w_iconst dX6_isBooked_52 ic_1 ?_
                    refine w_iadd dX6_isBooked_53 ?_
                    refine w_callSi dX6_isBooked_54 ml_X6_307 ms_X6_held rfl (c_held G _ _) rfl rfl (Nat.le_of_ble_eq_true rfl) ?_
                    refine w_istore_n dX6_isBooked_57 (by decide) rfl rfl ?_
                    dsimp only [List.set]
                    refine w_aload_n dX6_isBooked_58 rfl ?_
                    refine w_getR (t := 2) dX6_isBooked_59 fl_X6_16 rfl (by decide) (by decide) rfl ?_
                    refine w_getR (t := 10) dX6_isBooked_62 fl_X6_55 rfl (by decide) (by decide) rfl ?_
                    refine w_callVv dX6_isBooked_65 ml_X6_310 mv_X0_passHour rfl rfl (by decide) rfl (c0_passHour G _ _ rfl) rfl rfl (Nat.le_of_ble_eq_true rfl) ?_
                    refine w_iincN (a := i) (b := 1) dX6_isBooked_68 rfl ic_1 (by decide) rfl rfl ?_
                    dsimp only [List.set]
                    refine w_goto (t := 16) dX6_isBooked_71 (by decide) ?_
                    have hb := hour_bolts (hgv.pass i) hk
                    rw [if_neg hz3] at hb
                    have q0 := ih (i + 1) (setC τ 10 (k_pass (τ.1 10))) (by omega) (by omega) (hG.trans Gc.setC) (fun j hj => ?_) hso1
                    · rw [p_pass, hb] at q0
                      exact q0
                    · rw [setC_at, k_pass_p hcl (hgv.pass i).ch (hgv.pass i).2.2.2.2.1 j hj, p_pass]
                      unfold p_hour p_rest
                      rw [updN (by omega)]
                      by_cases br : p_breaks (p_pass g n i) = 0
                      · rw [if_pos br, if_pos br]
                      · rw [if_neg br, if_neg br]
                        refine grow_cg (fun l hl => ?_) j hj
                        unfold p_bolt
                        rw [p_bs_bolt]
                        by_cases e1 : l = 1
                        · subst e1; rw [updS, updS]
                        · rw [updN e1, updN e1, p_bs_low _ _ (by omega) (by omega)]
              · skip
                refine w_iconst dX6_isBooked_38 ic_0 ?_
                refine w_zret dX6_isBooked_39 rfl rfl ?_
                refine ⟨?_, hG⟩
                have e : p_so g n k (fun k => mShe μ (40 * s + k)) (i + 1) = 0 := by rw [p_so_s, hso, if_neg (by decide), if_neg hz2]
                rw [p_so_0 e z (by omega)]
    exact lp (z + 1) 0 σ (by omega) (by omega) Gc.rfl hc0 rfl
theorem ldf_ldf (f h g : Nat → Int32) : ldf (ldf f h) g = ldf f g := by
  funext j
  unfold ldf
  split <;> rfl
theorem Gc.w {σ : Sg} {k : Nat} {v : Int32} : Gc σ (wI σ 10 k v) := ⟨fun d j hd => wI_c hd, Eq.refl _⟩
theorem rd_cl {τ : Sg} {f : Nat → Int32} {a b : Int32} (h : ∀ j, j < 5 → τ.1 9 j = f j) : ∀ j, j < 5 → (wI (wI (setC τ 10 (k_take5 (τ.1 10) (τ.1 9))) 10 1 a) 10 0 b).1 10 j = upd (upd f 1 a) 0 b j := by
  intro j hj
  by_cases e0 : j = 0
  · subst e0; rw [wI_s, updS]
  · rw [wI_k e0, updN e0]
    by_cases e1 : j = 1
    · subst e1; rw [wI_s, updS]
    · rw [wI_k e1, updN e1, setC_at, k_take5_at _ _ j hj]
      exact h j hj
set_option maxRecDepth 100000 in
set_option maxHeartbeats 800000 in
theorem k_read (G : GT) (σ : Sg) (μ : MO) (n : Nat) (hC : RC σ μ n) (sx rx : Int32) : Ev G mX6_read [.ref 0, .int sx, .int rx] σ (CQ σ (M_read μ sx rx)) := by
  have h8 := hC.rv.le
  have hn := hC.rv.n
  have hnR := hC.nn
  have hr1 : ∀ j, j < 8 → kd (σ.2.2 12 j) = 3 := hC.p1.kd pp1
  refine Ev.ofL (m := 4) (L := [some (.ref 0), some (.int sx), some (.int rx), none, none, none, none]) rfl (Nat.le_of_ble_eq_true rfl) rfl rfl ?_
  refine w_aload_n dX6_read_0 rfl ?_
  refine w_iload_n dX6_read_1 rfl ?_
  refine w_iload_n dX6_read_2 rfl ?_
  refine w_callVi dX6_read_3 ml_X6_273 mv_X6_findingOfBook rfl rfl (by decide) rfl (k_findingB G _ μ n hC _ _) rfl rfl (Nat.le_of_ble_eq_true rfl) ?_
  rcases badB_cases μ sx rx with ⟨hb1, eb⟩ | ⟨s, hs, es, hb1, hb2, eb⟩ | ⟨s, hs, es, hb1, hb2, hb3, eb⟩ | ⟨s, hs, es, hb1, hb2, hb3, eb⟩
  · skip
    refine w_eqi eb ?_
    refine w_istore_n dX6_read_6 (by decide) rfl rfl ?_
    dsimp only [List.set]
    refine w_iload_n dX6_read_7 rfl ?_
    refine w_if_eq (t := 17) dX6_read_8 (by decide) (fun hz1 => absurd hz1 (by decide)) (fun hz1 => ?_)
    refine w_aload_n dX6_read_11 rfl ?_
    refine w_iload_n dX6_read_12 rfl ?_
    refine w_callVi dX6_read_13 ml_X6_51 mv_X6_tell rfl rfl (by decide) rfl (c_tell G _ _ 0 (by decide) (by decide)) rfl rfl (Nat.le_of_ble_eq_true rfl) ?_
    refine w_iret dX6_read_16 rfl ?_
    exact CQ.fnd hC Mo.rfl (by decide) (by simp only [M_read, eq_true hb1, if_true])
  · skip
    subst es
    have hcs : (nI s).toNatClampNeg = s := nI_clamp (by omega)
    obtain ⟨z, z1, z2, z3, z4, z5, z6⟩ := hC.sh s hs
    refine w_eqi eb ?_
    refine w_istore_n dX6_read_6 (by decide) rfl rfl ?_
    dsimp only [List.set]
    refine w_iload_n dX6_read_7 rfl ?_
    refine w_if_eq (t := 17) dX6_read_8 (by decide) (fun hz2 => absurd hz2 (by decide)) (fun hz2 => ?_)
    refine w_aload_n dX6_read_11 rfl ?_
    refine w_iload_n dX6_read_12 rfl ?_
    refine w_callVi dX6_read_13 ml_X6_51 mv_X6_tell rfl rfl (by decide) rfl (c_tell G _ _ 5 (by decide) (by decide)) rfl rfl (Nat.le_of_ble_eq_true rfl) ?_
    refine w_iret dX6_read_16 rfl ?_
    exact CQ.fnd hC Mo.rfl (by decide) (by simp only [M_read, hcs, eq_false hb1, eq_true hb2, if_true, if_false])
  · skip
    subst es
    have hcs : (nI s).toNatClampNeg = s := nI_clamp (by omega)
    obtain ⟨z, z1, z2, z3, z4, z5, z6⟩ := hC.sh s hs
    refine w_eqi eb ?_
    refine w_istore_n dX6_read_6 (by decide) rfl rfl ?_
    dsimp only [List.set]
    refine w_iload_n dX6_read_7 rfl ?_
    refine w_if_eq (t := 17) dX6_read_8 (by decide) (fun hz3 => absurd hz3 (by decide)) (fun hz3 => ?_)
    refine w_aload_n dX6_read_11 rfl ?_
    refine w_iload_n dX6_read_12 rfl ?_
    refine w_callVi dX6_read_13 ml_X6_51 mv_X6_tell rfl rfl (by decide) rfl (c_tell G _ _ 0 (by decide) (by decide)) rfl rfl (Nat.le_of_ble_eq_true rfl) ?_
    refine w_iret dX6_read_16 rfl ?_
    exact CQ.fnd hC Mo.rfl (by decide) (by simp only [M_read, hcs, eq_false hb1, eq_false hb2, eq_true hb3, if_true, if_false])
  · skip
    subst es
    have hcs : (nI s).toNatClampNeg = s := nI_clamp (by omega)
    obtain ⟨z, z1, z2, z3, z4, z5, z6⟩ := hC.sh s hs
    refine w_eqi eb ?_
    obtain ⟨k, hk, rfl⟩ := rod_of hb3 hn h8
    have hck : (nI k).toNatClampNeg = k := nI_clamp (by omega)
    refine w_istore_n dX6_read_6 (by decide) rfl rfl ?_
    dsimp only [List.set]
    refine w_iload_n dX6_read_7 rfl ?_
    refine w_if_eq (t := 17) dX6_read_8 (by decide) (fun hz4 => ?_) (fun hz4 => absurd rfl hz4)
    refine w_aload_n dX6_read_17 rfl ?_
    refine w_callVqv dX6_read_18 ml_X6_175 mv_X6_raiseGhost rfl rfl (by decide) rfl (k_raise G _ μ n hC) rfl rfl (Nat.le_of_ble_eq_true rfl) (fun τ1 h1 => ?_)
    refine w_aload_n dX6_read_21 rfl ?_
    refine w_getR (t := 2) dX6_read_22 fl_X6_16 rfl (by decide) (by decide) rfl ?_
    refine w_callVqv dX6_read_25 ml_X6_276 mv_X1_aim rfl rfl (by decide) rfl (q1_aim G _ 2 pp2 h1.1 hC.rv h1.2.1) rfl rfl (Nat.le_of_ble_eq_true rfl) (fun τ2 h2 => ?_)
    refine w_iconst dX6_read_28 ic_0 ?_
    refine w_istore dX6_read_29 (by decide) rfl rfl ?_
    dsimp only [List.set]
    refine w_iconst dX6_read_31 ic_0 ?_
    refine w_istore dX6_read_32 (by decide) rfl rfl ?_
    dsimp only [List.set]
    have lp : ∀ (m : Nat) (cc : Nat) (τ : Sg) (y6 : Option Value), 100 - cc < m → cc ≤ 100 → Gh σ τ → (∃ h : Nat → Int32, Rp τ 2 (ldf μ.1 h) n) → TG τ 2 μ.1 n → WP G mX6_read 34 [some (.ref 0), some (.int (nI s)), some (.int (nI k)), some (.int 0), some (.int (p_rdC μ.1 n k z (fun k => mShe μ (40 * s + k)) cc)), some (.int (nI cc)), y6] [] (τ) (CQ σ (M_read μ (nI s) (nI k))) := by
      intro m
      induction m with
      | zero => intro cc τ y6 hmz; exact absurd hmz (Nat.not_lt_zero _)
      | succ m ih =>
        intro cc τ y6 hmz hcl hgh hex hT
        refine w_iload dX6_read_34 rfl ?_
        refine w_bipush dX6_read_36 bp_99 ?_
        refine w_icmp_gt (t := 128) dX6_read_38 (by decide) (fun hz5 => ?_) (fun hz5 => ?_)
        · skip
          have hge := lt_nI (r := 99) (by decide) (by omega) hz5
          have hen : cc = 100 := by omega
          subst hen
          refine w_iload dX6_read_128 rfl ?_
          refine w_iret dX6_read_130 rfl ?_
          exact CQ.same (hC.gh hgh) hgh.mo (by simp only [M_read, hcs, hck, z2, nI_clamp (show z < 2 ^ 31 by omega), hnR, eq_false hb1, eq_false hb2, eq_false hb3, if_false])
        · skip
          have hltc := nlt_nI (r := 99) (by decide) (by omega) hz5
          refine w_iconst dX6_read_41 ic_0 ?_
          refine w_istore dX6_read_42 (by decide) rfl rfl ?_
          dsimp only [List.set]
          have lpp : ∀ (m : Nat) (pp : Nat) (τ : Sg), 16 - pp < m → pp ≤ 16 → Gh σ τ → (∃ h : Nat → Int32, Rp τ 2 (ldf μ.1 h) n) → TG τ 2 μ.1 n → WP G mX6_read 44 [some (.ref 0), some (.int (nI s)), some (.int (nI k)), some (.int 0), some (.int (p_rdC μ.1 n k z (fun k => mShe μ (40 * s + k)) cc + p_rdP μ.1 n k z (fun k => mShe μ (40 * s + k)) cc pp)), some (.int (nI cc)), some (.int (nI pp))] [] (τ) (CQ σ (M_read μ (nI s) (nI k))) := by
            intro mp
            induction mp with
            | zero => intro pp τ hmz; exact absurd hmz (Nat.not_lt_zero _)
            | succ mp ihp =>
              intro pp τ hmz hpl hgh hex hT
              refine w_iload dX6_read_44 rfl ?_
              refine w_bipush dX6_read_46 bp_16 ?_
              refine w2_icmp_ge (t := 122) dX6_read_48 (by decide) (fun hz6 => ?_) (fun hz6 => ?_)
              · skip
                have hgep := nlt_nI (n := 16) (by omega) (by decide) hz6
                have henp : pp = 16 := by omega
                subst henp
                refine w_iincN (a := cc) (b := 1) dX6_read_122 rfl ic_1 (by decide) rfl rfl ?_
                dsimp only [List.set]
                refine w_goto (t := 34) dX6_read_125 (by decide) ?_
                exact ih (cc + 1) τ _ (by omega) (by omega) hgh hex hT
              · skip
                have hltp := lt_nI (n := 16) (by omega) (by decide) hz6
                refine w_aload_n dX6_read_51 rfl ?_
                refine w_getR (t := 2) dX6_read_52 fl_X6_16 rfl (by decide) (by decide) rfl ?_
                refine w_getR (t := 10) dX6_read_55 fl_X6_55 rfl (by decide) (by decide) rfl ?_
                refine w_aload_n dX6_read_58 rfl ?_
                refine w_getR (t := 1) dX6_read_59 fl_X6_10 rfl (by decide) (by decide) rfl ?_
                refine w_getR (t := 9) dX6_read_62 fl_X6_55 rfl (by decide) (by decide) rfl ?_
                refine w_callVv dX6_read_65 ml_X6_282 mv_X0_takeFrom rfl rfl (by decide) rfl (c0_takeFrom G _ 10 9 rfl rfl (by decide)) rfl rfl (Nat.le_of_ble_eq_true rfl) ?_
                refine w_aload_n dX6_read_68 rfl ?_
                refine w_getR (t := 2) dX6_read_69 fl_X6_16 rfl (by decide) (by decide) rfl ?_
                refine w_getR (t := 10) dX6_read_72 fl_X6_55 rfl (by decide) (by decide) rfl ?_
                refine w_iload dX6_read_75 rfl ?_
                refine w_putI dX6_read_77 fl_X6_105 rfl rfl (by decide +kernel) ?_
                refine w_aload_n dX6_read_80 rfl ?_
                refine w_getR (t := 2) dX6_read_81 fl_X6_16 rfl (by decide) (by decide) rfl ?_
                refine w_getR (t := 10) dX6_read_84 fl_X6_55 rfl (by decide) (by decide) rfl ?_
                refine w_iload dX6_read_87 rfl ?_
                refine w_putI dX6_read_89 fl_X6_97 rfl rfl (by decide +kernel) ?_
                have hCt := hC.gh hgh
                obtain ⟨h, hhr⟩ := hex
                have hGc : Gc τ (wI (wI (setC τ 10 (k_take5 (τ.1 10) (τ.1 9))) 10 1 (nI cc)) 10 0 (nI pp)) := Gc.setC.trans (Gc.w.trans Gc.w)
                have hC3 : RC (wI (wI (setC τ 10 (k_take5 (τ.1 10) (τ.1 9))) 10 1 (nI cc)) 10 0 (nI pp)) μ n := hCt.ghost hGc.fp (hCt.p2.eq (fun j => by rw [hGc.2]))
                have hgh3 : Gh σ (wI (wI (setC τ 10 (k_take5 (τ.1 10) (τ.1 9))) 10 1 (nI cc)) 10 0 (nI pp)) := hgh.trans ⟨hGc.fp, hCt.p2.eq (fun j => by rw [hGc.2])⟩
                have hc3 : ∀ j, j < 5 → (wI (wI (setC τ 10 (k_take5 (τ.1 10) (τ.1 9))) 10 1 (nI cc)) 10 0 (nI pp)).1 10 j = (upd (upd μ.1 1 (nI cc)) 0 (nI pp)) j := rd_cl (fun j hj => hCt.cl1 hj)
                have hgv3 : RV (upd (upd μ.1 1 (nI cc)) 0 (nI pp)) n := (hC.rv.cldw (k := 1) (by decide) (show cB 1 (nI cc) from iB.of (b := 99) (by omega) (by decide))).cldw (k := 0) (by decide) (show cB 0 (nI pp) from iB.of (b := 15) (by omega) (by decide))
                have hR3 : Rp (wI (wI (setC τ 10 (k_take5 (τ.1 10) (τ.1 9))) 10 1 (nI cc)) 10 0 (nI pp)) 2 (ldf μ.1 (upd (upd μ.1 1 (nI cc)) 0 (nI pp))) n := by
                  rw [← ldf_ldf μ.1 h]
                  exact hhr.gc hCt.p2 h8 hGc hc3
                have hfv3 : RV (ldf μ.1 (upd (upd μ.1 1 (nI cc)) 0 (nI pp))) n := hC.rv.ldf hgv3
                have hT3 : TG (wI (wI (setC τ 10 (k_take5 (τ.1 10) (τ.1 9))) 10 1 (nI cc)) 10 0 (nI pp)) 2 (ldf μ.1 (upd (upd μ.1 1 (nI cc)) 0 (nI pp))) n := fun q hq => by
                  rw [hGc.1 _ _ (by decide), hT q hq]
                  exact congrArg oI (p_strk_cg (fun r hrn w hw => (ldf_hi (by omega)).symm))
                have z43 : (wI (wI (setC τ 10 (k_take5 (τ.1 10) (τ.1 9))) 10 1 (nI cc)) 10 0 (nI pp)).1 (18 + s) 2 = nI z := (hGc.1 _ _ (by omega)).trans ((hgh.1.1 _ _ (by omega) (by omega) (by omega) (by omega)).trans z4)
                have z63 : ∀ j, j < z → (wI (wI (setC τ 10 (k_take5 (τ.1 10) (τ.1 9))) 10 1 (nI cc)) 10 0 (nI pp)).2.1 (22 + s) j = mShe μ (40 * s + j) := fun j hj => by
                  rw [hGc.2, hgh.1.2.1]
                  exact z6 j hj
                refine w_iload dX6_read_92 rfl ?_
                refine w_aload_n dX6_read_94 rfl ?_
                refine w_aload_n dX6_read_95 rfl ?_
                refine w_getR (t := 6) dX6_read_96 fl_X6_35 rfl (by decide) (by decide) rfl ?_
                refine w_iload_n dX6_read_99 rfl ?_
                refine w_sald (j := s) dX6_read_100 rfl (by omega) ?_
                refine w_iload_n dX6_read_101 rfl ?_
                refine w_callVqi dX6_read_102 ml_X6_285 mv_X6_isBooked rfl rfl (by decide) rfl (k_isBooked G _ μ n hC3 s k z hs hk z1 z43 z63 hR3 hfv3 hT3 hgv3 (fun j hj => by rw [updN (by omega), updN (by omega)]) (fun j hj => ldf_hi (by omega)) hc3) rfl rfl (Nat.le_of_ble_eq_true rfl) (fun τ4 h4 => ?_)
                have hgh4 : Gh σ τ4 := hgh3.trans ⟨h4.fp, hC3.p2.eq (fun j => by rw [h4.2])⟩
                have hex4 : ∃ h : Nat → Int32, Rp τ4 2 (ldf μ.1 h) n := ⟨τ4.1 10, by rw [← ldf_ldf μ.1 (upd (upd μ.1 1 (nI cc)) 0 (nI pp))]; exact hR3.gc hC3.p2 h8 h4 (fun _ _ => rfl)⟩
                have hT4 : TG τ4 2 μ.1 n := fun q hq => by rw [h4.1 _ _ (by decide), hGc.1 _ _ (by decide)]; exact hT q hq
                refine w_if_eq (t := 112) dX6_read_105 (by decide) (fun hz7 => ?_) (fun hz7 => ?_)
                · skip
                  refine w_iconst dX6_read_112 ic_0 ?_
                  refine w_iadd dX6_read_113 ?_
                  refine w_istore dX6_read_114 (by decide) rfl rfl ?_
                  dsimp only [List.set]
                  refine w_iincN (a := pp) (b := 1) dX6_read_116 rfl ic_1 (by decide) rfl rfl ?_
                  dsimp only [List.set]
                  refine w_goto (t := 44) dX6_read_119 (by decide) ?_
                  have q0 := ihp (pp + 1) τ4 (by omega) (by omega) hgh4 hex4 hT4
                  simp only [p_rdP, eq_true hz7, if_true, if_false, ← Int32.add_assoc] at q0
                  exact q0
                · skip
                  refine w_iconst dX6_read_108 ic_1 ?_
                  refine w_goto (t := 113) dX6_read_109 (by decide) ?_
                  refine w_iadd dX6_read_113 ?_
                  refine w_istore dX6_read_114 (by decide) rfl rfl ?_
                  dsimp only [List.set]
                  refine w_iincN (a := pp) (b := 1) dX6_read_116 rfl ic_1 (by decide) rfl rfl ?_
                  dsimp only [List.set]
                  refine w_goto (t := 44) dX6_read_119 (by decide) ?_
                  have q0 := ihp (pp + 1) τ4 (by omega) (by omega) hgh4 hex4 hT4
                  simp only [p_rdP, eq_false hz7, if_true, if_false, ← Int32.add_assoc] at q0
                  exact q0
          have q1 := lpp 17 0 τ (by omega) (by omega) hgh hex hT
          simp only [p_rdP, Int32.add_zero] at q1
          exact q1
    refine lp 101 0 τ2 none (by omega) (by omega) (h1.gh.trans h2.pl.gh) ⟨μ.1, ?_⟩ h2.2.2.2.1
    have e : ldf μ.1 μ.1 = μ.1 := funext fun j => by
      unfold ldf
      split <;> rfl
    rw [e]
    exact h2.1
