/-! images, tape, counts -/
/-- the plains are as they were -/
def Ky (σ τ : Sg) : Prop := (∀ c j, (1 ≤ c ∧ c ≤ 3) ∨ (9 ≤ c ∧ c < 18) ∨ (26 ≤ c ∧ c < 50) → τ.1 c j = σ.1 c j) ∧ τ.2.2 = σ.2.2
theorem Rp.ky {σ τ : Sg} {p n : Nat} {f : Nat → Int32} (h : Rp σ p f n) (hp : PP p) (hm : Pm σ p) (h8 : n ≤ 8) (hK : Ky σ τ) : Rp τ p f n := by
  have hp1 := hp.1
  have hp2 := hp.2
  refine h.same (funext fun j => hK.1 _ _ (by omega)) (funext fun j => hK.1 _ _ (by omega)) (fun j => by rw [hK.2]) (fun r hr => funext fun j => hK.1 _ _ ?_)
  have q0 := hm.1 r (by omega)
  omega
theorem Pm.ky {σ τ : Sg} {p : Nat} (h : Pm σ p) (hK : Ky σ τ) : Pm τ p := h.eq (fun j => by rw [hK.2])
theorem RCk.ky {σ τ : Sg} {μ μ' : MO} (h : RCk σ μ) (hK : Ky σ τ) (hm : Pm σ 3) (e : τ.1 0 3 = σ.1 0 3) (e1 : mKep μ' = mKep μ) (e2 : mImg μ' = mImg μ) : RCk τ μ' := by
  obtain ⟨k1, k2, k3⟩ := h
  unfold RCk
  rw [e1, e2, e]
  refine ⟨k1, k2, fun z => ?_⟩
  obtain ⟨m, m1, m2, m3⟩ := k3 z
  exact ⟨m, m1, m2, m3.ky pp3 hm m1.le hK⟩
theorem RCt.eq {σ τ : Sg} {μ μ' : MO} (h : RCt σ μ) (h1 : τ.1 5 1 = σ.1 5 1) (h2 : ∀ j, τ.1 8 j = σ.1 8 j) (e1 : mTm μ' = mTm μ) (e2 : mTap μ' = mTap μ) : RCt τ μ' := by
  unfold RCt
  simp only [e1, e2, h1, h2]
  exact h
theorem RCs.eq {σ τ : Sg} {μ μ' : MO} (h : RCs σ μ) (h1 : ∀ s j, s < 4 → τ.1 (18 + s) j = σ.1 (18 + s) j) (h2 : ∀ s j, s < 4 → τ.2.1 (22 + s) j = σ.2.1 (22 + s) j) (e1 : mBit μ' = mBit μ) (e2 : mSiz μ' = mSiz μ) (e3 : mShe μ' = mShe μ) : RCs τ μ' := by
  intro s hs
  rw [e1, e2, e3, h1 s 1 hs, h1 s 2 hs]
  obtain ⟨z, z1, z2, z3, z4, z5, z6⟩ := h s hs
  exact ⟨z, z1, z2, z3, z4, z5, fun j hj => by rw [h2 s j hs]; exact z6 j hj⟩
theorem RC.mk' {σ τ : Sg} {μ μ' : MO} {n : Nat} (h : RC σ μ n) (hK : Ky σ τ) (e1 : μ'.1 = μ.1) (fd : ∀ j, j < 7 → τ.1 7 j = mFnd μ' j) (kp : RCk τ μ') (tp : RCt τ μ') (sh : RCs τ μ') : RC τ μ' n := by
  refine ⟨by rw [e1]; exact h.rv, by rw [e1]; exact h.h5, by rw [e1]; exact h.rp.ky pp1 h.p1 h.rv.le hK, ⟨h.p1.ky hK, h.p2.ky hK, h.p3.ky hK⟩, fd, kp, tp, sh⟩
theorem Ky.w {σ : Sg} {c k : Nat} {v : Int32} (h : c = 0 ∨ (4 ≤ c ∧ c < 9) ∨ (18 ≤ c ∧ c < 26)) : Ky σ (wI σ c k v) := ⟨fun d j hd => wI_c (by omega), Eq.refl _⟩
theorem Ky.trans {a b c : Sg} (h : Ky a b) (k : Ky b c) : Ky a c := ⟨fun d j hd => (k.1 d j hd).trans (h.1 d j hd), k.2.trans h.2⟩
theorem Ky.rfl {a : Sg} : Ky a a := ⟨fun _ _ _ => Eq.refl _, Eq.refl _⟩
theorem image_end {σ τ : Sg} {μ : MO} {n : Nat} (hC : RC σ μ n) (hP : Pl σ τ 3 μ.1 n) : CQ σ (M_image μ) (some (.int 1)) (wI τ 0 3 1) := by
  obtain ⟨r3, p3, hF⟩ := hP
  have h8 := hC.rv.le
  have hK : Ky τ (wI τ 0 3 1) := Ky.w (Or.inl rfl)
  have eqs : ∀ c j, c = 5 ∨ c = 7 ∨ c = 8 ∨ (18 ≤ c ∧ c < 22) → (wI τ 0 3 1).1 c j = σ.1 c j := fun c j hc => (wI_c (by omega)).trans (hF.1 c j (by omega) (by omega) (by omega) (by omega))
  have eg : ∀ j, j < 65 → mImg (M_image μ).2 j = μ.1 j := fun j hj => if_pos hj
  refine ⟨rfl, ⟨n, ?_⟩, (Mo.fp pp3 hF).trans (Mo.w (by decide))⟩
  refine ⟨hC.rv, hC.h5, (hC.rp.fr hF pp3 pp1 (by decide) hC.p1 h8).ky pp1 (hC.p1.fr hF (by decide)) h8 hK, ⟨(hC.p1.fr hF (by decide)).ky hK, (hC.p2.fr hF (by decide)).ky hK, p3.ky hK⟩, fun j hj => ?_, ⟨Or.inr rfl, wI_s _ _ _ _, fun _ => ⟨n, hC.rv.cg (fun j hj _ _ => eg j (by omega)), ?_, ?_⟩⟩, ?_, ?_⟩
  · rw [eqs 7 j (by omega)]; exact hC.fd j hj
  · rw [eg 5 (by decide)]; exact hC.h5
  · exact (r3.ky pp3 p3 h8 hK).cg (fun j hj _ => eg j (by omega))
  · exact hC.tp.eq (eqs 5 1 (by omega)) (fun j => eqs 8 j (by omega)) rfl rfl
  · exact hC.sh.eq (fun s j hs => eqs (18 + s) j (by omega)) (fun s j hs => by rw [show (wI τ 0 3 1).2.1 = τ.2.1 from rfl, hF.2.1]) rfl rfl rfl
set_option maxRecDepth 100000 in
set_option maxHeartbeats 800000 in
theorem k_image (G : GT) (σ : Sg) (μ : MO) (n : Nat) (hC : RC σ μ n) : Ev G mX6_image [.ref 0] σ (CQ σ (M_image μ )) := by
  have h8 := hC.rv.le
  have hn := hC.rv.n
  have hnR := hC.nn
  have hr1 : ∀ j, j < 8 → kd (σ.2.2 12 j) = 3 := hC.p1.kd pp1
  refine Ev.ofL (m := 0) (L := [some (.ref 0)]) rfl (Nat.le_of_ble_eq_true rfl) rfl rfl ?_
  refine w_aload_n dX6_image_0 rfl ?_
  refine w_getR (t := 3) dX6_image_1 fl_X6_19 rfl (by decide) (by decide) rfl ?_
  refine w_aload_n dX6_image_4 rfl ?_
  refine w_getR (t := 1) dX6_image_5 fl_X6_10 rfl (by decide) (by decide) rfl ?_
  refine w_callVqv dX6_image_8 ml_X6_224 mv_X1_takeFrom rfl rfl (by decide) rfl (q1_takeFrom G _ 3 1 pp3 pp1 (by decide) hC.rp h8 hC.p3 hC.p1) rfl rfl (Nat.le_of_ble_eq_true rfl) (fun τ hq => ?_)
  refine w_aload_n dX6_image_11 rfl ?_
  refine w_iconst dX6_image_12 ic_1 ?_
  refine w_putZ dX6_image_13 fl_X6_22 rfl rfl (by decide +kernel) (by decide) ?_
  refine w_iconst dX6_image_16 ic_1 ?_
  refine w_iret dX6_image_17 rfl ?_
  exact image_end hC hq
theorem undo_end {σ τ : Sg} {μ : MO} {n m : Nat} (hC : RC σ μ n) (hk : ¬ mKep μ = 0) (hv : RV (mImg μ) m) (h5 : iB (mImg μ 5) 0 9999) (hP : Pl σ τ 1 (mImg μ) m) : CQ σ (M_undo μ) (some (.int (nI m))) τ := by
  have h8 := hv.le
  have eg : ∀ j, j < 65 → (fun j => if j < 65 then mImg μ j else μ.1 j) j = mImg μ j := fun j hj => if_pos hj
  refine CQ.row (f := fun j => if j < 65 then mImg μ j else μ.1 j) (m := m) hC ⟨hP.1.cg (fun j hj _ => eg j (by omega)), hP.2⟩ (hv.cg (fun j hj _ _ => eg j (by omega))) (show iB (if 5 < 65 then mImg μ 5 else μ.1 5) 0 9999 from by rw [if_pos (by decide)]; exact h5) ?_
  unfold M_undo
  rw [if_neg (show ¬ μ.2.2.2.1 = 0 from hk), ← hv.n]
  rfl
set_option maxRecDepth 100000 in
set_option maxHeartbeats 800000 in
theorem k_undo (G : GT) (σ : Sg) (μ : MO) (n : Nat) (hC : RC σ μ n) : Ev G mX6_undo [.ref 0] σ (CQ σ (M_undo μ )) := by
  have h8 := hC.rv.le
  have hn := hC.rv.n
  have hnR := hC.nn
  have hr1 : ∀ j, j < 8 → kd (σ.2.2 12 j) = 3 := hC.p1.kd pp1
  refine Ev.ofL (m := 0) (L := [some (.ref 0)]) rfl (Nat.le_of_ble_eq_true rfl) rfl rfl ?_
  refine w_aload_n dX6_undo_0 rfl ?_
  refine w_getI dX6_undo_1 fl_X6_22 rfl rfl ?_
  refine w_eqi hC.kp.2.1 ?_
  refine w_if_ne (t := 14) dX6_undo_4 (by decide) (fun hz1 => ?_) (fun hz1 => ?_)
  · skip
    obtain ⟨k1, k2, k3⟩ := hC.kp
    obtain ⟨m, mv, m5, mr⟩ := k3 (z_not hz1 k1)
    have hm8 := mv.le
    · skip
      refine w_aload_n dX6_undo_14 rfl ?_
      refine w_getR (t := 1) dX6_undo_15 fl_X6_10 rfl (by decide) (by decide) rfl ?_
      refine w_aload_n dX6_undo_18 rfl ?_
      refine w_getR (t := 3) dX6_undo_19 fl_X6_19 rfl (by decide) (by decide) rfl ?_
      refine w_callVqv dX6_undo_22 ml_X6_224 mv_X1_takeFrom rfl rfl (by decide) rfl (q1_takeFrom G _ 1 3 pp1 pp3 (by decide) mr hm8 hC.p1 hC.p3) rfl rfl (Nat.le_of_ble_eq_true rfl) (fun τ hq => ?_)
      refine w_aload_n dX6_undo_25 rfl ?_
      refine w_getR (t := 1) dX6_undo_26 fl_X6_10 rfl (by decide) (by decide) rfl ?_
      refine w_getI dX6_undo_29 fl_X6_86 rfl rfl ?_
      refine w_eqi hq.1.n ?_
      refine w_iret dX6_undo_32 rfl ?_
      exact undo_end hC hz1 mv m5 hq
  · skip
    refine w_aload_n dX6_undo_7 rfl ?_
    refine w_ldc dX6_undo_8 kc_X6_184 ?_
    refine w_callVi dX6_undo_10 ml_X6_51 mv_X6_tell rfl rfl (by decide) rfl (c_tell G _ _ 3 (by decide) (by decide)) rfl rfl (Nat.le_of_ble_eq_true rfl) ?_
    refine w_iret dX6_undo_13 rfl ?_
    exact CQ.fnd hC Mo.rfl (by decide) (by unfold M_undo; rw [if_pos (show μ.2.2.2.1 = 0 from hz1)])
theorem tear_end {σ : Sg} {μ : MO} {n : Nat} (hC : RC σ μ n) : CQ σ (M_tear μ) (some (.int (if mKep μ = 0 then 0 else 1))) (wI σ 0 3 0) := by
  have hK : Ky σ (wI σ 0 3 0) := Ky.w (Or.inl rfl)
  refine ⟨rfl, ⟨n, hC.mk' hK rfl (fun j hj => ?_) ⟨Or.inl rfl, wI_s _ _ _ _, fun z => absurd z (show ¬ (0 : Int32) = 1 by decide)⟩ ?_ ?_⟩, Mo.w (by decide)⟩
  · rw [wI_c (by decide)]; exact hC.fd j hj
  · exact hC.tp.eq (wI_c (by decide)) (fun j => wI_c (by decide)) rfl rfl
  · exact hC.sh.eq (fun s j hs => wI_c (by omega)) (fun _ _ _ => rfl) rfl rfl rfl
set_option maxRecDepth 100000 in
set_option maxHeartbeats 800000 in
theorem k_tear (G : GT) (σ : Sg) (μ : MO) (n : Nat) (hC : RC σ μ n) : Ev G mX6_tear [.ref 0] σ (CQ σ (M_tear μ )) := by
  have h8 := hC.rv.le
  have hn := hC.rv.n
  have hnR := hC.nn
  have hr1 : ∀ j, j < 8 → kd (σ.2.2 12 j) = 3 := hC.p1.kd pp1
  refine Ev.ofL (m := 1) (L := [some (.ref 0), none]) rfl (Nat.le_of_ble_eq_true rfl) rfl rfl ?_
  refine w_aload_n dX6_tear_0 rfl ?_
  refine w_getI dX6_tear_1 fl_X6_22 rfl rfl ?_
  refine w_eqi hC.kp.2.1 ?_
  refine w_if_eq (t := 11) dX6_tear_4 (by decide) (fun hz1 => ?_) (fun hz1 => ?_)
  · skip
    refine w_iconst dX6_tear_11 ic_0 ?_
    refine w_istore_n dX6_tear_12 (by decide) rfl rfl ?_
    dsimp only [List.set]
    refine w_aload_n dX6_tear_13 rfl ?_
    refine w_iconst dX6_tear_14 ic_0 ?_
    refine w_putZ dX6_tear_15 fl_X6_22 rfl rfl (by decide +kernel) (by decide) ?_
    refine w_iload_n dX6_tear_18 rfl ?_
    refine w_iret dX6_tear_19 rfl ?_
    have q0 := tear_end hC
    rw [if_pos hz1] at q0
    exact q0
  · skip
    refine w_iconst dX6_tear_7 ic_1 ?_
    refine w_goto (t := 12) dX6_tear_8 (by decide) ?_
    refine w_istore_n dX6_tear_12 (by decide) rfl rfl ?_
    dsimp only [List.set]
    refine w_aload_n dX6_tear_13 rfl ?_
    refine w_iconst dX6_tear_14 ic_0 ?_
    refine w_putZ dX6_tear_15 fl_X6_22 rfl rfl (by decide +kernel) (by decide) ?_
    refine w_iload_n dX6_tear_18 rfl ?_
    refine w_iret dX6_tear_19 rfl ?_
    have q0 := tear_end hC
    rw [if_neg hz1] at q0
    exact q0
set_option maxRecDepth 100000 in
set_option maxHeartbeats 800000 in
theorem k_count (G : GT) (σ : Sg) (μ : MO) (n : Nat) (hC : RC σ μ n) (what : Int32) : Ev G mX6_count [.ref 0, .int what] σ (CQ σ (M_count μ what)) := by
  have h8 := hC.rv.le
  have hn := hC.rv.n
  have hnR := hC.nn
  have hr1 : ∀ j, j < 8 → kd (σ.2.2 12 j) = 3 := hC.p1.kd pp1
  refine Ev.ofL (m := 0) (L := [some (.ref 0), some (.int what)]) rfl (Nat.le_of_ble_eq_true rfl) rfl rfl ?_
  refine w_iload_n dX6_count_0 rfl ?_
  refine sw_0_3 (fun hz1 => ?_) (fun hz1 => ?_) (fun hz1 => ?_) (fun hz1 => ?_) (fun hz1 => ?_)
  · skip
    refine w_tableIn (t := 32) (off := 31) dX6_count_1 (by rw [hz1]; decide) (by rw [hz1]; decide) (by rw [hz1]; rfl) (by decide) ?_
    refine w_aload_n dX6_count_32 rfl ?_
    refine w_getR (t := 1) dX6_count_33 fl_X6_10 rfl (by decide) (by decide) rfl ?_
    refine w_getI dX6_count_36 fl_X6_86 rfl rfl ?_
    refine w_eqi (hC.rp.n.trans hC.rv.n.symm) ?_
    refine w_iret dX6_count_39 rfl ?_
    first
    | exact CQ.fnd hC Mo.rfl (by decide) (by simp only [M_count, hnR, if_true, if_false, eq_true hz1, eq_false (show ¬ what = 1 by rw [hz1]; decide), eq_false (show ¬ what = 2 by rw [hz1]; decide), eq_false (show ¬ what = 3 by rw [hz1]; decide)])
    | exact CQ.same hC Mo.rfl (by simp only [M_count, hnR, if_true, if_false, eq_true hz1, eq_false (show ¬ what = 1 by rw [hz1]; decide), eq_false (show ¬ what = 2 by rw [hz1]; decide), eq_false (show ¬ what = 3 by rw [hz1]; decide)])
  · skip
    refine w_tableIn (t := 40) (off := 39) dX6_count_1 (by rw [hz1]; decide) (by rw [hz1]; decide) (by rw [hz1]; rfl) (by decide) ?_
    refine w_aload_n dX6_count_40 rfl ?_
    refine w_getR (t := 4) dX6_count_41 fl_X6_29 rfl (by decide) (by decide) rfl ?_
    refine w_getR (t := 5) dX6_count_44 fl_X6_209 rfl (by decide) (by decide) rfl ?_
    refine w_getI dX6_count_47 fl_X6_213 rfl rfl ?_
    obtain ⟨t, t1, t2, t3, t4⟩ := hC.tp
    refine w_eqi (show _ = μ.2.2.2.2.1 from t3.trans t2.symm) ?_
    refine w_iret dX6_count_50 rfl ?_
    first
    | exact CQ.fnd hC Mo.rfl (by decide) (by simp only [M_count, hnR, if_true, if_false, eq_true hz1, eq_false (show ¬ what = 0 by rw [hz1]; decide), eq_false (show ¬ what = 2 by rw [hz1]; decide), eq_false (show ¬ what = 3 by rw [hz1]; decide)])
    | exact CQ.same hC Mo.rfl (by simp only [M_count, hnR, if_true, if_false, eq_true hz1, eq_false (show ¬ what = 0 by rw [hz1]; decide), eq_false (show ¬ what = 2 by rw [hz1]; decide), eq_false (show ¬ what = 3 by rw [hz1]; decide)])
  · skip
    refine w_tableIn (t := 51) (off := 50) dX6_count_1 (by rw [hz1]; decide) (by rw [hz1]; decide) (by rw [hz1]; rfl) (by decide) ?_
    refine w_aload_n dX6_count_51 rfl ?_
    refine w_getR (t := 1) dX6_count_52 fl_X6_10 rfl (by decide) (by decide) rfl ?_
    refine w_iconst dX6_count_55 ic_2 ?_
    refine w_callVi dX6_count_56 ml_X6_160 mv_X1_partsOfAll rfl rfl (by decide) rfl (q1_parts G _ 1 pp1 hC.rp h8 hC.p1 2 (by decide)) rfl rfl (Nat.le_of_ble_eq_true rfl) ?_
    refine w_iret dX6_count_59 rfl ?_
    first
    | exact CQ.fnd hC Mo.rfl (by decide) (by simp only [M_count, hnR, if_true, if_false, eq_true hz1, eq_false (show ¬ what = 0 by rw [hz1]; decide), eq_false (show ¬ what = 1 by rw [hz1]; decide), eq_false (show ¬ what = 3 by rw [hz1]; decide)])
    | exact CQ.same hC Mo.rfl (by simp only [M_count, hnR, if_true, if_false, eq_true hz1, eq_false (show ¬ what = 0 by rw [hz1]; decide), eq_false (show ¬ what = 1 by rw [hz1]; decide), eq_false (show ¬ what = 3 by rw [hz1]; decide)])
  · skip
    refine w_tableIn (t := 60) (off := 59) dX6_count_1 (by rw [hz1]; decide) (by rw [hz1]; decide) (by rw [hz1]; rfl) (by decide) ?_
    refine w_aload_n dX6_count_60 rfl ?_
    refine w_getR (t := 1) dX6_count_61 fl_X6_10 rfl (by decide) (by decide) rfl ?_
    refine w_callVi dX6_count_64 ml_X6_289 mv_X1_paidHoursOfAll rfl rfl (by decide) rfl (q1_paidH G _ 1 pp1 hC.rp h8 hC.p1) rfl rfl (Nat.le_of_ble_eq_true rfl) ?_
    refine w_iret dX6_count_67 rfl ?_
    first
    | exact CQ.fnd hC Mo.rfl (by decide) (by simp only [M_count, hnR, if_true, if_false, eq_true hz1, eq_false (show ¬ what = 0 by rw [hz1]; decide), eq_false (show ¬ what = 1 by rw [hz1]; decide), eq_false (show ¬ what = 2 by rw [hz1]; decide)])
    | exact CQ.same hC Mo.rfl (by simp only [M_count, hnR, if_true, if_false, eq_true hz1, eq_false (show ¬ what = 0 by rw [hz1]; decide), eq_false (show ¬ what = 1 by rw [hz1]; decide), eq_false (show ¬ what = 2 by rw [hz1]; decide)])
  · skip
    refine w_tableOut (t := 68) dX6_count_1 hz1.1 (by decide) ?_
    refine w_aload_n dX6_count_68 rfl ?_
    refine w_ldc dX6_count_69 kc_X6_50 ?_
    refine w_callVi dX6_count_71 ml_X6_51 mv_X6_tell rfl rfl (by decide) rfl (c_tell G _ _ 0 (by decide) (by decide)) rfl rfl (Nat.le_of_ble_eq_true rfl) ?_
    refine w_iret dX6_count_74 rfl ?_
    first
    | exact CQ.fnd hC Mo.rfl (by decide) (by simp only [M_count, hnR, if_true, if_false, eq_false hz1.2.1, eq_false hz1.2.2.1, eq_false hz1.2.2.2.1, eq_false hz1.2.2.2.2])
    | exact CQ.same hC Mo.rfl (by simp only [M_count, hnR, if_true, if_false, eq_false hz1.2.1, eq_false hz1.2.2.1, eq_false hz1.2.2.2.1, eq_false hz1.2.2.2.2])
theorem s_sum_cg {g h : Nat → Int32} : ∀ {m : Nat}, (∀ j, j < m → g j = h j) → s_sum g m = s_sum h m
  | 0, _ => rfl
  | m + 1, e => by rw [s_sum, s_sum, s_sum_cg (fun j hj => e j (by omega)), e m (by omega)]
theorem stat_of {w : Int32} (h : ¬ p_in w (-1) 6 = 0) (h0 : ¬ w < 0) : ∃ j, j < 7 ∧ w = nI j := by
  obtain ⟨h1, h2⟩ := in_of h
  obtain ⟨k, hk, rfl⟩ := nI_of h0
  have := nlt_nI (r := 6) (by decide) hk h2
  exact ⟨k, by omega, rfl⟩
set_option maxRecDepth 100000 in
set_option maxHeartbeats 800000 in
theorem k_status (G : GT) (σ : Sg) (μ : MO) (n : Nat) (hC : RC σ μ n) (which : Int32) : Ev G mX6_status [.ref 0, .int which] σ (CQ σ (M_status μ which)) := by
  have h8 := hC.rv.le
  have hn := hC.rv.n
  have hnR := hC.nn
  have hr1 : ∀ j, j < 8 → kd (σ.2.2 12 j) = 3 := hC.p1.kd pp1
  refine Ev.ofL (m := 2) (L := [some (.ref 0), some (.int which), none, none]) rfl (Nat.le_of_ble_eq_true rfl) rfl rfl ?_
  refine w_iload_n dX6_status_0 rfl ?_
  refine w_iconst dX6_status_1 ic_m1 ?_
  refine w_bipush dX6_status_2 bp_6 ?_
  refine w_callSi dX6_status_4 ml_X6_66 ms_X6_isWithin rfl (c_isWithin G _ _ _ _) rfl rfl (Nat.le_of_ble_eq_true rfl) ?_
  refine w_if_ne (t := 17) dX6_status_7 (by decide) (fun hz1 => ?_) (fun hz1 => ?_)
  · skip
    refine w_iload_n dX6_status_17 rfl ?_
    refine w_if_lt (t := 28) dX6_status_18 (by decide) (fun hz2 => ?_) (fun hz2 => ?_)
    · skip
      refine w_iconst dX6_status_28 ic_0 ?_
      refine w_istore_n dX6_status_29 (by decide) rfl rfl ?_
      dsimp only [List.set]
      refine w_iconst dX6_status_30 ic_0 ?_
      refine w_istore_n dX6_status_31 (by decide) rfl rfl ?_
      dsimp only [List.set]
      have lp : ∀ (m : Nat) (i : Nat), 7 - i < m → i ≤ 7 → WP G mX6_status 32 [some (.ref 0), some (.int which), some (.int (s_sum (σ.1 7) i)), some (.int (nI i))] [] (σ) (CQ σ (M_status μ which)) := by
        intro m
        induction m with
        | zero => intro i hmz; exact absurd hmz (Nat.not_lt_zero _)
        | succ m ih =>
          intro i hmz hi
          refine w_iload_n dX6_status_32 rfl ?_
          refine w_bipush dX6_status_33 bp_7 ?_
          refine w2_icmp_ge (t := 53) dX6_status_35 (by decide) (fun hz3 => ?_) (fun hz3 => ?_)
          · skip
            have hge := nlt_nI (n := 7) (by omega) (by decide) hz3
            have hen : i = 7 := by omega
            subst hen
            refine w_iload_n dX6_status_53 rfl ?_
            refine w_eqi (show _ = s_sum μ.2.1 7 from s_sum_cg hC.fd) ?_
            refine w_iret dX6_status_54 rfl ?_
            first
            | exact CQ.fnd hC Mo.rfl (by decide) (by simp only [M_status, hnR, if_true, if_false, eq_false hz1, eq_true hz2])
            | exact CQ.same hC Mo.rfl (by simp only [M_status, hnR, if_true, if_false, eq_false hz1, eq_true hz2])
          · skip
            have hlt := lt_nI (n := 7) (by omega) (by decide) hz3
            refine w_iload_n dX6_status_38 rfl ?_
            refine w_aload_n dX6_status_39 rfl ?_
            refine w_getR (t := 7) dX6_status_40 fl_X6_40 rfl (by decide) (by decide) rfl ?_
            refine w_iload_n dX6_status_43 rfl ?_
            refine w_iald (j := i) dX6_status_44 rfl (by decide) rfl (show i < 7 by omega) ?_
            refine w_iadd dX6_status_45 ?_
            refine w_istore_n dX6_status_46 (by decide) rfl rfl ?_
            dsimp only [List.set]
            refine w_iincN (a := i) (b := 1) dX6_status_47 rfl ic_1 (by decide) rfl rfl ?_
            dsimp only [List.set]
            refine w_goto (t := 32) dX6_status_50 (by decide) ?_
            exact ih (i + 1) (by omega) (by omega)
      exact lp 8 0 (by omega) (by omega)
    · skip
      obtain ⟨w, hw, rfl⟩ := stat_of hz1 hz2
      have hcw : (nI w).toNatClampNeg = w := nI_clamp (by omega)
      · skip
        refine w_aload_n dX6_status_21 rfl ?_
        refine w_getR (t := 7) dX6_status_22 fl_X6_40 rfl (by decide) (by decide) rfl ?_
        refine w_iload_n dX6_status_25 rfl ?_
        refine w_iald (j := w) dX6_status_26 rfl (by decide) rfl (show w < 7 by omega) ?_
        refine w_eqi (show _ = μ.2.1 w from hC.fd w hw) ?_
        refine w_iret dX6_status_27 rfl ?_
        first
        | exact CQ.fnd hC Mo.rfl (by decide) (by simp only [M_status, hnR, if_true, if_false, eq_false hz1, eq_false hz2, hcw])
        | exact CQ.same hC Mo.rfl (by simp only [M_status, hnR, if_true, if_false, eq_false hz1, eq_false hz2, hcw])
  · skip
    refine w_aload_n dX6_status_10 rfl ?_
    refine w_ldc dX6_status_11 kc_X6_50 ?_
    refine w_callVi dX6_status_13 ml_X6_51 mv_X6_tell rfl rfl (by decide) rfl (c_tell G _ _ 0 (by decide) (by decide)) rfl rfl (Nat.le_of_ble_eq_true rfl) ?_
    refine w_iret dX6_status_16 rfl ?_
    first
    | exact CQ.fnd hC Mo.rfl (by decide) (by simp only [M_status, hnR, if_true, if_false, eq_true hz1])
    | exact CQ.same hC Mo.rfl (by simp only [M_status, hnR, if_true, if_false, eq_true hz1])
theorem wipe_end {σ : Sg} {μ : MO} {n : Nat} (hC : RC σ μ n) : CQ σ (M_wipe μ) (some (.int (mTm μ))) (wI σ 5 1 0) := by
  have hK : Ky σ (wI σ 5 1 0) := Ky.w (by omega)
  refine ⟨rfl, ⟨n, hC.mk' hK rfl (fun j hj => ?_) ?_ ⟨0, by decide, rfl, wI_s _ _ _ _, fun j hj => absurd hj (Nat.not_lt_zero j)⟩ ?_⟩, Mo.w (by decide)⟩
  · rw [wI_c (by decide)]; exact hC.fd j hj
  · exact hC.kp.ky hK hC.p3 (wI_c (by decide)) rfl rfl
  · exact hC.sh.eq (fun s j hs => wI_c (by omega)) (fun _ _ _ => rfl) rfl rfl rfl
set_option maxRecDepth 100000 in
set_option maxHeartbeats 800000 in
theorem k_wipe (G : GT) (σ : Sg) (μ : MO) (n : Nat) (hC : RC σ μ n) : Ev G mX6_wipe [.ref 0] σ (CQ σ (M_wipe μ )) := by
  have h8 := hC.rv.le
  have hn := hC.rv.n
  have hnR := hC.nn
  have hr1 : ∀ j, j < 8 → kd (σ.2.2 12 j) = 3 := hC.p1.kd pp1
  refine Ev.ofL (m := 1) (L := [some (.ref 0), none]) rfl (Nat.le_of_ble_eq_true rfl) rfl rfl ?_
  refine w_aload_n dX6_wipe_0 rfl ?_
  refine w_getR (t := 4) dX6_wipe_1 fl_X6_29 rfl (by decide) (by decide) rfl ?_
  refine w_getR (t := 5) dX6_wipe_4 fl_X6_209 rfl (by decide) (by decide) rfl ?_
  refine w_getI dX6_wipe_7 fl_X6_213 rfl rfl ?_
  obtain ⟨t, t1, t2, t3, t4⟩ := hC.tp
  refine w_eqi (t3.trans t2.symm) ?_
  refine w_istore_n dX6_wipe_10 (by decide) rfl rfl ?_
  dsimp only [List.set]
  refine w_aload_n dX6_wipe_11 rfl ?_
  refine w_getR (t := 4) dX6_wipe_12 fl_X6_29 rfl (by decide) (by decide) rfl ?_
  refine w_getR (t := 5) dX6_wipe_15 fl_X6_209 rfl (by decide) (by decide) rfl ?_
  refine w_iconst dX6_wipe_18 ic_0 ?_
  refine w_putI dX6_wipe_19 fl_X6_213 rfl rfl (by decide +kernel) ?_
  refine w_iload_n dX6_wipe_22 rfl ?_
  refine w_iret dX6_wipe_23 rfl ?_
  exact wipe_end hC
theorem sh255 (b : Int32) : ∀ d, d < 4 → ((b.toUInt32 >>> ((nI (8 * d)).toUInt32 &&& Int32.toUInt32 31)).toInt32 &&& 255) = ((b >>> (nI (8 * d) &&& 31)) &&& 255) := by
  have key : ∀ k, k = 0 ∨ k = 8 ∨ k = 16 ∨ k = 24 → (((nI k).toUInt32 &&& Int32.toUInt32 31).toBitVec % 32).toNat = k → ((nI k &&& 31).toBitVec.smod 32).toNat = k → ((b.toUInt32 >>> ((nI k).toUInt32 &&& Int32.toUInt32 31)).toInt32 &&& 255) = ((b >>> (nI k &&& 31)) &&& 255) := by
    intro k hk h1 h2
    rw [pk_and _ 8 (by decide), pk_and _ 8 (by decide), pk_ushr _ _ k h1]
    have e := pk_shr b (nI k &&& 31) k h2
    generalize b >>> (nI k &&& 31) = y at e
    congr 1
    have e1 : y.toInt = if 2 * y.toBitVec.toNat < 2 ^ 32 then (y.toBitVec.toNat : Int) else (y.toBitVec.toNat : Int) - ((2 ^ 32 : Nat) : Int) := BitVec.toInt_eq_toNat_cond y.toBitVec
    have e2 : b.toInt = if 2 * b.toBitVec.toNat < 2 ^ 32 then (b.toBitVec.toNat : Int) else (b.toBitVec.toNat : Int) - ((2 ^ 32 : Nat) : Int) := BitVec.toInt_eq_toNat_cond b.toBitVec
    have l1 : y.toBitVec.toNat < 2 ^ 32 := y.toBitVec.isLt
    have l2 : b.toBitVec.toNat < 2 ^ 32 := b.toBitVec.isLt
    rw [Int.shiftRight_eq_div_pow] at e
    rcases hk with rfl | rfl | rfl | rfl <;> (split at e1 <;> split at e2 <;> omega)
  intro d hd
  match d, hd with
  | 0, _ => exact key 0 (by decide) (by decide) (by decide)
  | 1, _ => exact key 8 (by decide) (by decide) (by decide)
  | 2, _ => exact key 16 (by decide) (by decide) (by decide)
  | 3, _ => exact key 24 (by decide) (by decide) (by decide)
theorem b255 (x : Int32) : iB (x &&& 255) 0 255 := by
  rw [pk_and _ 8 (by decide)]
  have := Nat.mod_lt x.toBitVec.toNat (show 0 < 2 ^ 8 by decide)
  exact iB.of (b := 255) (by omega) (by decide)
theorem fed_cg {g h : Nat → Int32} {t q : Nat} {b : Int32} (e : ∀ j, j < t → g j = h j ∧ iB (h j) 0 255) : ∀ i j, j < t + i → p_fed g t q b i j = p_fed h t q b i j ∧ iB (p_fed h t q b i j) 0 255
  | 0, j, hj => e j (by omega)
  | i + 1, j, hj => by
    rw [p_fed_s, p_fed_s]
    by_cases z : j = t + i
    · subst z
      rw [updS, updS]
      exact ⟨rfl, b255 _⟩
    · rw [updN z, updN z]
      exact fed_cg e i j (by omega)
/-- i bytes are fed -/
def FdI (σ τ : Sg) (t q : Nat) (b : Int32) (i : Nat) : Prop := τ.1 8 = p_fed (σ.1 8) t q b i ∧ τ.1 5 1 = nI (t + i) ∧ (∀ c j, c ≠ 8 → c ≠ 5 → τ.1 c j = σ.1 c j) ∧ τ.2 = σ.2
theorem FdI.step {σ τ : Sg} {t q i : Nat} {b : Int32} (h : FdI σ τ t q b i) {v : Int32} (hv : v = (b >>> (nI (8 * (q - 1 - i)) &&& 31)) &&& 255) : FdI σ (setC (setC τ 8 (upd (τ.1 8) (t + i) v)) 5 (upd (τ.1 5) 1 (nI (t + i + 1)))) t q b (i + 1) := by
  obtain ⟨h1, h2, h3, h4⟩ := h
  refine ⟨?_, ?_, fun c j c8 c5 => ?_, h4⟩
  · rw [setC_ne (by decide), setC_at, h1, hv, p_fed_s]
  · rw [setC_at, updS, Nat.add_assoc]
  · rw [setC_ne c5, setC_ne c8]; exact h3 c j c8 c5
theorem feed_end {σ τ : Sg} {μ : MO} {n t q : Nat} {b : Int32} (hC : RC σ μ n) (hF : FdI σ τ t q b q) (e2 : mTm μ = nI t) (e4 : ∀ j, j < t → σ.1 8 j = mTap μ j ∧ iB (mTap μ j) 0 255) (hq4 : q ≤ 4) (hb : t + q ≤ 120) (h1 : ¬ p_in (nI q) 1 4 = 0) : CQ σ (M_feed μ b (nI q)) (some (.int (nI (t + q)))) τ := by
  obtain ⟨g1, g2, g3, g4⟩ := hF
  have hK : Ky σ τ := ⟨fun c j hc => g3 c j (by omega) (by omega), by rw [g4]⟩
  have hR : M_feed μ b (nI q) = (nI (t + q), sTap (sTm μ (nI (t + q))) (p_fed (mTap μ) t q b q)) := by
    unfold M_feed
    have e2' : μ.2.2.2.2.1 = nI t := e2
    rw [if_neg h1, e2', nI_add, if_neg (show ¬ 120 < nI (t + q) from fun z => absurd (lt_nI (r := 120) (n := t + q) (by decide) (by omega) z) (by omega)), nI_clamp (by omega), nI_clamp (by omega)]
    rfl
  rw [hR]
  refine ⟨rfl, ⟨n, hC.mk' hK rfl (fun j hj => ?_) ?_ ⟨t + q, hb, rfl, g2, fun j hj => ?_⟩ ?_⟩, ⟨fun c j hc => g3 c j (by omega) (by omega), fun c j _ => by rw [g4]⟩⟩
  · rw [g3 7 j (by decide) (by decide)]; exact hC.fd j hj
  · exact hC.kp.ky hK hC.p3 (g3 _ _ (by decide) (by decide)) rfl rfl
  · rw [g1]; exact fed_cg e4 q j hj
  · exact hC.sh.eq (fun s j hs => g3 _ _ (by omega) (by omega)) (fun s j hs => by rw [g4]) rfl rfl rfl
set_option maxRecDepth 100000 in
set_option maxHeartbeats 800000 in
theorem k_feed (G : GT) (σ : Sg) (μ : MO) (n : Nat) (hC : RC σ μ n) (b qx : Int32) : Ev G mX6_feed [.ref 0, .int b, .int qx] σ (CQ σ (M_feed μ b qx)) := by
  have h8 := hC.rv.le
  have hn := hC.rv.n
  have hnR := hC.nn
  have hr1 : ∀ j, j < 8 → kd (σ.2.2 12 j) = 3 := hC.p1.kd pp1
  obtain ⟨t, t1, t2, t3, t4⟩ := hC.tp
  refine Ev.ofL (m := 1) (L := [some (.ref 0), some (.int b), some (.int qx), none]) rfl (Nat.le_of_ble_eq_true rfl) rfl rfl ?_
  refine w_iload_n dX6_feed_0 rfl ?_
  refine w_iconst dX6_feed_1 ic_1 ?_
  refine w_iconst dX6_feed_2 ic_4 ?_
  refine w_callSi dX6_feed_3 ml_X6_66 ms_X6_isWithin rfl (c_isWithin G _ _ _ _) rfl rfl (Nat.le_of_ble_eq_true rfl) ?_
  refine w_if_ne (t := 16) dX6_feed_6 (by decide) (fun hz1 => ?_) (fun hz1 => ?_)
  · skip
    refine w_aload_n dX6_feed_16 rfl ?_
    refine w_getR (t := 4) dX6_feed_17 fl_X6_29 rfl (by decide) (by decide) rfl ?_
    refine w_getR (t := 5) dX6_feed_20 fl_X6_209 rfl (by decide) (by decide) rfl ?_
    refine w_getI dX6_feed_23 fl_X6_213 rfl rfl ?_
    refine w_eqi (t3.trans (show nI t = μ.2.2.2.2.1 from t2.symm)) ?_
    refine w_iload_n dX6_feed_26 rfl ?_
    refine w_iadd dX6_feed_27 ?_
    refine w_bipush dX6_feed_28 bp_120 ?_
    refine w2_icmp_le (t := 40) dX6_feed_30 (by decide) (fun hz2 => ?_) (fun hz2 => ?_)
    · skip
      obtain ⟨q, hq4, rfl⟩ := in_0 (m := 4) (in_low hz1 (by decide)) rfl (by decide)
      · skip
        refine w_iload_n dX6_feed_40 rfl ?_
        have hb : t + q ≤ 120 := by
          have z := hz2
          rw [show μ.2.2.2.2.1 = nI t from t2, nI_add] at z
          exact nlt_nI (r := 120) (by decide) (by omega) z
        refine w_iconst dX6_feed_41 ic_1 ?_
        refine w_isub dX6_feed_42 ?_
        refine w_istore_n dX6_feed_43 (by decide) rfl rfl ?_
        dsimp only [List.set]
        have lp : ∀ (m : Nat) (r : Nat) (τ : Sg), r < m → r ≤ q → FdI σ τ t q b (q - r) → WP G mX6_feed 44 [some (.ref 0), some (.int b), some (.int (nI q)), some (.int (nI r - 1))] [] (τ) (CQ σ (M_feed μ b (nI q))) := by
          intro m
          induction m with
          | zero => intro r τ hmz; exact absurd hmz (Nat.not_lt_zero _)
          | succ m ih =>
            intro r τ hmz hr hF
            
            refine w_iload_n dX6_feed_44 rfl ?_
            rcases r with _ | r
            · skip
              refine w_if_lt (t := 74) dX6_feed_45 (by decide) (fun hz3 => ?_) (fun hz3 => absurd (by decide) hz3)
              refine w_aload_n dX6_feed_74 rfl ?_
              refine w_getR (t := 4) dX6_feed_75 fl_X6_29 rfl (by decide) (by decide) rfl ?_
              refine w_getR (t := 5) dX6_feed_78 fl_X6_209 rfl (by decide) (by decide) rfl ?_
              refine w_getI dX6_feed_81 fl_X6_213 rfl rfl ?_
              refine w_eqi hF.2.1 ?_
              refine w_iret dX6_feed_84 rfl ?_
              exact feed_end hC hF t2 t4 hq4 hb hz1
            · skip
              refine w_L (L' := [some (.ref 0), some (.int b), some (.int (nI q)), some (.int (nI r))]) (by rw [nI_pred]) ?_
              refine w_eqi (nI_pred r) ?_
              refine w_if_lt (t := 74) dX6_feed_45 (by decide) (fun hz4 => absurd hz4 (nI_pos (by omega))) (fun hz4 => ?_)
              refine w_aload_n dX6_feed_48 rfl ?_
              refine w_getR (t := 4) dX6_feed_49 fl_X6_29 rfl (by decide) (by decide) rfl ?_
              refine w_getR (t := 5) dX6_feed_52 fl_X6_209 rfl (by decide) (by decide) rfl ?_
              refine w_iload_n dX6_feed_55 rfl ?_
              refine w_bipush dX6_feed_56 bp_8 ?_
              refine w_iload_n dX6_feed_58 rfl ?_
              refine w_imulN (a := 8) (b := r) dX6_feed_59 ?_
              refine w_iushr dX6_feed_60 ?_
              refine w_sipush dX6_feed_61 sp_255 ?_
              refine w_iand dX6_feed_64 ?_
              refine w_callVv dX6_feed_65 ml_X6_218 mv_X5_add rfl rfl (by decide) rfl (c5_add G _ _ (t + (q - (r + 1))) hF.2.1 (by omega)) rfl rfl (Nat.le_of_ble_eq_true rfl) ?_
              refine w_iinc dX6_feed_68 rfl rfl (by decide) rfl rfl ?_
              dsimp only [List.set]
              refine w_goto (t := 44) dX6_feed_71 (by decide) ?_
              refine w_L (L' := [some (.ref 0), some (.int b), some (.int (nI q)), some (.int (nI r - 1))]) (by rw [Int32.sub_eq_add_neg]; rfl) ?_
              have q0 := hF.step (show _ = _ from (sh255 b r (by omega)).trans (by rw [show q - 1 - (q - (r + 1)) = r by omega]))
              rw [show q - (r + 1) + 1 = q - r by omega] at q0
              exact ih r _ (by omega) (by omega) q0
        refine lp (q + 1) q σ (by omega) (by omega) ?_
        rw [Nat.sub_self]
        exact ⟨rfl, t3, fun _ _ _ _ => rfl, rfl⟩
    · skip
      refine w_aload_n dX6_feed_33 rfl ?_
      refine w_ldc dX6_feed_34 kc_X6_81 ?_
      refine w_callVi dX6_feed_36 ml_X6_51 mv_X6_tell rfl rfl (by decide) rfl (c_tell G _ _ 1 (by decide) (by decide)) rfl rfl (Nat.le_of_ble_eq_true rfl) ?_
      refine w_iret dX6_feed_39 rfl ?_
      first
      | exact CQ.fnd hC Mo.rfl (by decide) (by simp only [M_feed, hnR, if_true, if_false, eq_false hz1, eq_true hz2])
      | exact CQ.same hC Mo.rfl (by simp only [M_feed, hnR, if_true, if_false, eq_false hz1, eq_true hz2])
  · skip
    refine w_aload_n dX6_feed_9 rfl ?_
    refine w_ldc dX6_feed_10 kc_X6_50 ?_
    refine w_callVi dX6_feed_12 ml_X6_51 mv_X6_tell rfl rfl (by decide) rfl (c_tell G _ _ 0 (by decide) (by decide)) rfl rfl (Nat.le_of_ble_eq_true rfl) ?_
    refine w_iret dX6_feed_15 rfl ?_
    first
    | exact CQ.fnd hC Mo.rfl (by decide) (by simp only [M_feed, hnR, if_true, if_false, eq_true hz1])
    | exact CQ.same hC Mo.rfl (by simp only [M_feed, hnR, if_true, if_false, eq_true hz1])
