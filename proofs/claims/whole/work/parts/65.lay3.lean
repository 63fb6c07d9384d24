/-! a text as a whole -/
def loA (g : Nat → Int32) (t : Nat) (f : Nat → Int32) : Nat × PS := t_loop g t (t + 1) (f, 1, 0) 0
def loV (g : Nat → Int32) (t : Nat) (A : Nat × PS) : Int32 := if t_ok g t A.2 = 0 then -1 - nI (tkB g t A.2.2.2) else nI A.1
def LO (σ : Sg) (g : Nat → Int32) (t : Nat) (f : Nat → Int32) (A : Nat × PS) : Option Value → Sg → Prop := fun v τ => v = some (.int (loV g t A)) ∧ TxF σ τ ∧ Pm τ 2 ∧ (¬ t_ok g t A.2 = 0 → ∃ m, RV A.2.1 m ∧ Rp τ 2 A.2.1 m ∧ A.2.1 5 = f 5) ∧ (t_ok g t A.2 = 0 → loV g t A < 0)
theorem neg_lt {k : Nat} (h : k ≤ 120) : -1 - nI k < 0 := by
  have h0 : ∀ k, k < 121 → (-1 - nI k : Int32) < 0 := by decide
  exact h0 k (by omega)
theorem LO.bad {σ τ : Sg} {g f : Nat → Int32} {t : Nat} {A : Nat × PS} {v : Int32} (h : t_ok g t A.2 = 0) (hv : v = nI (tkB g t A.2.2.2)) (h1 : TxF σ τ) (h2 : Pm τ 2) (hp : A.2.2.2 ≤ t) (h120 : t ≤ 120) : LO σ g t f A (some (.int (-1 - v))) τ := by
  refine ⟨?_, h1, h2, fun z => absurd h z, fun _ => ?_⟩
  · unfold loV
    rw [if_pos h, hv]
  · unfold loV
    rw [if_pos h]
    exact neg_lt (by have := (tkB_le (g := g) hp).2; omega)
theorem adv_one {g : Nat → Int32} {t : Nat} (y : PS) (h : y.2.1 = 1) : t_adv g t y = (y.1, 1, tkE g t y.2.2) := by
  obtain ⟨a, b, c⟩ := y
  have h2 : b = 1 := h
  rw [h2]
  rfl
theorem tkS_end {g : Nat → Int32} {t p : Nat} (h : t ≤ p) : tkS g t p = 0 := by
  have h1 := tkB_ge g t p
  unfold tkS
  rw [bt_ge (by omega), if_pos (by decide)]
theorem is_end {g : Nat → Int32} {t p : Nat} (h : tkS g t p = 0) (w : Int64) : t_is g t p w = 0 := by
  unfold t_is
  rw [if_neg (by rw [h]; decide)]
theorem item_end {g f : Nat → Int32} {t p n : Nat} (h : tkS g t p = 0) (hn : f 8 = nI n) (h8 : n ≤ 8) : t_item g t (f, 1, p) = (f, 0, p) := by
  have hk : t_kind g t p < 0 := by
    unfold t_kind
    rw [if_pos (is_end h _), if_pos (is_end h _), if_pos (is_end h _), if_pos (is_end h _), if_pos (is_end h _), if_pos (is_end h _)]
    decide
  rw [item_eq p hn h8, if_pos hk, if_pos (is_end h _), if_pos (is_end h _), if_pos (is_end h _)]
theorem more_bad {g : Nat → Int32} {t : Nat} {y : PS} (h : y.2.1 = 0) : t_more g t y = 0 ∧ t_ok g t y = 0 := ⟨if_pos h, if_pos h⟩
theorem more_end {g : Nat → Int32} {t : Nat} {y : PS} (h : ¬ y.2.1 = 0) (hs : tkS g t y.2.2 = 0) : t_more g t y = 0 ∧ t_ok g t y = 1 := by
  unfold t_more t_ok
  rw [if_neg h, if_neg h, if_neg (show ¬ tkS g t y.2.2 = 3 by omega), if_pos hs]
  exact ⟨rfl, rfl⟩
theorem more_no {g : Nat → Int32} {t : Nat} {y : PS} (h : ¬ y.2.1 = 0) (hs : ¬ tkS g t y.2.2 = 0) (h3 : ¬ (tkS g t y.2.2 = 3 ∧ tkV g t y.2.2 = 59)) : t_more g t y = 0 ∧ t_ok g t y = 0 := by
  unfold t_more t_ok
  rw [if_neg h, if_neg h, if_neg hs]
  refine ⟨?_, rfl⟩
  by_cases c : tkS g t y.2.2 = 3
  · rw [if_pos c, if_neg (fun z => h3 ⟨c, z⟩)]
  · rw [if_neg c]
theorem more_yes {g : Nat → Int32} {t : Nat} {y : PS} (h : ¬ y.2.1 = 0) (h3 : tkS g t y.2.2 = 3 ∧ tkV g t y.2.2 = 59) : ¬ t_more g t y = 0 := by
  unfold t_more
  rw [if_neg h, if_pos h3.1, if_pos h3.2]
  decide
set_option maxRecDepth 100000 in
set_option maxHeartbeats 800000 in
theorem k_layOut (G : GT) (σ : Sg) (g : Nat → Int32) (t : Nat) (hT : TS σ g t) (hm : Pm σ 2) (f : Nat → Int32) (n : Nat) (hR : Rp σ 2 f n) (hv : RV f n) : Ev G mX2_layOut [.ref 4, .ref 2] σ (LO σ g t f (loA g t f)) := by
  have h8 := hv.le
  have ht1 := hT.1
  have hg : ∀ j, j < t → iB (g j) 0 255 := fun j hj => (hT.2.2 j hj).2
  refine Ev.ofL (m := 1) (L := [some (.ref 4), some (.ref 2), none]) rfl (Nat.le_of_ble_eq_true rfl) rfl rfl ?_
  refine w_aload_n dX2_layOut_0 rfl ?_
  refine w_iconst dX2_layOut_1 ic_0 ?_
  refine w_putI dX2_layOut_2 fl_X2_25 rfl rfl (by decide +kernel) ?_
  refine w_aload_n dX2_layOut_5 rfl ?_
  refine w_callVqv dX2_layOut_6 ml_X2_31 mv_X2_goToToken rfl rfl (by decide) rfl (k_goTo G _ g t 0 (hT.tc Tc.w) (Nat.zero_le _) (wI_s _ _ _ _)) rfl rfl (Nat.le_of_ble_eq_true rfl) (fun τ1 h1 => ?_)
  have hX1 : XS σ τ1 g t 0 := ⟨TxF.tc (Tc.w.trans h1.1), hm.eq (fun j => by rw [(Tc.w.trans h1.1).2]), h1.2, Nat.zero_le _⟩
  have hR1 : Rp τ1 2 f n := hR.tc hm h8 (Tc.w.trans h1.1)
  refine w_iconst dX2_layOut_9 ic_1 ?_
  refine w_istore_n dX2_layOut_10 (by decide) rfl rfl ?_
  dsimp only [List.set]
  have lp : ∀ (m : Nat) (cx p mf nr : Nat) (τ : Sg) (fr : Nat → Int32), t + 1 - p < m → cx ≤ p → t + 1 ≤ p + mf → XS σ τ g t p → Rp τ 2 fr nr → RV fr nr → t_loop g t mf (fr, 1, p) cx = loA g t f → fr 5 = f 5 → WP G mX2_layOut 11 [some (.ref 4), some (.ref 2), some (.int (nI (cx + 1)))] [] (τ) (LO σ g t f (loA g t f)) := by
    intro m
    induction m with
    | zero => intro cx p mf nr τ fr hmz; exact absurd hmz (Nat.not_lt_zero _)
    | succ m ih =>
      intro cx p mf nr τ fr hmz hcx hmf hX hRr hvr hA hf5
      refine w_iload_n dX2_layOut_11 rfl ?_
      refine w_bipush dX2_layOut_12 bp_120 ?_
      refine w_icmp_gt (t := 66) dX2_layOut_14 (by decide) (fun hz1 => ?_) (fun hz1 => ?_)
      · skip
        obtain ⟨mf, rfl⟩ : ∃ k, mf = k + 1 := ⟨mf - 1, by have := hX.2.2.2; omega⟩
        refine w_iconst dX2_layOut_66 ic_m1 ?_
        refine w_aload_n dX2_layOut_67 rfl ?_
        refine w_getI dX2_layOut_68 fl_X2_22 rfl rfl ?_
        refine w_isub dX2_layOut_71 ?_
        refine w_iret dX2_layOut_72 rfl ?_
        have hgt := lt_nI (r := 120) (n := cx + 1) (by decide) (by have := hX.2.2.2; omega) hz1
        have hpt : t ≤ p := by have := hX.2.2.2; have := hT.1; omega
        have hS0 := tkS_end (g := g) hpt
        have hAe : loA g t f = (cx + 1, fr, 0, p) := by
          rw [← hA, t_loop_s, item_end hS0 hvr.n hvr.le, if_pos (more_bad rfl).1]
        rw [hAe]
        exact LO.bad (more_bad rfl).2 hX.2.2.1.2.1 hX.1 hX.2.1 hX.2.2.2 ht1
      · skip
        refine w_aload_n dX2_layOut_17 rfl ?_
        refine w_aload_n dX2_layOut_18 rfl ?_
        refine w_callVqi dX2_layOut_19 ml_X2_34 mv_X2_layItem rfl rfl (by decide) rfl (k_layItem G _ σ g t p hT hX fr nr hRr hvr) rfl rfl (Nat.le_of_ble_eq_true rfl) (fun τ2 hq => ?_)
        have hyx := hq.1
        have hyr := hq.2
        obtain ⟨mf, rfl⟩ : ∃ k, mf = k + 1 := ⟨mf - 1, by have := hX.2.2.2; omega⟩
        have hAs := t_loop_s g t mf (fr, 1, p) cx
        have hy01 := item_01 (g := g) (t := t) p hvr.n hvr.le
        have hge : p ≤ (t_item g t (fr, 1, p)).2.2 := t_item_ps g t (fr, 1, p)
        obtain ⟨y, ey⟩ : ∃ y, y = t_item g t (fr, 1, p) := ⟨_, rfl⟩
        rw [← ey] at hyx hyr hAs hy01 hge ⊢
        refine w_if_ne (t := 32) dX2_layOut_22 (by decide) (fun hz2 => ?_) (fun hz2 => ?_)
        · skip
          have hy0 := hz2
          refine w_aload_n dX2_layOut_32 rfl ?_
          refine w_getI dX2_layOut_33 fl_X2_18 rfl rfl ?_
          refine w_eqi hyx.2.2.1.1 ?_
          refine w_if_ne (t := 41) dX2_layOut_36 (by decide) (fun hz3 => ?_) (fun hz3 => ?_)
          · skip
            refine w_aload_n dX2_layOut_41 rfl ?_
            refine w_getI dX2_layOut_42 fl_X2_18 rfl rfl ?_
            refine w_eqi hyx.2.2.1.1 ?_
            refine w_iconst dX2_layOut_45 ic_3 ?_
            refine w_icmp_eq (t := 56) dX2_layOut_46 (by decide) (fun hz4 => ?_) (fun hz4 => ?_)
            · skip
              have h3 := (ck_tk hg).2.2.2.mp hz4
              refine w_aload_n dX2_layOut_56 rfl ?_
              refine w_callVqv dX2_layOut_57 ml_X2_31 mv_X2_goToToken rfl rfl (by decide) rfl (k_goTo G _ g t (tkE g t y.2.2) (hT.tx hyx.1) (tkE_le hyx.2.2.2) hyx.2.2.1.2.2.1) rfl rfl (Nat.le_of_ble_eq_true rfl) (fun τ4 h4 => ?_)
              refine w_iincN (a := cx + 1) (b := 1) dX2_layOut_60 rfl ic_1 (by decide) rfl rfl ?_
              dsimp only [List.set]
              refine w_goto (t := 11) dX2_layOut_63 (by decide) ?_
              have q1 := z_not hy0 hy01.1
              obtain ⟨nm, hvm, hRm⟩ := hyr hy0
              have hme : ¬ t_more g t y = 0 := more_yes hy0 h3
              have hadv : y.2.2 < tkE g t y.2.2 := t_more_lt hme
              have hpt0 := hX.2.2.2
              have hXm : XS σ τ4 g t (tkE g t y.2.2) := hyx.tc h4.1 h4.2 (tkE_le hyx.2.2.2)
              refine ih (cx + 1) (tkE g t y.2.2) mf nm τ4 y.1 (by omega) (by omega) (by omega) hXm (hRm.tc hyx.2.1 hvm.le h4.1) hvm ?_ (hy01.2.trans hf5)
              rw [← hA, hAs, if_neg hme, adv_one y q1]
            · skip
              refine w_iconst dX2_layOut_49 ic_m1 ?_
              refine w_aload_n dX2_layOut_50 rfl ?_
              refine w_getI dX2_layOut_51 fl_X2_22 rfl rfl ?_
              refine w_isub dX2_layOut_54 ?_
              refine w_iret dX2_layOut_55 rfl ?_
              have hmo := more_no (g := g) (t := t) hz2 (fun z => hz3 ((ck_tk hg).1.mpr z)) (fun z => hz4 ((ck_tk hg).2.2.2.mpr z))
              rw [hAs, if_pos hmo.1] at hA
              rw [← hA]
              exact LO.bad hmo.2 hyx.2.2.1.2.1 hyx.1 hyx.2.1 hyx.2.2.2 ht1
          · skip
            refine w_iload_n dX2_layOut_39 rfl ?_
            refine w_iret dX2_layOut_40 rfl ?_
            have hmo := more_end (g := g) (t := t) hz2 ((ck_tk hg).1.mp hz3)
            rw [hAs, if_pos hmo.1] at hA
            rw [← hA]
            have hok : ¬ t_ok g t y = 0 := by rw [hmo.2]; decide
            obtain ⟨nm, hvm, hRm⟩ := hyr hz2
            refine ⟨?_, hyx.1, hyx.2.1, fun _ => ⟨nm, hvm, hRm, hy01.2.trans hf5⟩, fun z => absurd z hok⟩
            unfold loV
            rw [if_neg hok]
        · skip
          refine w_iconst dX2_layOut_25 ic_m1 ?_
          refine w_aload_n dX2_layOut_26 rfl ?_
          refine w_getI dX2_layOut_27 fl_X2_22 rfl rfl ?_
          refine w_isub dX2_layOut_30 ?_
          refine w_iret dX2_layOut_31 rfl ?_
          have hmo := more_bad (g := g) (t := t) hz2
          rw [hAs, if_pos hmo.1] at hA
          rw [← hA]
          exact LO.bad hmo.2 hyx.2.2.1.2.1 hyx.1 hyx.2.1 hyx.2.2.2 ht1
  exact lp (t + 2) 0 0 (t + 1) n τ1 f (by omega) (by omega) (by omega) hX1 hR1 hv rfl rfl
theorem RC.tx {σ τ : Sg} {μ : MO} {n : Nat} (h : RC σ μ n) (hF : TxF σ τ) (hm : Pm τ 2) : RC τ μ n := by
  have q1 : ∀ p, p = 1 ∨ p = 3 → Pm σ p → ∀ (f : Nat → Int32) (m : Nat), m ≤ 8 → Rp σ p f m → Rp τ p f m := fun p hp hpm f m h8 hr => by
    have e1 : ∀ j, τ.1 p j = σ.1 p j := fun j => hF.1 p j (by omega) (by omega) (by omega) (by omega) (by omega)
    refine hr.same (funext e1) (funext fun j => hF.1 _ _ (by omega) (by omega) (by omega) (by omega) (by omega)) (fun j => hF.2.2 _ _ (by omega)) (fun r hrn => funext fun j => ?_)
    have q0 := hpm.1 r (by omega)
    exact hF.1 _ _ (by omega) (by omega) (by omega) (by omega) (by omega)
  exact h.eqs h.rv (q1 1 (by decide) h.p1 _ _ h.rv.le h.rp) (fun c j hc => hF.1 c j (by omega) (by omega) (by omega) (by omega) (by omega)) (fun s j hs => by rw [hF.2.1]) ⟨h.p1.eq (fun j => hF.2.2 _ _ (by decide)), hm, h.p3.eq (fun j => hF.2.2 _ _ (by decide))⟩ (fun m h8 hr => q1 3 (by decide) h.p3 _ _ h8 hr)
theorem Mo.tx {σ τ : Sg} (h : TxF σ τ) : Mo σ τ := ⟨fun c j hc => h.1 c j (by omega) (by omega) (by omega) (by omega) (by omega), fun c j _ => by rw [h.2.1]⟩
/-- the tape is wiped -/
theorem RC.wip {σ : Sg} {μ : MO} {n : Nat} (hC : RC σ μ n) : RC (wI σ 5 1 0) (sTm μ 0) n := by
  obtain ⟨-, ⟨m, hm⟩, -⟩ := wipe_end hC
  have e : m = n := by
    have e1 := hm.rv.n
    have e2 := hC.rv.n
    have l1 := hm.rv.le
    have l2 := hC.rv.le
    exact (nI_eq (by omega) (by omega)).mp (e1.symm.trans e2)
  subst e
  exact hm
theorem sTm_sRow (μ : MO) (f : Nat → Int32) (v : Int32) : sTm (sRow μ f) v = sRow (sTm μ v) f := rfl
theorem RC.rowc {σ : Sg} {μ : MO} {n : Nat} {f : Nat → Int32} (hC : RC σ μ n) (hf : ∀ j, j < 65 → f j = μ.1 j) : RC σ (sRow μ f) n := by
  have h8 := hC.rv.le
  exact hC.real (τ := σ) ⟨hC.rp.cg (fun j hj _ => hf j (by omega)), hC.p1, Fp.rfl⟩ (hC.rv.cg (fun j hj _ _ => hf j (by omega))) (by rw [hf 5 (by decide)]; exact hC.h5)
theorem loop_lt (g : Nat → Int32) (t : Nat) : ∀ (m : Nat) (x : PS) (cx : Nat), (t_loop g t m x cx).1 ≤ cx + m
  | 0, _, _ => Nat.le_refl _
  | m + 1, x, cx => by
    rw [t_loop_s]
    split
    · show cx + 1 ≤ _
      omega
    · have := loop_lt g t m (t_adv g t (t_item g t x)) (cx + 1)
      omega
set_option maxRecDepth 100000 in
set_option maxHeartbeats 800000 in
theorem k_plain (G : GT) (σ : Sg) (μ : MO) (n : Nat) (hC : RC σ μ n) : Ev G mX6_plain [.ref 0] σ (CQ σ (M_plain μ )) := by
  have h8 := hC.rv.le
  have hn := hC.rv.n
  have hnR := hC.nn
  have hr1 : ∀ j, j < 8 → kd (σ.2.2 12 j) = 3 := hC.p1.kd pp1
  obtain ⟨t, t1, t2, t3, t4⟩ := hC.tp
  refine Ev.ofL (m := 1) (L := [some (.ref 0), none]) rfl (Nat.le_of_ble_eq_true rfl) rfl rfl ?_
  refine w_aload_n dX6_plain_0 rfl ?_
  refine w_callVqv dX6_plain_1 ml_X6_175 mv_X6_raiseGhost rfl rfl (by decide) rfl (k_raise G _ μ n hC) rfl rfl (Nat.le_of_ble_eq_true rfl) (fun τ1 h1 => ?_)
  have hTS : TS τ1 (mTap μ) t := ⟨t1, (h1.2.2.1 5 1 (by decide) (by decide) (by decide) (by decide)).trans t3, fun j hj => by rw [h1.2.2.1 8 j (by decide) (by decide) (by decide) (by decide)]; exact t4 j hj⟩
  refine w_aload_n dX6_plain_4 rfl ?_
  refine w_getR (t := 4) dX6_plain_5 fl_X6_29 rfl (by decide) (by decide) rfl ?_
  refine w_aload_n dX6_plain_8 rfl ?_
  refine w_getR (t := 2) dX6_plain_9 fl_X6_16 rfl (by decide) (by decide) rfl ?_
  refine w_callVqi dX6_plain_12 ml_X6_220 mv_X2_layOut rfl rfl (by decide) rfl (k_layOut G _ (mTap μ) t hTS h1.2.1 μ.1 n h1.1 hC.rv) rfl rfl (Nat.le_of_ble_eq_true rfl) (fun τ2 h2 => ?_)
  have hC1 := hC.gh h1.gh
  have hCx : RC τ2 μ n := hC1.tx h2.1 h2.2.1
  have hMx : Mo σ τ2 := h1.gh.mo.trans (Mo.tx h2.1)
  have hcnt : (loA (mTap μ) t μ.1).1 < 2 ^ 31 := by
    have := loop_lt (mTap μ) t (t + 1) (μ.1, 1, 0) 0
    show (t_loop (mTap μ) t (t + 1) (μ.1, 1, 0) 0).1 < _
    omega
  refine w_istore_n dX6_plain_15 (by decide) rfl rfl ?_
  dsimp only [List.set]
  refine w_iload_n dX6_plain_16 rfl ?_
  refine w_if_lt (t := 31) dX6_plain_17 (by decide) (fun hz1 => ?_) (fun hz1 => ?_)
  · skip
    refine w_aload_n dX6_plain_31 rfl ?_
    refine w_getR (t := 4) dX6_plain_32 fl_X6_29 rfl (by decide) (by decide) rfl ?_
    refine w_getR (t := 5) dX6_plain_35 fl_X6_209 rfl (by decide) (by decide) rfl ?_
    refine w_iconst dX6_plain_38 ic_0 ?_
    refine w_putI dX6_plain_39 fl_X6_213 rfl rfl (by decide +kernel) ?_
    refine w_iload_n dX6_plain_42 rfl ?_
    refine w_iret dX6_plain_43 rfl ?_
    have hall : t_all μ = (loA (mTap μ) t μ.1) := by
      unfold t_all loA
      rw [show μ.2.2.2.2.1.toNatClampNeg = t from by rw [show μ.2.2.2.2.1 = nI t from t2]; exact nI_clamp (by omega)]
      rfl
    have htc : μ.2.2.2.2.1.toNatClampNeg = t := by rw [show μ.2.2.2.2.1 = nI t from t2]; exact nI_clamp (by omega)
    have hko : t_ok (mTap μ) t (loA (mTap μ) t μ.1).2 = 0 := Classical.byContradiction fun z => by
      have y := hz1
      unfold loV at y
      rw [if_neg z] at y
      exact nI_pos hcnt y
    have hR : M_plain μ = (-1 - nI (tkB (mTap μ) t (loA (mTap μ) t μ.1).2.2.2), sRow (sTm μ 0) (fun j => if j < 65 then μ.1 j else (loA (mTap μ) t μ.1).2.1 j)) := by
      unfold M_plain
      rw [hall, htc]
      exact if_pos hko
    rw [hR]
    have hv0 : loV (mTap μ) t (loA (mTap μ) t μ.1) = -1 - nI (tkB (mTap μ) t (loA (mTap μ) t μ.1).2.2.2) := by unfold loV; rw [if_pos hko]
    refine ⟨by rw [hv0], ⟨n, (hCx.wip).rowc (fun j hj => if_pos hj)⟩, hMx.trans (Mo.w (by decide))⟩
  · skip
    have hok : ¬ t_ok (mTap μ) t (loA (mTap μ) t μ.1).2 = 0 := fun z => hz1 (h2.2.2.2 z)
    obtain ⟨mm, hvm, hRm, h5m⟩ := h2.2.2.1 hok
    refine w_aload_n dX6_plain_20 rfl ?_
    refine w_getR (t := 1) dX6_plain_21 fl_X6_10 rfl (by decide) (by decide) rfl ?_
    refine w_aload_n dX6_plain_24 rfl ?_
    refine w_getR (t := 2) dX6_plain_25 fl_X6_16 rfl (by decide) (by decide) rfl ?_
    refine w_callVqv dX6_plain_28 ml_X6_224 mv_X1_takeFrom rfl rfl (by decide) rfl (q1_takeFrom G _ 1 2 pp1 pp2 (by decide) hRm hvm.le hCx.p1 hCx.p2) rfl rfl (Nat.le_of_ble_eq_true rfl) (fun τ3 h3 => ?_)
    refine w_aload_n dX6_plain_31 rfl ?_
    refine w_getR (t := 4) dX6_plain_32 fl_X6_29 rfl (by decide) (by decide) rfl ?_
    refine w_getR (t := 5) dX6_plain_35 fl_X6_209 rfl (by decide) (by decide) rfl ?_
    refine w_iconst dX6_plain_38 ic_0 ?_
    refine w_putI dX6_plain_39 fl_X6_213 rfl rfl (by decide +kernel) ?_
    refine w_iload_n dX6_plain_42 rfl ?_
    refine w_iret dX6_plain_43 rfl ?_
    have hall : t_all μ = (loA (mTap μ) t μ.1) := by
      unfold t_all loA
      rw [show μ.2.2.2.2.1.toNatClampNeg = t from by rw [show μ.2.2.2.2.1 = nI t from t2]; exact nI_clamp (by omega)]
      rfl
    have htc : μ.2.2.2.2.1.toNatClampNeg = t := by rw [show μ.2.2.2.2.1 = nI t from t2]; exact nI_clamp (by omega)
    have hR : M_plain μ = (nI (loA (mTap μ) t μ.1).1, sRow (sTm μ 0) (loA (mTap μ) t μ.1).2.1) := by
      unfold M_plain
      rw [hall, htc]
      exact if_neg hok
    rw [hR]
    have hv0 : loV (mTap μ) t (loA (mTap μ) t μ.1) = nI (loA (mTap μ) t μ.1).1 := by unfold loV; rw [if_neg hok]
    refine ⟨by rw [hv0], ⟨mm, ?_⟩, (hMx.trans (Mo.fp pp1 h3.2.2)).trans (Mo.w (by decide))⟩
    have hC3 := hCx.real h3 hvm (by rw [h5m]; exact hC.h5)
    rw [← sTm_sRow]
    exact hC3.wip
