/-! public calls of the class -/
theorem k_isRod (G : GT) (σ : Sg) (μ : MO) (n : Nat) (hC : RC σ μ n) (v : Int32) : Evi G mX6_isRod [.ref 0, .int v] σ (p_in v 0 (μ.1 8 - 1)) σ := by
  have q0 := c_isRod G σ v
  rw [show σ.1 1 2 = μ.1 8 from hC.rp.n.trans hC.rv.n.symm] at q0
  exact q0
theorem RC.rd1 {σ : Sg} {μ : MO} {n k : Nat} (h : RC σ μ n) (hk : k < n) : ∀ w, w < 7 → σ.1 (σ.2.2 12 k) w = rg μ.1 k w := h.rp.rd hk
theorem RC.cl1 {σ : Sg} {μ : MO} {n j : Nat} (h : RC σ μ n) (hj : j < 5) : σ.1 9 j = μ.1 j := h.rp.cl hj
theorem told_z {what v : Int32} (h : p_in what 0 4 = 0) : c_told what v = 0 := by
  have ne : ∀ z : Int32, p_in z 0 4 = 1 → ¬ what = z := fun z hz e => by
    rw [e, hz] at h
    exact absurd h (by decide)
  unfold c_told
  rw [if_neg (ne 0 (by decide)), if_neg (ne 1 (by decide)), if_neg (ne 2 (by decide)), if_neg (ne 3 (by decide)), if_neg (ne 4 (by decide))]
theorem told_w {w : Nat} (hw : w < 5) (v : Int32) : c_told (nI w) v = p_in v (lstF w) (mstF w) := by
  match w, hw with
  | 0, _ => rfl
  | 1, _ => rfl
  | 2, _ => rfl
  | 3, _ => rfl
  | 4, _ => rfl
theorem told_of {what v : Int32} (h : ¬ c_told what v = 0) : ∃ w, w < 5 ∧ what = nI w ∧ cB w v := by
  have h4 : ¬ p_in what 0 4 = 0 := fun z => h (told_z z)
  obtain ⟨w, hw, rfl⟩ := in_0 (m := 4) h4 rfl (by decide)
  refine ⟨w, by omega, rfl, ?_⟩
  rw [told_w (by omega)] at h
  have q0 := iB.in h
  match w, hw with
  | 0, _ => exact q0
  | 1, _ => exact q0
  | 2, _ => exact q0
  | 3, _ => exact q0
  | 4, _ => exact q0
theorem k_part0_w {w : Nat} (hw : w < 5) (g : Nat → Int32) : k_part0 g (nI w) = g w := by
  match w, hw with
  | 0, _ => rfl
  | 1, _ => rfl
  | 2, _ => rfl
  | 3, _ => rfl
  | 4, _ => rfl
theorem k_put0_w {w : Nat} (hw : w < 5) (g : Nat → Int32) (v : Int32) : k_put0 g (nI w) v = upd g w v := by
  match w, hw with
  | 0, _ => rfl
  | 1, _ => rfl
  | 2, _ => rfl
  | 3, _ => rfl
  | 4, _ => rfl
theorem k_part3_w {w : Nat} (hw : w < 7) (g : Nat → Int32) : k_part3 g (nI w) = g w := by
  match w, hw with
  | 0, _ => rfl
  | 1, _ => rfl
  | 2, _ => rfl
  | 3, _ => rfl
  | 4, _ => rfl
  | 5, _ => rfl
  | 6, _ => rfl
set_option maxRecDepth 100000 in
set_option maxHeartbeats 800000 in
theorem c0_mayBe (G : GT) (σ : Sg) (what v : Int32) : Evi G mX0_mayBe [.int what, .int v] σ (c_told what v) (σ) := by
  refine Ev.ofL (m := 0) (L := [some (.int what), some (.int v)]) rfl (Nat.le_of_ble_eq_true rfl) rfl rfl ?_
  refine w_iload_n dX0_mayBe_0 rfl ?_
  refine w_iconst dX0_mayBe_1 ic_0 ?_
  refine w_iconst dX0_mayBe_2 ic_4 ?_
  refine w_callNi (host := "BoltsByOrder") dX0_mayBe_3 (by decide +kernel) ms_X6_isWithin rfl (c_isWithin G _ _ _ _) rfl rfl (Nat.le_of_ble_eq_true rfl) ?_
  refine w_if_eq (t := 30) dX0_mayBe_6 (by decide) (fun hz1 => ?_) (fun hz1 => ?_)
  · skip
    refine w_iconst dX0_mayBe_30 ic_0 ?_
    refine w_zret dX0_mayBe_31 rfl rfl ?_
    exact ⟨by rw [told_z hz1], rfl⟩
  · skip
    obtain ⟨w, hw, rfl⟩ := in_0 (m := 4) hz1 rfl (by decide)
    have et := told_w (w := w) (by omega) v
    · skip
      refine w_iload_n dX0_mayBe_9 rfl ?_
      refine w_gets98 dX0_mayBe_10 fs_X0_31 ?_
      refine w_iload_n dX0_mayBe_13 rfl ?_
      refine w_ild98 (j := w) dX0_mayBe_14 rfl (by omega) ?_
      refine w_gets99 dX0_mayBe_15 fs_X0_35 ?_
      refine w_iload_n dX0_mayBe_18 rfl ?_
      refine w_ild99 (j := w) dX0_mayBe_19 rfl (by omega) ?_
      refine w_callNi (host := "BoltsByOrder") dX0_mayBe_20 (by decide +kernel) ms_X6_isWithin rfl (c_isWithin G _ _ _ _) rfl rfl (Nat.le_of_ble_eq_true rfl) ?_
      refine w_if_eq (t := 30) dX0_mayBe_23 (by decide) (fun hz2 => ?_) (fun hz2 => ?_)
      · skip
        refine w_iconst dX0_mayBe_30 ic_0 ?_
        refine w_zret dX0_mayBe_31 rfl rfl ?_
        rw [← et] at hz2
        exact ⟨by rw [hz2], rfl⟩
      · skip
        refine w_iconst dX0_mayBe_26 ic_1 ?_
        refine w_goto (t := 31) dX0_mayBe_27 (by decide) ?_
        refine w_zret dX0_mayBe_31 rfl rfl ?_
        rw [← et] at hz2
        exact ⟨by rw [et] at hz2 ⊢; rw [z_not hz2 (p_in_01 _ _ _)], rfl⟩
set_option maxRecDepth 100000 in
set_option maxHeartbeats 800000 in
theorem k_cloud (G : GT) (σ : Sg) (μ : MO) (n : Nat) (hC : RC σ μ n) (what v : Int32) : Ev G mX6_cloud [.ref 0, .int what, .int v] σ (CQ σ (M_cloud μ what v)) := by
  have h8 := hC.rv.le
  have hn := hC.rv.n
  have hnR := hC.nn
  have hr1 : ∀ j, j < 8 → kd (σ.2.2 12 j) = 3 := hC.p1.kd pp1
  refine Ev.ofL (m := 1) (L := [some (.ref 0), some (.int what), some (.int v), none]) rfl (Nat.le_of_ble_eq_true rfl) rfl rfl ?_
  refine w_iload_n dX6_cloud_0 rfl ?_
  refine w_iload_n dX6_cloud_1 rfl ?_
  refine w_callSi dX6_cloud_2 ml_X6_44 ms_X0_mayBe rfl (c0_mayBe G _ _ _) rfl rfl (Nat.le_of_ble_eq_true rfl) ?_
  refine w_if_ne (t := 15) dX6_cloud_5 (by decide) (fun hz1 => ?_) (fun hz1 => ?_)
  · skip
    obtain ⟨w, hw, rfl, hcb⟩ := told_of hz1
    have hcw : (nI w).toNatClampNeg = w := nI_clamp (by omega)
    · skip
      refine w_aload_n dX6_cloud_15 rfl ?_
      refine w_getR (t := 1) dX6_cloud_16 fl_X6_10 rfl (by decide) (by decide) rfl ?_
      refine w_getR (t := 9) dX6_cloud_19 fl_X6_55 rfl (by decide) (by decide) rfl ?_
      refine w_iload_n dX6_cloud_22 rfl ?_
      refine w_callVi dX6_cloud_23 ml_X6_59 mv_X0_part rfl rfl (by decide) rfl (c0_part G _ _ rfl _) rfl rfl (Nat.le_of_ble_eq_true rfl) ?_
      refine w_istore_n dX6_cloud_26 (by decide) rfl rfl ?_
      dsimp only [List.set]
      refine w_aload_n dX6_cloud_27 rfl ?_
      refine w_getR (t := 1) dX6_cloud_28 fl_X6_10 rfl (by decide) (by decide) rfl ?_
      refine w_getR (t := 9) dX6_cloud_31 fl_X6_55 rfl (by decide) (by decide) rfl ?_
      refine w_iload_n dX6_cloud_34 rfl ?_
      refine w_iload_n dX6_cloud_35 rfl ?_
      refine w_callVv dX6_cloud_36 ml_X6_62 mv_X0_setPart rfl rfl (by decide) rfl (c0_setPart G _ _ rfl _ _) rfl rfl (Nat.le_of_ble_eq_true rfl) ?_
      refine w_iload_n dX6_cloud_39 rfl ?_
      refine w_iret dX6_cloud_40 rfl ?_
      rw [k_part0_w hw, hC.cl1 hw, k_put0_w hw, ← wI_C]
      exact CQ.row hC (Pl.cldw hC.rp pp1 hC.p1 h8 hw) (hC.rv.cldw hw hcb) (by rw [updN (by omega)]; exact hC.h5) (by simp only [M_cloud, eq_false hz1, hcw, if_false])
  · skip
    refine w_aload_n dX6_cloud_8 rfl ?_
    refine w_ldc dX6_cloud_9 kc_X6_50 ?_
    refine w_callVi dX6_cloud_11 ml_X6_51 mv_X6_tell rfl rfl (by decide) rfl (c_tell G _ _ 0 (by decide) (by decide)) rfl rfl (Nat.le_of_ble_eq_true rfl) ?_
    refine w_iret dX6_cloud_14 rfl ?_
    first
    | exact CQ.fnd hC Mo.rfl (by decide) (by simp only [M_cloud, hnR, if_true, if_false, eq_true hz1])
    | exact CQ.same hC Mo.rfl (by simp only [M_cloud, hnR, if_true, if_false, eq_true hz1])
set_option maxRecDepth 100000 in
set_option maxHeartbeats 800000 in
theorem k_cloudOf (G : GT) (σ : Sg) (μ : MO) (n : Nat) (hC : RC σ μ n) (what : Int32) : Ev G mX6_cloudOf [.ref 0, .int what] σ (CQ σ (M_cloudOf μ what)) := by
  have h8 := hC.rv.le
  have hn := hC.rv.n
  have hnR := hC.nn
  have hr1 : ∀ j, j < 8 → kd (σ.2.2 12 j) = 3 := hC.p1.kd pp1
  refine Ev.ofL (m := 0) (L := [some (.ref 0), some (.int what)]) rfl (Nat.le_of_ble_eq_true rfl) rfl rfl ?_
  refine w_iload_n dX6_cloudOf_0 rfl ?_
  refine w_iconst dX6_cloudOf_1 ic_0 ?_
  refine w_iconst dX6_cloudOf_2 ic_4 ?_
  refine w_callSi dX6_cloudOf_3 ml_X6_66 ms_X6_isWithin rfl (c_isWithin G _ _ _ _) rfl rfl (Nat.le_of_ble_eq_true rfl) ?_
  refine w_if_ne (t := 16) dX6_cloudOf_6 (by decide) (fun hz1 => ?_) (fun hz1 => ?_)
  · skip
    obtain ⟨w, hw, rfl⟩ := in_0 (m := 4) hz1 rfl (by decide)
    have hcw : (nI w).toNatClampNeg = w := nI_clamp (by omega)
    · skip
      refine w_aload_n dX6_cloudOf_16 rfl ?_
      refine w_getR (t := 1) dX6_cloudOf_17 fl_X6_10 rfl (by decide) (by decide) rfl ?_
      refine w_getR (t := 9) dX6_cloudOf_20 fl_X6_55 rfl (by decide) (by decide) rfl ?_
      refine w_iload_n dX6_cloudOf_23 rfl ?_
      refine w_callVi dX6_cloudOf_24 ml_X6_59 mv_X0_part rfl rfl (by decide) rfl (c0_part G _ _ rfl _) rfl rfl (Nat.le_of_ble_eq_true rfl) ?_
      refine w_eqi (show _ = μ.1 w from by rw [k_part0_w (by omega), hC.cl1 (by omega)]) ?_
      refine w_iret dX6_cloudOf_27 rfl ?_
      first
      | exact CQ.fnd hC Mo.rfl (by decide) (by simp only [M_cloudOf, hnR, if_true, if_false, eq_false hz1, hcw])
      | exact CQ.same hC Mo.rfl (by simp only [M_cloudOf, hnR, if_true, if_false, eq_false hz1, hcw])
  · skip
    refine w_aload_n dX6_cloudOf_9 rfl ?_
    refine w_ldc dX6_cloudOf_10 kc_X6_50 ?_
    refine w_callVi dX6_cloudOf_12 ml_X6_51 mv_X6_tell rfl rfl (by decide) rfl (c_tell G _ _ 0 (by decide) (by decide)) rfl rfl (Nat.le_of_ble_eq_true rfl) ?_
    refine w_iret dX6_cloudOf_15 rfl ?_
    first
    | exact CQ.fnd hC Mo.rfl (by decide) (by simp only [M_cloudOf, hnR, if_true, if_false, eq_true hz1])
    | exact CQ.same hC Mo.rfl (by simp only [M_cloudOf, hnR, if_true, if_false, eq_true hz1])
theorem q1_isFull (G : GT) (σ : Sg) (p : Nat) (hp : PP p) {f : Nat → Int32} {n : Nat} (h : Rp σ p f n) (h8 : n ≤ 8) (hm : Pm σ p) : Evi G mX1_isFull [.ref p] σ (if n < 8 then 0 else 1) σ := by
  obtain ⟨k1, k2, k3, k4, k5⟩ := hp.kd
  have q0 := c1_isFull G σ p k1 k2 k3 k4 (hm.kd hp)
  rw [h.n] at q0
  have e : (if nI n < 8 then (0 : Int32) else 1) = if n < 8 then 0 else 1 := by
    by_cases z : n < 8
    · rw [if_pos z, if_pos (show nI n < 8 from (nI_ltI (b := 8) (by omega) (by decide)).mpr z)]
    · rw [if_neg z, if_neg (show ¬ nI n < 8 from fun y => z ((nI_ltI (b := 8) (by omega) (by decide)).mp y))]
  rw [e] at q0
  exact q0
theorem k_new_at (f : Nat → Int32) (kx pl : Int32) : k_new f kx pl 0 = kx ∧ k_new f kx pl 1 = pl ∧ k_new f kx pl 2 = 10 ∧ k_new f kx pl 3 = 0 ∧ k_new f kx pl 4 = 0 ∧ k_new f kx pl 5 = 0 ∧ k_new f kx pl 6 = 0 := by
  unfold k_new
  refine ⟨?_, ?_, ?_, ?_, ?_, ?_, ?_⟩ <;> simp [upd]
theorem p_add_low (f : Nat → Int32) (n : Nat) (a b c d e : Int32) {j : Nat} (hj : j < 9 + 7 * n) (h8 : j ≠ 8) : p_add f n a b c d e j = f j := by
  unfold p_add
  rw [updN h8, updN (by omega), updN (by omega), updN (by omega), updN (by omega), updN (by omega), updN (by omega), updN (by omega)]
theorem p_add_rod (f : Nat → Int32) (n : Nat) (a b c d e : Int32) : rg (p_add f n a b c d e) n 0 = a ∧ rg (p_add f n a b c d e) n 1 = b ∧ rg (p_add f n a b c d e) n 2 = c ∧ rg (p_add f n a b c d e) n 3 = d ∧ rg (p_add f n a b c d e) n 4 = e ∧ rg (p_add f n a b c d e) n 5 = 0 ∧ rg (p_add f n a b c d e) n 6 = 0 := by
  unfold rg p_add
  refine ⟨?_, ?_, ?_, ?_, ?_, ?_, ?_⟩
  · rw [updN (by omega), updN (by omega), updN (by omega), updN (by omega), updN (by omega), updN (by omega), updN (by omega)]; exact updS
  · rw [updN (by omega), updN (by omega), updN (by omega), updN (by omega), updN (by omega), updN (by omega), updS]
  · rw [updN (by omega), updN (by omega), updN (by omega), updN (by omega), updN (by omega), updS]
  · rw [updN (by omega), updN (by omega), updN (by omega), updN (by omega), updS]
  · rw [updN (by omega), updN (by omega), updN (by omega), updS]
  · rw [updN (by omega), updN (by omega), updS]
  · rw [updN (by omega), updS]
theorem p_add_8 (f : Nat → Int32) (n : Nat) (a b c d e : Int32) : p_add f n a b c d e 8 = nI (n + 1) := by
  unfold p_add
  rw [updS]
theorem w7 {P : Nat → Prop} (h0 : P 0) (h1 : P 1) (h2 : P 2) (h3 : P 3) (h4 : P 4) (h5 : P 5) (h6 : P 6) : ∀ w, w < 7 → P w
  | 0, _ => h0
  | 1, _ => h1
  | 2, _ => h2
  | 3, _ => h3
  | 4, _ => h4
  | 5, _ => h5
  | 6, _ => h6
theorem RV.add {f : Nat → Int32} {n : Nat} {a b c d e : Int32} (h : RV f n) (h8 : n < 8) (ha : iB a 0 5) (hb : iB b 0 15) (hc : iB c 0 60) (hd : iB d 0 23) (he : iB e 0 23) : RV (p_add f n a b c d e) (n + 1) := by
  obtain ⟨-, a0, a1, a2, a3, a4, a6, hr⟩ := id h
  have lo : ∀ j, j < 8 → p_add f n a b c d e j = f j := fun j hj => p_add_low f n a b c d e (by omega) (by omega)
  refine ⟨⟨p_add_8 _ _ _ _ _ _ _, by omega⟩, by rw [lo 0 (by decide)]; exact a0, by rw [lo 1 (by decide)]; exact a1, by rw [lo 2 (by decide)]; exact a2, by rw [lo 3 (by decide)]; exact a3, by rw [lo 4 (by decide)]; exact a4, by rw [lo 6 (by decide)]; exact a6, fun r hr' => ?_⟩
  by_cases z : r = n
  · subst z
    obtain ⟨q0, q1, q2, q3, q4, q5, q6⟩ := p_add_rod f r a b c d e
    unfold RVg
    rw [q0, q1, q2, q3, q4, q5, q6]
    exact ⟨ha, hb, hc, hd, he, iB_0 (b := 99999) (by decide), iB_0 (b := 99999) (by decide)⟩
  · have q0 := hr r (by omega)
    have e2 : ∀ w, w < 7 → rg (p_add f n a b c d e) r w = rg f r w := fun w hw => p_add_low f n a b c d e (by omega) (by omega)
    unfold RVg at q0 ⊢
    rw [e2 0 (by decide), e2 1 (by decide), e2 2 (by decide), e2 3 (by decide), e2 4 (by decide), e2 5 (by decide), e2 6 (by decide)]
    exact q0
theorem q1_add (G : GT) (σ : Sg) (p : Nat) (hp : PP p) {f : Nat → Int32} {n : Nat} (h : Rp σ p f n) (h8 : n < 8) (hm : Pm σ p) (kx pl : Int32) : Ev G mX1_add [.ref p, .int kx, .int pl] σ (fun v τ => v = some (.ref (σ.2.2 (p + 11) n)) ∧ Pl σ τ p (p_add f n kx pl 10 0 0) (n + 1) ∧ τ.2.2 = σ.2.2) := by
  obtain ⟨k1, k2, k3, k4, k5⟩ := hp.kd
  have hp1 := hp.1
  have hp2 := hp.2
  have qn := hm.1 n h8
  refine (c1_add G σ p k1 k2 k3 k4 (hm.kd hp) n h.n h8 kx pl).mono ?_
  rintro v τ ⟨rfl, rfl⟩
  have lo : ∀ j, j < 8 → p_add f n kx pl 10 0 0 j = f j := fun j hj => p_add_low f n kx pl 10 0 0 (by omega) (by omega)
  refine ⟨rfl, ⟨⟨fun k hk => ?_, ?_, ?_, ?_, ?_, fun r hr => ?_⟩, hm.eq (fun _ => rfl), (Fp.setC (Or.inr (Or.inr (Or.inr qn)))).trans (Fp.setC (Or.inl rfl))⟩, rfl⟩
  · rw [setC_ne (by omega), setC_ne (by omega), lo k (by omega)]; exact h.cl hk
  · rw [setC_at, updS]
  · rw [setC_at, updN (by decide), lo 5 (by decide)]; exact h.hr
  · rw [setC_at, updN (by decide), lo 6 (by decide)]; exact h.st
  · rw [setC_at, updN (by decide), lo 7 (by decide)]; exact h.z
  · have qr := hm.1 r (by omega)
    show ∀ w, w < 7 → (setC (setC σ (σ.2.2 (p + 11) n) (k_new (σ.1 (σ.2.2 (p + 11) n)) kx pl)) p (upd (σ.1 p) 2 (nI (n + 1)))).1 (σ.2.2 (p + 11) r) w = _
    rw [setC_ne (by omega)]
    by_cases z : r = n
    · subst z
      rw [setC_at]
      obtain ⟨q0, q1, q2, q3, q4, q5, q6⟩ := p_add_rod f r kx pl 10 0 0
      obtain ⟨g0, g1, g2, g3, g4, g5, g6⟩ := k_new_at (σ.1 (σ.2.2 (p + 11) r)) kx pl
      exact w7 (g0.trans q0.symm) (g1.trans q1.symm) (g2.trans q2.symm) (g3.trans q3.symm) (g4.trans q4.symm) (g5.trans q5.symm) (g6.trans q6.symm)
    · rw [setC_ne (fun y => z (hm.2 r n (by omega) h8 y))]
      intro w hw
      rw [h.rd (by omega) w hw]
      exact (p_add_low f n kx pl 10 0 0 (by omega) (by omega)).symm
section CALLR
variable {G : GT} {M : MT} {pc : Nat} {L : List (Option Value)} {st : List Value} {σ σ1 : Sg} {P : Option Value → Sg → Prop} {M' : MT} {idx n c ci : Nat} {as rest : List Value} {Q : Sg → Prop}
theorem w_callVqr {x : Nat} (d : decode M.2.2.1 pc = .ok (.invokevirtual idx, 3)) (ml : Cond.methodLink M.1 idx M'.2.1 ∈ gt) (mv : MV M' n) (hR : fitR M M' = true) (hc : kd c = ci) (h8 : ci < 8) (hC : (clC ci).1 = M'.1) (ev : Ev G M' (.ref c :: as) σ (fun v σ' => v = some (.ref x) ∧ Q σ')) (hn : as.length = n) (hst : st = as.reverse ++ .ref c :: rest) (hw : (rest.map fun v => v.category).sum ≤ 8) (k : ∀ τ, Q τ → WP G M (pc + 3) L (.ref x :: rest) τ P) : WP G M pc L st σ P :=
  w_callV0 d ml mv hR (rec_obj hc h8 hC) ev hn hst hw (fun v σ' h => by obtain ⟨rfl, h⟩ := h; exact k σ' h)
end CALLR
set_option maxRecDepth 100000 in
set_option maxHeartbeats 800000 in
theorem k_rod (G : GT) (σ : Sg) (μ : MO) (n : Nat) (hC : RC σ μ n) (kind place : Int32) : Ev G mX6_rod [.ref 0, .int kind, .int place] σ (CQ σ (M_rod μ kind place)) := by
  have h8 := hC.rv.le
  have hn := hC.rv.n
  have hnR := hC.nn
  have hr1 : ∀ j, j < 8 → kd (σ.2.2 12 j) = 3 := hC.p1.kd pp1
  refine Ev.ofL (m := 0) (L := [some (.ref 0), some (.int kind), some (.int place)]) rfl (Nat.le_of_ble_eq_true rfl) rfl rfl ?_
  refine w_iload_n dX6_rod_0 rfl ?_
  refine w_callSi dX6_rod_1 ml_X6_70 ms_X6_isKind rfl (c_isKind G _ _) rfl rfl (Nat.le_of_ble_eq_true rfl) ?_
  refine w_if_eq (t := 14) dX6_rod_4 (by decide) (fun hz1 => ?_) (fun hz1 => ?_)
  · skip
    refine w_aload_n dX6_rod_14 rfl ?_
    refine w_ldc dX6_rod_15 kc_X6_50 ?_
    refine w_callVi dX6_rod_17 ml_X6_51 mv_X6_tell rfl rfl (by decide) rfl (c_tell G _ _ 0 (by decide) (by decide)) rfl rfl (Nat.le_of_ble_eq_true rfl) ?_
    refine w_iret dX6_rod_20 rfl ?_
    first
    | exact CQ.fnd hC Mo.rfl (by decide) (by simp only [M_rod, hnR, if_true, if_false, eq_true hz1])
    | exact CQ.same hC Mo.rfl (by simp only [M_rod, hnR, if_true, if_false, eq_true hz1])
  · skip
    refine w_iload_n dX6_rod_7 rfl ?_
    refine w_callSi dX6_rod_8 ml_X6_74 ms_X6_isPlace rfl (c_isPlace G _ _) rfl rfl (Nat.le_of_ble_eq_true rfl) ?_
    refine w_if_ne (t := 21) dX6_rod_11 (by decide) (fun hz2 => ?_) (fun hz2 => ?_)
    · skip
      refine w_aload_n dX6_rod_21 rfl ?_
      refine w_getR (t := 1) dX6_rod_22 fl_X6_10 rfl (by decide) (by decide) rfl ?_
      refine w_callVi dX6_rod_25 ml_X6_77 mv_X1_isFull rfl rfl (by decide) rfl (q1_isFull G _ 1 pp1 hC.rp h8 hC.p1) rfl rfl (Nat.le_of_ble_eq_true rfl) ?_
      refine w_if_eq (t := 38) dX6_rod_28 (by decide) (fun hz3 => ?_) (fun hz3 => ?_)
      · skip
        have hlt : n < 8 := Classical.byContradiction fun z => by
          rw [if_neg z] at hz3
          cases hz3
        have h88 : ¬ μ.1 8 = 8 := fun z => by
          rw [hn] at z
          exact absurd ((nI_eq (b := 8) (by omega) (by decide)).mp z) (by omega)
        refine w_aload_n dX6_rod_38 rfl ?_
        refine w_getR (t := 1) dX6_rod_39 fl_X6_10 rfl (by decide) (by decide) rfl ?_
        refine w_iload_n dX6_rod_42 rfl ?_
        refine w_iload_n dX6_rod_43 rfl ?_
        refine w_callVqr dX6_rod_44 ml_X6_82 mv_X1_add rfl rfl (by decide) rfl (q1_add G _ 1 pp1 hC.rp hlt hC.p1 _ _) rfl rfl (Nat.le_of_ble_eq_true rfl) (fun τ hq => ?_)
        refine w_pop dX6_rod_47 rfl ?_
        refine w_aload_n dX6_rod_48 rfl ?_
        refine w_getR (t := 1) dX6_rod_49 fl_X6_10 rfl (by decide) (by decide) rfl ?_
        refine w_getI dX6_rod_52 fl_X6_86 rfl rfl ?_
        refine w_iconst dX6_rod_55 ic_1 ?_
        refine w_isub dX6_rod_56 ?_
        refine w_eqi (show _ = nI n from by rw [hq.1.1.n]; exact nI_pred n) ?_
        refine w_iret dX6_rod_57 rfl ?_
        exact CQ.row hC hq.1 (hC.rv.add hlt (iB.in hz1) (iB.in hz2) (iB.of (k := 10) (b := 60) (by decide) (by decide)) (iB_0 (b := 23) (by decide)) (iB_0 (b := 23) (by decide))) (by rw [p_add_low _ _ _ _ _ _ _ (by omega) (by decide)]; exact hC.h5) (by simp only [M_rod, hnR, if_true, if_false, eq_false h88, eq_false hz1, eq_false hz2])
      · skip
        have h88 : μ.1 8 = 8 := by
          rw [hn, show n = 8 from Classical.byContradiction fun z => hz3 (by rw [if_pos (by omega)])]
          rfl
        refine w_aload_n dX6_rod_31 rfl ?_
        refine w_ldc dX6_rod_32 kc_X6_81 ?_
        refine w_callVi dX6_rod_34 ml_X6_51 mv_X6_tell rfl rfl (by decide) rfl (c_tell G _ _ 1 (by decide) (by decide)) rfl rfl (Nat.le_of_ble_eq_true rfl) ?_
        refine w_iret dX6_rod_37 rfl ?_
        first
        | exact CQ.fnd hC Mo.rfl (by decide) (by simp only [M_rod, hnR, if_true, if_false, eq_false hz1, eq_false hz2, eq_true h88])
        | exact CQ.same hC Mo.rfl (by simp only [M_rod, hnR, if_true, if_false, eq_false hz1, eq_false hz2, eq_true h88])
    · skip
      refine w_aload_n dX6_rod_14 rfl ?_
      refine w_ldc dX6_rod_15 kc_X6_50 ?_
      refine w_callVi dX6_rod_17 ml_X6_51 mv_X6_tell rfl rfl (by decide) rfl (c_tell G _ _ 0 (by decide) (by decide)) rfl rfl (Nat.le_of_ble_eq_true rfl) ?_
      refine w_iret dX6_rod_20 rfl ?_
      first
      | exact CQ.fnd hC Mo.rfl (by decide) (by simp only [M_rod, hnR, if_true, if_false, eq_false hz1, eq_true hz2])
      | exact CQ.same hC Mo.rfl (by simp only [M_rod, hnR, if_true, if_false, eq_false hz1, eq_true hz2])
set_option maxRecDepth 100000 in
set_option maxHeartbeats 800000 in
theorem k_of (G : GT) (σ : Sg) (μ : MO) (n : Nat) (hC : RC σ μ n) (r what : Int32) : Ev G mX6_of [.ref 0, .int r, .int what] σ (CQ σ (M_of μ r what)) := by
  have h8 := hC.rv.le
  have hn := hC.rv.n
  have hnR := hC.nn
  have hr1 : ∀ j, j < 8 → kd (σ.2.2 12 j) = 3 := hC.p1.kd pp1
  refine Ev.ofL (m := 1) (L := [some (.ref 0), some (.int r), some (.int what), none]) rfl (Nat.le_of_ble_eq_true rfl) rfl rfl ?_
  refine w_aload_n dX6_of_0 rfl ?_
  refine w_iload_n dX6_of_1 rfl ?_
  refine w_callVi dX6_of_2 ml_X6_90 mv_X6_isRod rfl rfl (by decide) rfl (k_isRod G _ μ n hC _) rfl rfl (Nat.le_of_ble_eq_true rfl) ?_
  refine w_if_eq (t := 18) dX6_of_5 (by decide) (fun hz1 => ?_) (fun hz1 => ?_)
  · skip
    refine w_aload_n dX6_of_18 rfl ?_
    refine w_ldc dX6_of_19 kc_X6_50 ?_
    refine w_callVi dX6_of_21 ml_X6_51 mv_X6_tell rfl rfl (by decide) rfl (c_tell G _ _ 0 (by decide) (by decide)) rfl rfl (Nat.le_of_ble_eq_true rfl) ?_
    refine w_iret dX6_of_24 rfl ?_
    first
    | exact CQ.fnd hC Mo.rfl (by decide) (by simp only [M_of, hnR, if_true, if_false, eq_true hz1])
    | exact CQ.same hC Mo.rfl (by simp only [M_of, hnR, if_true, if_false, eq_true hz1])
  · skip
    refine w_iload_n dX6_of_8 rfl ?_
    refine w_iconst dX6_of_9 ic_0 ?_
    refine w_bipush dX6_of_10 bp_9 ?_
    refine w_callSi dX6_of_12 ml_X6_66 ms_X6_isWithin rfl (c_isWithin G _ _ _ _) rfl rfl (Nat.le_of_ble_eq_true rfl) ?_
    refine w_if_ne (t := 25) dX6_of_15 (by decide) (fun hz2 => ?_) (fun hz2 => ?_)
    · skip
      obtain ⟨k, hk, rfl⟩ := rod_of hz1 hn h8
      have hck : (nI k).toNatClampNeg = k := nI_clamp (by omega)
      · skip
        refine w_aload_n dX6_of_25 rfl ?_
        refine w_getR (t := 1) dX6_of_26 fl_X6_10 rfl (by decide) (by decide) rfl ?_
        refine w_getR (t := 12) dX6_of_29 fl_X6_93 rfl (by decide) (by decide) rfl ?_
        refine w_iload_n dX6_of_32 rfl ?_
        refine w_aald (j := k) dX6_of_33 rfl rfl (by omega) ?_
        refine w_astore_n dX6_of_34 (by decide) rfl rfl ?_
        dsimp only [List.set]
        refine w_iload_n dX6_of_35 rfl ?_
        refine sw_7_9 (fun hz3 => ?_) (fun hz3 => ?_) (fun hz3 => ?_) (fun hz3 => ?_)
        · skip
          refine w_tableIn (t := 64) (off := 28) dX6_of_36 (by rw [hz3]; decide) (by rw [hz3]; decide) (by rw [hz3]; rfl) (by decide) ?_
          refine w_aload_n dX6_of_64 rfl ?_
          refine w_aload_n dX6_of_65 rfl ?_
          refine w_getR (t := 1) dX6_of_66 fl_X6_10 rfl (by decide) (by decide) rfl ?_
          refine w_getR (t := 9) dX6_of_69 fl_X6_55 rfl (by decide) (by decide) rfl ?_
          refine w_getI dX6_of_72 fl_X6_97 rfl rfl ?_
          refine w_callVi dX6_of_75 ml_X6_100 mv_X3_drawsFrom rfl (hr1 k (by omega)) (by decide) rfl (c3_drawsFrom G _ _ (hr1 k (by omega)) _) rfl rfl (Nat.le_of_ble_eq_true rfl) ?_
          refine w_eqi (show _ = p_draws μ.1 k (μ.1 0) from by rw [c_draws_cg (hC.rd1 hk), hC.cl1 (by decide), draws_eq (hC.rv.rod hk) hC.rv.at]) ?_
          refine w_iret dX6_of_78 rfl ?_
          first
          | exact CQ.fnd hC Mo.rfl (by decide) (by simp only [M_of, hnR, if_true, if_false, eq_false hz1, eq_false hz2, eq_true hz3, eq_false (show ¬ what = 8 by rw [hz3]; decide), eq_false (show ¬ what = 9 by rw [hz3]; decide), hck])
          | exact CQ.same hC Mo.rfl (by simp only [M_of, hnR, if_true, if_false, eq_false hz1, eq_false hz2, eq_true hz3, eq_false (show ¬ what = 8 by rw [hz3]; decide), eq_false (show ¬ what = 9 by rw [hz3]; decide), hck])
        · skip
          refine w_tableIn (t := 79) (off := 43) dX6_of_36 (by rw [hz3]; decide) (by rw [hz3]; decide) (by rw [hz3]; rfl) (by decide) ?_
          refine w_aload_n dX6_of_79 rfl ?_
          refine w_aload_n dX6_of_80 rfl ?_
          refine w_getR (t := 1) dX6_of_81 fl_X6_10 rfl (by decide) (by decide) rfl ?_
          refine w_getR (t := 9) dX6_of_84 fl_X6_55 rfl (by decide) (by decide) rfl ?_
          refine w_getI dX6_of_87 fl_X6_105 rfl rfl ?_
          refine w_aload_n dX6_of_90 rfl ?_
          refine w_getR (t := 1) dX6_of_91 fl_X6_10 rfl (by decide) (by decide) rfl ?_
          refine w_callVi dX6_of_94 ml_X6_108 mv_X1_clock rfl rfl (by decide) rfl (q1_clock G _ 1 pp1 hC.rp hC.p1) rfl rfl (Nat.le_of_ble_eq_true rfl) ?_
          refine w_callVi dX6_of_97 ml_X6_112 mv_X3_owesFor rfl (hr1 k (by omega)) (by decide) rfl (c3_owesFor G _ _ (hr1 k (by omega)) _ _) rfl rfl (Nat.le_of_ble_eq_true rfl) ?_
          refine w_eqi (show _ = p_owes μ.1 k (μ.1 1) from by rw [c_owes_cg (hC.rd1 hk), hC.cl1 (by decide), c_owes_p]) ?_
          refine w_iret dX6_of_100 rfl ?_
          first
          | exact CQ.fnd hC Mo.rfl (by decide) (by simp only [M_of, hnR, if_true, if_false, eq_false hz1, eq_false hz2, eq_true hz3, eq_false (show ¬ what = 7 by rw [hz3]; decide), eq_false (show ¬ what = 9 by rw [hz3]; decide), hck])
          | exact CQ.same hC Mo.rfl (by simp only [M_of, hnR, if_true, if_false, eq_false hz1, eq_false hz2, eq_true hz3, eq_false (show ¬ what = 7 by rw [hz3]; decide), eq_false (show ¬ what = 9 by rw [hz3]; decide), hck])
        · skip
          refine w_tableIn (t := 101) (off := 65) dX6_of_36 (by rw [hz3]; decide) (by rw [hz3]; decide) (by rw [hz3]; rfl) (by decide) ?_
          refine w_aload_n dX6_of_101 rfl ?_
          refine w_aload_n dX6_of_102 rfl ?_
          refine w_getR (t := 1) dX6_of_103 fl_X6_10 rfl (by decide) (by decide) rfl ?_
          refine w_callVi dX6_of_106 ml_X6_108 mv_X1_clock rfl rfl (by decide) rfl (q1_clock G _ 1 pp1 hC.rp hC.p1) rfl rfl (Nat.le_of_ble_eq_true rfl) ?_
          refine w_callVi dX6_of_109 ml_X6_116 mv_X3_isPaidAt rfl (hr1 k (by omega)) (by decide) rfl (c3_isPaidAt G _ _ (hr1 k (by omega)) _) rfl rfl (Nat.le_of_ble_eq_true rfl) ?_
          refine w_eqi (show _ = p_isPaid μ.1 k from by rw [c_isPaid_cg (hC.rd1 hk), c_isPaid_p]) ?_
          refine w_if_eq (t := 119) dX6_of_112 (by decide) (fun hz4 => ?_) (fun hz4 => ?_)
          · skip
            refine w_iconst dX6_of_119 ic_0 ?_
            refine w_iret dX6_of_120 rfl ?_
            have hp : p_isPaid μ.1 k = 0 := by
              have e := hz4
              unfold p_isPaid at e ⊢
              split at e <;> simp_all
            first
            | exact CQ.fnd hC Mo.rfl (by decide) (by simp only [M_of, hnR, if_true, if_false, eq_false hz1, eq_false hz2, eq_true hz3, eq_false (show ¬ what = 7 by rw [hz3]; decide), eq_false (show ¬ what = 8 by rw [hz3]; decide), hck, hp])
            | exact CQ.same hC Mo.rfl (by simp only [M_of, hnR, if_true, if_false, eq_false hz1, eq_false hz2, eq_true hz3, eq_false (show ¬ what = 7 by rw [hz3]; decide), eq_false (show ¬ what = 8 by rw [hz3]; decide), hck, hp])
          · skip
            refine w_iconst dX6_of_115 ic_1 ?_
            refine w_goto (t := 120) dX6_of_116 (by decide) ?_
            refine w_iret dX6_of_120 rfl ?_
            have hp : p_isPaid μ.1 k = 1 := by
              have e := hz4
              unfold p_isPaid at e ⊢
              split at e <;> simp_all
            first
            | exact CQ.fnd hC Mo.rfl (by decide) (by simp only [M_of, hnR, if_true, if_false, eq_false hz1, eq_false hz2, eq_true hz3, eq_false (show ¬ what = 7 by rw [hz3]; decide), eq_false (show ¬ what = 8 by rw [hz3]; decide), hck, hp])
            | exact CQ.same hC Mo.rfl (by simp only [M_of, hnR, if_true, if_false, eq_false hz1, eq_false hz2, eq_true hz3, eq_false (show ¬ what = 7 by rw [hz3]; decide), eq_false (show ¬ what = 8 by rw [hz3]; decide), hck, hp])
        · skip
          refine w_tableOut (t := 121) dX6_of_36 hz3.1 (by decide) ?_
          obtain ⟨w, hw, hw2⟩ := in_0 (m := 9) hz2 rfl (by decide)
          have hcw : what.toNatClampNeg = w := by rw [hw2]; exact nI_clamp (by omega)
          · skip
            refine w_aload_n dX6_of_121 rfl ?_
            refine w_iload_n dX6_of_122 rfl ?_
            refine w_callVi dX6_of_123 ml_X6_119 mv_X3_part rfl (hr1 k (by omega)) (by decide) rfl (c3_part G _ _ (hr1 k (by omega)) _) rfl rfl (Nat.le_of_ble_eq_true rfl) ?_
            have hw7 : w < 7 := by
              have h := hz3.1
              rw [hw2, nI_toInt (by omega)] at h
              omega
            refine w_eqi (show _ = μ.1 (9 + 7 * k + w) from by rw [hw2, k_part3_w hw7]; exact hC.rd1 hk w hw7) ?_
            refine w_iret dX6_of_126 rfl ?_
            first
            | exact CQ.fnd hC Mo.rfl (by decide) (by simp only [M_of, hnR, if_true, if_false, eq_false hz1, eq_false hz2, eq_false hz3.2.1, eq_false hz3.2.2.1, eq_false hz3.2.2.2, hck, hcw])
            | exact CQ.same hC Mo.rfl (by simp only [M_of, hnR, if_true, if_false, eq_false hz1, eq_false hz2, eq_false hz3.2.1, eq_false hz3.2.2.1, eq_false hz3.2.2.2, hck, hcw])
    · skip
      refine w_aload_n dX6_of_18 rfl ?_
      refine w_ldc dX6_of_19 kc_X6_50 ?_
      refine w_callVi dX6_of_21 ml_X6_51 mv_X6_tell rfl rfl (by decide) rfl (c_tell G _ _ 0 (by decide) (by decide)) rfl rfl (Nat.le_of_ble_eq_true rfl) ?_
      refine w_iret dX6_of_24 rfl ?_
      first
      | exact CQ.fnd hC Mo.rfl (by decide) (by simp only [M_of, hnR, if_true, if_false, eq_false hz1, eq_true hz2])
      | exact CQ.same hC Mo.rfl (by simp only [M_of, hnR, if_true, if_false, eq_false hz1, eq_true hz2])
set_option maxRecDepth 100000 in
set_option maxHeartbeats 800000 in
theorem k_set (G : GT) (σ : Sg) (μ : MO) (n : Nat) (hC : RC σ μ n) (r what v : Int32) : Ev G mX6_set [.ref 0, .int r, .int what, .int v] σ (CQ σ (M_set μ r what v)) := by
  have h8 := hC.rv.le
  have hn := hC.rv.n
  have hnR := hC.nn
  have hr1 : ∀ j, j < 8 → kd (σ.2.2 12 j) = 3 := hC.p1.kd pp1
  refine Ev.ofL (m := 2) (L := [some (.ref 0), some (.int r), some (.int what), some (.int v), none, none]) rfl (Nat.le_of_ble_eq_true rfl) rfl rfl ?_
  refine w_aload_n dX6_set_0 rfl ?_
  refine w_iload_n dX6_set_1 rfl ?_
  refine w_callVi dX6_set_2 ml_X6_90 mv_X6_isRod rfl rfl (by decide) rfl (k_isRod G _ μ n hC _) rfl rfl (Nat.le_of_ble_eq_true rfl) ?_
  refine w_if_ne (t := 15) dX6_set_5 (by decide) (fun hz1 => ?_) (fun hz1 => ?_)
  · skip
    obtain ⟨k, hk, rfl⟩ := rod_of hz1 hn h8
    have hck : (nI k).toNatClampNeg = k := nI_clamp (by omega)
    · skip
      refine w_aload_n dX6_set_15 rfl ?_
      refine w_getR (t := 1) dX6_set_16 fl_X6_10 rfl (by decide) (by decide) rfl ?_
      refine w_getR (t := 12) dX6_set_19 fl_X6_93 rfl (by decide) (by decide) rfl ?_
      refine w_iload_n dX6_set_22 rfl ?_
      refine w_aald (j := k) dX6_set_23 rfl rfl (by omega) ?_
      refine w_astore dX6_set_24 (by decide) rfl rfl ?_
      dsimp only [List.set]
      refine w_iload_n dX6_set_26 rfl ?_
      refine w_iconst dX6_set_27 ic_1 ?_
      refine w_icmp_ne (t := 54) dX6_set_28 (by decide) (fun hz2 => ?_) (fun hz2 => ?_)
      · skip
        refine w_iload_n dX6_set_54 rfl ?_
        refine w_iconst dX6_set_55 ic_2 ?_
        refine w_icmp_ne (t := 82) dX6_set_56 (by decide) (fun hz3 => ?_) (fun hz3 => ?_)
        · skip
          refine w_aload_n dX6_set_82 rfl ?_
          refine w_ldc dX6_set_83 kc_X6_50 ?_
          refine w_callVi dX6_set_85 ml_X6_51 mv_X6_tell rfl rfl (by decide) rfl (c_tell G _ _ 0 (by decide) (by decide)) rfl rfl (Nat.le_of_ble_eq_true rfl) ?_
          refine w_iret dX6_set_88 rfl ?_
          first
          | exact CQ.fnd hC Mo.rfl (by decide) (by simp [M_set, s_told, hnR, hz1, hz2, hz3])
          | exact CQ.fnd hC Mo.rfl (by decide) (by simp_all [M_set, s_told, hnR])
        · skip
          refine w_iload_n dX6_set_59 rfl ?_
          refine w_callSi dX6_set_60 ml_X6_121 ms_X6_isHeight rfl (c_isHeight G _ _) rfl rfl (Nat.le_of_ble_eq_true rfl) ?_
          refine w_if_eq (t := 82) dX6_set_63 (by decide) (fun hz4 => ?_) (fun hz4 => ?_)
          · skip
            refine w_aload_n dX6_set_82 rfl ?_
            refine w_ldc dX6_set_83 kc_X6_50 ?_
            refine w_callVi dX6_set_85 ml_X6_51 mv_X6_tell rfl rfl (by decide) rfl (c_tell G _ _ 0 (by decide) (by decide)) rfl rfl (Nat.le_of_ble_eq_true rfl) ?_
            refine w_iret dX6_set_88 rfl ?_
            first
            | exact CQ.fnd hC Mo.rfl (by decide) (by simp [M_set, s_told, hnR, hz1, hz2, hz3, hz4])
            | exact CQ.fnd hC Mo.rfl (by decide) (by simp_all [M_set, s_told, hnR])
          · skip
            refine w_aload dX6_set_66 rfl ?_
            refine w_getI dX6_set_68 fl_X6_124 (hr1 k (by omega)) rfl ?_
            refine w_istore dX6_set_71 (by decide) rfl rfl ?_
            dsimp only [List.set]
            have hw1 : what = 2 := hz3
            subst hw1
            refine w_L (L' := [some (.ref 0), some (.int (nI k)), some (.int 2), some (.int v), some (.ref (σ.2.2 12 k)), some (.int (μ.1 (9 + 7 * k + 2)))]) (by rw [hC.rd1 hk 2 (by decide)]; rfl) ?_
            refine w_aload dX6_set_73 rfl ?_
            refine w_iload_n dX6_set_75 rfl ?_
            refine w_putI dX6_set_76 fl_X6_124 (hr1 k (by omega)) rfl (by decide +kernel) ?_
            refine w_iload dX6_set_79 rfl ?_
            refine w_iret dX6_set_81 rfl ?_
            refine CQ.row hC (Pl.rodw (w := 2) hC.rp pp1 hC.p1 h8 hk (by decide)) (hC.rv.rodw hk (by decide) (iB.in hz4)) (by rw [updN (by omega)]; exact hC.h5) ?_
            simp only [M_set, s_told, if_true, if_false, hck, eq_false hz1, eq_false hz4, eq_false (show ¬ (2 : Int32) = 1 by decide)]
            rfl
      · skip
        refine w_iload_n dX6_set_31 rfl ?_
        refine w_callSi dX6_set_32 ml_X6_74 ms_X6_isPlace rfl (c_isPlace G _ _) rfl rfl (Nat.le_of_ble_eq_true rfl) ?_
        refine w_if_eq (t := 54) dX6_set_35 (by decide) (fun hz5 => ?_) (fun hz5 => ?_)
        · skip
          refine w_iload_n dX6_set_54 rfl ?_
          refine w_iconst dX6_set_55 ic_2 ?_
          refine w_icmp_ne (t := 82) dX6_set_56 (by decide) (fun hz6 => ?_) (fun hz6 => ?_)
          · skip
            refine w_aload_n dX6_set_82 rfl ?_
            refine w_ldc dX6_set_83 kc_X6_50 ?_
            refine w_callVi dX6_set_85 ml_X6_51 mv_X6_tell rfl rfl (by decide) rfl (c_tell G _ _ 0 (by decide) (by decide)) rfl rfl (Nat.le_of_ble_eq_true rfl) ?_
            refine w_iret dX6_set_88 rfl ?_
            first
            | exact CQ.fnd hC Mo.rfl (by decide) (by simp [M_set, s_told, hnR, hz1, hz2, hz5, hz6])
            | exact CQ.fnd hC Mo.rfl (by decide) (by simp_all [M_set, s_told, hnR])
          · skip
            refine w_iload_n dX6_set_59 rfl ?_
            refine w_callSi dX6_set_60 ml_X6_121 ms_X6_isHeight rfl (c_isHeight G _ _) rfl rfl (Nat.le_of_ble_eq_true rfl) ?_
            refine w_if_eq (t := 82) dX6_set_63 (by decide) (fun hz7 => ?_) (fun hz7 => ?_)
            · skip
              refine w_aload_n dX6_set_82 rfl ?_
              refine w_ldc dX6_set_83 kc_X6_50 ?_
              refine w_callVi dX6_set_85 ml_X6_51 mv_X6_tell rfl rfl (by decide) rfl (c_tell G _ _ 0 (by decide) (by decide)) rfl rfl (Nat.le_of_ble_eq_true rfl) ?_
              refine w_iret dX6_set_88 rfl ?_
              first
              | exact CQ.fnd hC Mo.rfl (by decide) (by simp [M_set, s_told, hnR, hz1, hz2, hz5, hz6, hz7])
              | exact CQ.fnd hC Mo.rfl (by decide) (by simp_all [M_set, s_told, hnR])
            · skip
              refine w_aload dX6_set_66 rfl ?_
              refine w_getI dX6_set_68 fl_X6_124 (hr1 k (by omega)) rfl ?_
              refine w_istore dX6_set_71 (by decide) rfl rfl ?_
              dsimp only [List.set]
              have hw1 : what = 2 := hz6
              subst hw1
              refine w_L (L' := [some (.ref 0), some (.int (nI k)), some (.int 2), some (.int v), some (.ref (σ.2.2 12 k)), some (.int (μ.1 (9 + 7 * k + 2)))]) (by rw [hC.rd1 hk 2 (by decide)]; rfl) ?_
              refine w_aload dX6_set_73 rfl ?_
              refine w_iload_n dX6_set_75 rfl ?_
              refine w_putI dX6_set_76 fl_X6_124 (hr1 k (by omega)) rfl (by decide +kernel) ?_
              refine w_iload dX6_set_79 rfl ?_
              refine w_iret dX6_set_81 rfl ?_
              refine CQ.row hC (Pl.rodw (w := 2) hC.rp pp1 hC.p1 h8 hk (by decide)) (hC.rv.rodw hk (by decide) (iB.in hz7)) (by rw [updN (by omega)]; exact hC.h5) ?_
              simp only [M_set, s_told, if_true, if_false, hck, eq_false hz1, eq_false hz7, eq_false (show ¬ (2 : Int32) = 1 by decide)]
              rfl
        · skip
          refine w_aload dX6_set_38 rfl ?_
          refine w_getI dX6_set_40 fl_X6_120 (hr1 k (by omega)) rfl ?_
          refine w_istore dX6_set_43 (by decide) rfl rfl ?_
          dsimp only [List.set]
          have hw1 : what = 1 := hz2
          subst hw1
          refine w_L (L' := [some (.ref 0), some (.int (nI k)), some (.int 1), some (.int v), some (.ref (σ.2.2 12 k)), some (.int (μ.1 (9 + 7 * k + 1)))]) (by rw [hC.rd1 hk 1 (by decide)]; rfl) ?_
          refine w_aload dX6_set_45 rfl ?_
          refine w_iload_n dX6_set_47 rfl ?_
          refine w_putI dX6_set_48 fl_X6_120 (hr1 k (by omega)) rfl (by decide +kernel) ?_
          refine w_iload dX6_set_51 rfl ?_
          refine w_iret dX6_set_53 rfl ?_
          refine CQ.row hC (Pl.rodw (w := 1) hC.rp pp1 hC.p1 h8 hk (by decide)) (hC.rv.rodw hk (by decide) (iB.in hz5)) (by rw [updN (by omega)]; exact hC.h5) ?_
          simp only [M_set, s_told, if_true, if_false, hck, eq_false hz1, eq_false hz5]
          rfl
  · skip
    refine w_aload_n dX6_set_8 rfl ?_
    refine w_ldc dX6_set_9 kc_X6_50 ?_
    refine w_callVi dX6_set_11 ml_X6_51 mv_X6_tell rfl rfl (by decide) rfl (c_tell G _ _ 0 (by decide) (by decide)) rfl rfl (Nat.le_of_ble_eq_true rfl) ?_
    refine w_iret dX6_set_14 rfl ?_
    first
    | exact CQ.fnd hC Mo.rfl (by decide) (by simp [M_set, s_told, hnR, hz1])
    | exact CQ.fnd hC Mo.rfl (by decide) (by simp_all [M_set, s_told, hnR])
set_option maxRecDepth 100000 in
set_option maxHeartbeats 800000 in
theorem k_pays (G : GT) (σ : Sg) (μ : MO) (n : Nat) (hC : RC σ μ n) (r a b : Int32) : Ev G mX6_pays [.ref 0, .int r, .int a, .int b] σ (CQ σ (M_pays μ r a b)) := by
  have h8 := hC.rv.le
  have hn := hC.rv.n
  have hnR := hC.nn
  have hr1 : ∀ j, j < 8 → kd (σ.2.2 12 j) = 3 := hC.p1.kd pp1
  refine Ev.ofL (m := 1) (L := [some (.ref 0), some (.int r), some (.int a), some (.int b), none]) rfl (Nat.le_of_ble_eq_true rfl) rfl rfl ?_
  refine w_aload_n dX6_pays_0 rfl ?_
  refine w_iload_n dX6_pays_1 rfl ?_
  refine w_callVi dX6_pays_2 ml_X6_90 mv_X6_isRod rfl rfl (by decide) rfl (k_isRod G _ μ n hC _) rfl rfl (Nat.le_of_ble_eq_true rfl) ?_
  refine w_if_eq (t := 22) dX6_pays_5 (by decide) (fun hz1 => ?_) (fun hz1 => ?_)
  · skip
    refine w_aload_n dX6_pays_22 rfl ?_
    refine w_ldc dX6_pays_23 kc_X6_50 ?_
    refine w_callVi dX6_pays_25 ml_X6_51 mv_X6_tell rfl rfl (by decide) rfl (c_tell G _ _ 0 (by decide) (by decide)) rfl rfl (Nat.le_of_ble_eq_true rfl) ?_
    refine w_iret dX6_pays_28 rfl ?_
    first
    | exact CQ.fnd hC Mo.rfl (by decide) (by simp only [M_pays, hnR, if_true, if_false, eq_true hz1])
    | exact CQ.same hC Mo.rfl (by simp only [M_pays, hnR, if_true, if_false, eq_true hz1])
  · skip
    refine w_iload_n dX6_pays_8 rfl ?_
    refine w_callSi dX6_pays_9 ml_X6_127 ms_X6_isClock rfl (c_isClock G _ _) rfl rfl (Nat.le_of_ble_eq_true rfl) ?_
    refine w_if_eq (t := 22) dX6_pays_12 (by decide) (fun hz2 => ?_) (fun hz2 => ?_)
    · skip
      refine w_aload_n dX6_pays_22 rfl ?_
      refine w_ldc dX6_pays_23 kc_X6_50 ?_
      refine w_callVi dX6_pays_25 ml_X6_51 mv_X6_tell rfl rfl (by decide) rfl (c_tell G _ _ 0 (by decide) (by decide)) rfl rfl (Nat.le_of_ble_eq_true rfl) ?_
      refine w_iret dX6_pays_28 rfl ?_
      first
      | exact CQ.fnd hC Mo.rfl (by decide) (by simp only [M_pays, hnR, if_true, if_false, eq_false hz1, eq_true hz2])
      | exact CQ.same hC Mo.rfl (by simp only [M_pays, hnR, if_true, if_false, eq_false hz1, eq_true hz2])
    · skip
      refine w_iload_n dX6_pays_15 rfl ?_
      refine w_callSi dX6_pays_16 ml_X6_127 ms_X6_isClock rfl (c_isClock G _ _) rfl rfl (Nat.le_of_ble_eq_true rfl) ?_
      refine w_if_ne (t := 29) dX6_pays_19 (by decide) (fun hz3 => ?_) (fun hz3 => ?_)
      · skip
        obtain ⟨k, hk, rfl⟩ := rod_of hz1 hn h8
        have hck : (nI k).toNatClampNeg = k := nI_clamp (by omega)
        · skip
          refine w_aload_n dX6_pays_29 rfl ?_
          refine w_getR (t := 1) dX6_pays_30 fl_X6_10 rfl (by decide) (by decide) rfl ?_
          refine w_getR (t := 12) dX6_pays_33 fl_X6_93 rfl (by decide) (by decide) rfl ?_
          refine w_iload_n dX6_pays_36 rfl ?_
          refine w_aald (j := k) dX6_pays_37 rfl rfl (by omega) ?_
          refine w_astore dX6_pays_38 (by decide) rfl rfl ?_
          dsimp only [List.set]
          refine w_aload dX6_pays_40 rfl ?_
          refine w_iload_n dX6_pays_42 rfl ?_
          refine w_putI dX6_pays_43 fl_X6_130 (hr1 k (by omega)) rfl (by decide +kernel) ?_
          refine w_aload dX6_pays_46 rfl ?_
          refine w_iload_n dX6_pays_48 rfl ?_
          refine w_putI dX6_pays_49 fl_X6_133 (hr1 k (by omega)) rfl (by decide +kernel) ?_
          have P1 : Pl σ (wI σ (σ.2.2 12 k) 3 a) 1 (upd μ.1 (9 + 7 * k + 3) a) n := Pl.rodw hC.rp pp1 hC.p1 h8 hk (by decide)
          have P2 : Pl σ (wI (wI σ (σ.2.2 12 k) 3 a) (σ.2.2 12 k) 4 b) 1 (upd (upd μ.1 (9 + 7 * k + 3) a) (9 + 7 * k + 4) b) n := P1.trans (Pl.rodw P1.1 pp1 P1.2.1 h8 hk (by decide))
          refine w_aload dX6_pays_52 rfl ?_
          refine w_callVi dX6_pays_54 ml_X6_136 mv_X3_paidHours rfl (hr1 k (by omega)) (by decide) rfl (c3_paidHours G _ _ (hr1 k (by omega))) rfl rfl (Nat.le_of_ble_eq_true rfl) ?_
          refine w_eqi (show _ = p_paidMany (upd (upd μ.1 (9 + 7 * k + 3) a) (9 + 7 * k + 4) b) k from by rw [← c_paidMany_p]; exact c_paidMany_cg (P2.1.rd hk)) ?_
          refine w_iret dX6_pays_57 rfl ?_
          exact CQ.row hC P2 ((hC.rv.rodw hk (by decide) (iB.in hz2)).rodw hk (by decide) (iB.in hz3)) (by rw [updN (by omega), updN (by omega)]; exact hC.h5) (by simp only [M_pays, hck, if_false, eq_false hz1, eq_false hz2, eq_false hz3])
      · skip
        refine w_aload_n dX6_pays_22 rfl ?_
        refine w_ldc dX6_pays_23 kc_X6_50 ?_
        refine w_callVi dX6_pays_25 ml_X6_51 mv_X6_tell rfl rfl (by decide) rfl (c_tell G _ _ 0 (by decide) (by decide)) rfl rfl (Nat.le_of_ble_eq_true rfl) ?_
        refine w_iret dX6_pays_28 rfl ?_
        first
        | exact CQ.fnd hC Mo.rfl (by decide) (by simp only [M_pays, hnR, if_true, if_false, eq_false hz1, eq_false hz2, eq_true hz3])
        | exact CQ.same hC Mo.rfl (by simp only [M_pays, hnR, if_true, if_false, eq_false hz1, eq_false hz2, eq_true hz3])
set_option maxRecDepth 100000 in
set_option maxHeartbeats 800000 in
theorem k_turn (G : GT) (σ : Sg) (μ : MO) (n : Nat) (hC : RC σ μ n) (r kind : Int32) : Ev G mX6_turn [.ref 0, .int r, .int kind] σ (CQ σ (M_turn μ r kind)) := by
  have h8 := hC.rv.le
  have hn := hC.rv.n
  have hnR := hC.nn
  have hr1 : ∀ j, j < 8 → kd (σ.2.2 12 j) = 3 := hC.p1.kd pp1
  refine Ev.ofL (m := 1) (L := [some (.ref 0), some (.int r), some (.int kind), none]) rfl (Nat.le_of_ble_eq_true rfl) rfl rfl ?_
  refine w_aload_n dX6_turn_0 rfl ?_
  refine w_iload_n dX6_turn_1 rfl ?_
  refine w_callVi dX6_turn_2 ml_X6_90 mv_X6_isRod rfl rfl (by decide) rfl (k_isRod G _ μ n hC _) rfl rfl (Nat.le_of_ble_eq_true rfl) ?_
  refine w_if_eq (t := 15) dX6_turn_5 (by decide) (fun hz1 => ?_) (fun hz1 => ?_)
  · skip
    refine w_aload_n dX6_turn_15 rfl ?_
    refine w_ldc dX6_turn_16 kc_X6_50 ?_
    refine w_callVi dX6_turn_18 ml_X6_51 mv_X6_tell rfl rfl (by decide) rfl (c_tell G _ _ 0 (by decide) (by decide)) rfl rfl (Nat.le_of_ble_eq_true rfl) ?_
    refine w_iret dX6_turn_21 rfl ?_
    first
    | exact CQ.fnd hC Mo.rfl (by decide) (by simp only [M_turn, hnR, if_true, if_false, eq_true hz1])
    | exact CQ.same hC Mo.rfl (by simp only [M_turn, hnR, if_true, if_false, eq_true hz1])
  · skip
    refine w_iload_n dX6_turn_8 rfl ?_
    refine w_callSi dX6_turn_9 ml_X6_70 ms_X6_isKind rfl (c_isKind G _ _) rfl rfl (Nat.le_of_ble_eq_true rfl) ?_
    refine w_if_ne (t := 22) dX6_turn_12 (by decide) (fun hz2 => ?_) (fun hz2 => ?_)
    · skip
      obtain ⟨k, hk, rfl⟩ := rod_of hz1 hn h8
      have hck : (nI k).toNatClampNeg = k := nI_clamp (by omega)
      · skip
        refine w_aload_n dX6_turn_22 rfl ?_
        refine w_getR (t := 1) dX6_turn_23 fl_X6_10 rfl (by decide) (by decide) rfl ?_
        refine w_getR (t := 12) dX6_turn_26 fl_X6_93 rfl (by decide) (by decide) rfl ?_
        refine w_iload_n dX6_turn_29 rfl ?_
        refine w_aald (j := k) dX6_turn_30 rfl rfl (by omega) ?_
        refine w_getI dX6_turn_31 fl_X6_139 (hr1 k (by omega)) rfl ?_
        refine w_eqi (show _ = μ.1 (9 + 7 * k) from hC.rd1 hk 0 (by decide)) ?_
        refine w_istore_n dX6_turn_34 (by decide) rfl rfl ?_
        dsimp only [List.set]
        refine w_aload_n dX6_turn_35 rfl ?_
        refine w_getR (t := 1) dX6_turn_36 fl_X6_10 rfl (by decide) (by decide) rfl ?_
        refine w_getR (t := 12) dX6_turn_39 fl_X6_93 rfl (by decide) (by decide) rfl ?_
        refine w_iload_n dX6_turn_42 rfl ?_
        refine w_aald (j := k) dX6_turn_43 rfl rfl (by omega) ?_
        refine w_iload_n dX6_turn_44 rfl ?_
        refine w_putI dX6_turn_45 fl_X6_139 (hr1 k (by omega)) rfl (by decide +kernel) ?_
        refine w_iload_n dX6_turn_48 rfl ?_
        refine w_iret dX6_turn_49 rfl ?_
        exact CQ.row hC (Pl.rodw (w := 0) hC.rp pp1 hC.p1 h8 hk (by decide)) (hC.rv.rodw hk (by decide) (iB.in hz2)) (by rw [updN (by omega)]; exact hC.h5) (by simp only [M_turn, hck, if_false, Nat.add_zero, eq_false hz1, eq_false hz2])
    · skip
      refine w_aload_n dX6_turn_15 rfl ?_
      refine w_ldc dX6_turn_16 kc_X6_50 ?_
      refine w_callVi dX6_turn_18 ml_X6_51 mv_X6_tell rfl rfl (by decide) rfl (c_tell G _ _ 0 (by decide) (by decide)) rfl rfl (Nat.le_of_ble_eq_true rfl) ?_
      refine w_iret dX6_turn_21 rfl ?_
      first
      | exact CQ.fnd hC Mo.rfl (by decide) (by simp only [M_turn, hnR, if_true, if_false, eq_false hz1, eq_true hz2])
      | exact CQ.same hC Mo.rfl (by simp only [M_turn, hnR, if_true, if_false, eq_false hz1, eq_true hz2])
theorem as2_p (μ : MO) (k : Nat) (kind : Int32) : M_as2 μ k kind = if c_isOf (rg μ.1 k) kind = 0 then (-1000000003, sFnd μ 2) else (μ.1 (9 + 7 * k + 2), μ) := by
  have e : c_isOf (rg μ.1 k) kind = if kind = μ.1 (9 + 7 * k) then 1 else if kind = 0 then 1 else if μ.1 (9 + 7 * k) = 4 ∧ kind = 1 then 1 else if μ.1 (9 + 7 * k) = 5 ∧ kind = 2 then 1 else 0 := rfl
  rw [e]
  unfold M_as2
  by_cases h0 : kind = 0
  · rw [if_pos h0]
    by_cases h1 : kind = μ.1 (9 + 7 * k)
    · rw [if_pos h1, if_neg (by decide)]
    · rw [if_neg h1, if_pos h0, if_neg (by decide)]
  · rw [if_neg h0]
    by_cases h1 : kind = μ.1 (9 + 7 * k)
    · rw [if_pos h1, if_pos h1, if_neg (by decide)]
    · rw [if_neg h1, if_neg h1, if_neg h0]
      by_cases h2 : kind = 1 ∧ μ.1 (9 + 7 * k) = 4
      · rw [if_pos h2, if_pos (show μ.1 (9 + 7 * k) = 4 ∧ kind = 1 from ⟨h2.2, h2.1⟩), if_neg (by decide)]
      · rw [if_neg h2, if_neg (show ¬ (μ.1 (9 + 7 * k) = 4 ∧ kind = 1) from fun z => h2 ⟨z.2, z.1⟩)]
        by_cases h3 : kind = 2 ∧ μ.1 (9 + 7 * k) = 5
        · rw [if_pos h3, if_pos (show μ.1 (9 + 7 * k) = 5 ∧ kind = 2 from ⟨h3.2, h3.1⟩), if_neg (by decide)]
        · rw [if_neg h3, if_neg (show ¬ (μ.1 (9 + 7 * k) = 5 ∧ kind = 2) from fun z => h3 ⟨z.2, z.1⟩), if_pos rfl]
set_option maxRecDepth 100000 in
set_option maxHeartbeats 800000 in
theorem k_as (G : GT) (σ : Sg) (μ : MO) (n : Nat) (hC : RC σ μ n) (r kind : Int32) : Ev G mX6_as [.ref 0, .int r, .int kind] σ (CQ σ (M_as μ r kind)) := by
  have h8 := hC.rv.le
  have hn := hC.rv.n
  have hnR := hC.nn
  have hr1 : ∀ j, j < 8 → kd (σ.2.2 12 j) = 3 := hC.p1.kd pp1
  refine Ev.ofL (m := 0) (L := [some (.ref 0), some (.int r), some (.int kind)]) rfl (Nat.le_of_ble_eq_true rfl) rfl rfl ?_
  refine w_aload_n dX6_as_0 rfl ?_
  refine w_iload_n dX6_as_1 rfl ?_
  refine w_callVi dX6_as_2 ml_X6_90 mv_X6_isRod rfl rfl (by decide) rfl (k_isRod G _ μ n hC _) rfl rfl (Nat.le_of_ble_eq_true rfl) ?_
  refine w_if_eq (t := 15) dX6_as_5 (by decide) (fun hz1 => ?_) (fun hz1 => ?_)
  · skip
    refine w_aload_n dX6_as_15 rfl ?_
    refine w_ldc dX6_as_16 kc_X6_50 ?_
    refine w_callVi dX6_as_18 ml_X6_51 mv_X6_tell rfl rfl (by decide) rfl (c_tell G _ _ 0 (by decide) (by decide)) rfl rfl (Nat.le_of_ble_eq_true rfl) ?_
    refine w_iret dX6_as_21 rfl ?_
    first
    | exact CQ.fnd hC Mo.rfl (by decide) (by simp only [M_as, hnR, if_true, if_false, eq_true hz1])
    | exact CQ.same hC Mo.rfl (by simp only [M_as, hnR, if_true, if_false, eq_true hz1])
  · skip
    refine w_iload_n dX6_as_8 rfl ?_
    refine w_callSi dX6_as_9 ml_X6_70 ms_X6_isKind rfl (c_isKind G _ _) rfl rfl (Nat.le_of_ble_eq_true rfl) ?_
    refine w_if_ne (t := 22) dX6_as_12 (by decide) (fun hz2 => ?_) (fun hz2 => ?_)
    · skip
      obtain ⟨k, hk, rfl⟩ := rod_of hz1 hn h8
      have hck : (nI k).toNatClampNeg = k := nI_clamp (by omega)
      · skip
        refine w_aload_n dX6_as_22 rfl ?_
        refine w_getR (t := 1) dX6_as_23 fl_X6_10 rfl (by decide) (by decide) rfl ?_
        refine w_getR (t := 12) dX6_as_26 fl_X6_93 rfl (by decide) (by decide) rfl ?_
        refine w_iload_n dX6_as_29 rfl ?_
        refine w_aald (j := k) dX6_as_30 rfl rfl (by omega) ?_
        refine w_iload_n dX6_as_31 rfl ?_
        refine w_callVi dX6_as_32 ml_X6_142 mv_X3_isOf rfl (hr1 k (by omega)) (by decide) rfl (c3_isOf G _ _ (hr1 k (by omega)) _) rfl rfl (Nat.le_of_ble_eq_true rfl) ?_
        refine w_eqi (show _ = c_isOf (rg μ.1 k) kind from c_isOf_cg (hC.rd1 hk) _) ?_
        refine w_if_ne (t := 45) dX6_as_35 (by decide) (fun hz3 => ?_) (fun hz3 => ?_)
        · skip
          refine w_aload_n dX6_as_45 rfl ?_
          refine w_getR (t := 1) dX6_as_46 fl_X6_10 rfl (by decide) (by decide) rfl ?_
          refine w_getR (t := 12) dX6_as_49 fl_X6_93 rfl (by decide) (by decide) rfl ?_
          refine w_iload_n dX6_as_52 rfl ?_
          refine w_aald (j := k) dX6_as_53 rfl rfl (by omega) ?_
          refine w_getI dX6_as_54 fl_X6_124 (hr1 k (by omega)) rfl ?_
          refine w_eqi (show _ = μ.1 (9 + 7 * k + 2) from hC.rd1 hk 2 (by decide)) ?_
          refine w_iret dX6_as_57 rfl ?_
          first
          | exact CQ.fnd hC Mo.rfl (by decide) (by simp only [M_as, hnR, if_true, if_false, eq_false hz1, eq_false hz2, eq_false hz3, hck, as2_p])
          | exact CQ.same hC Mo.rfl (by simp only [M_as, hnR, if_true, if_false, eq_false hz1, eq_false hz2, eq_false hz3, hck, as2_p])
        · skip
          refine w_aload_n dX6_as_38 rfl ?_
          refine w_ldc dX6_as_39 kc_X6_145 ?_
          refine w_callVi dX6_as_41 ml_X6_51 mv_X6_tell rfl rfl (by decide) rfl (c_tell G _ _ 2 (by decide) (by decide)) rfl rfl (Nat.le_of_ble_eq_true rfl) ?_
          refine w_iret dX6_as_44 rfl ?_
          first
          | exact CQ.fnd hC Mo.rfl (by decide) (by simp only [M_as, hnR, if_true, if_false, eq_false hz1, eq_false hz2, eq_true hz3, hck, as2_p])
          | exact CQ.same hC Mo.rfl (by simp only [M_as, hnR, if_true, if_false, eq_false hz1, eq_false hz2, eq_true hz3, hck, as2_p])
    · skip
      refine w_aload_n dX6_as_15 rfl ?_
      refine w_ldc dX6_as_16 kc_X6_50 ?_
      refine w_callVi dX6_as_18 ml_X6_51 mv_X6_tell rfl rfl (by decide) rfl (c_tell G _ _ 0 (by decide) (by decide)) rfl rfl (Nat.le_of_ble_eq_true rfl) ?_
      refine w_iret dX6_as_21 rfl ?_
      first
      | exact CQ.fnd hC Mo.rfl (by decide) (by simp only [M_as, hnR, if_true, if_false, eq_false hz1, eq_true hz2])
      | exact CQ.same hC Mo.rfl (by simp only [M_as, hnR, if_true, if_false, eq_false hz1, eq_true hz2])
theorem RV.down {f : Nat → Int32} {n k : Nat} (h : RV f n) (hk : k < n) : RV (p_down f n k) (n - 1) := by
  obtain ⟨⟨-, q2⟩, a0, a1, a2, a3, a4, a6, hr⟩ := id h
  have lo : ∀ j, j < 8 → p_down f n k j = f j := fun j hj => by
    unfold p_down
    rw [if_neg (by omega), if_neg (by omega)]
  refine ⟨⟨p_down_8 _ _ _, by omega⟩, by rw [lo 0 (by decide)]; exact a0, by rw [lo 1 (by decide)]; exact a1, by rw [lo 2 (by decide)]; exact a2, by rw [lo 3 (by decide)]; exact a3, by rw [lo 4 (by decide)]; exact a4, by rw [lo 6 (by decide)]; exact a6, fun r hr' => ?_⟩
  have e2 : ∀ w, w < 7 → rg (p_down f n k) r w = rg f (if k ≤ r then r + 1 else r) w := fun w hw => by
    unfold rg p_down
    rw [if_neg (by omega)]
    by_cases z : k ≤ r
    · rw [if_pos (by omega), if_pos z]
      congr 1
      omega
    · rw [if_neg (by omega), if_neg z]
  have q0 := hr (if k ≤ r then r + 1 else r) (by split <;> omega)
  unfold RVg at q0 ⊢
  rw [e2 0 (by decide), e2 1 (by decide), e2 2 (by decide), e2 3 (by decide), e2 4 (by decide), e2 5 (by decide), e2 6 (by decide)]
  exact q0
theorem p_down_lo (f : Nat → Int32) (n k : Nat) {j : Nat} (hj : j < 8) : p_down f n k j = f j := by
  unfold p_down
  rw [if_neg (by omega), if_neg (by omega)]
set_option maxRecDepth 100000 in
set_option maxHeartbeats 800000 in
theorem k_down (G : GT) (σ : Sg) (μ : MO) (n : Nat) (hC : RC σ μ n) (r : Int32) : Ev G mX6_down [.ref 0, .int r] σ (CQ σ (M_down μ r)) := by
  have h8 := hC.rv.le
  have hn := hC.rv.n
  have hnR := hC.nn
  have hr1 : ∀ j, j < 8 → kd (σ.2.2 12 j) = 3 := hC.p1.kd pp1
  refine Ev.ofL (m := 1) (L := [some (.ref 0), some (.int r), none]) rfl (Nat.le_of_ble_eq_true rfl) rfl rfl ?_
  refine w_aload_n dX6_down_0 rfl ?_
  refine w_iload_n dX6_down_1 rfl ?_
  refine w_callVi dX6_down_2 ml_X6_90 mv_X6_isRod rfl rfl (by decide) rfl (k_isRod G _ μ n hC _) rfl rfl (Nat.le_of_ble_eq_true rfl) ?_
  refine w_if_ne (t := 15) dX6_down_5 (by decide) (fun hz1 => ?_) (fun hz1 => ?_)
  · skip
    obtain ⟨k, hk, rfl⟩ := rod_of hz1 hn h8
    have hck : (nI k).toNatClampNeg = k := nI_clamp (by omega)
    · skip
      refine w_aload_n dX6_down_15 rfl ?_
      refine w_getR (t := 1) dX6_down_16 fl_X6_10 rfl (by decide) (by decide) rfl ?_
      refine w_getR (t := 12) dX6_down_19 fl_X6_93 rfl (by decide) (by decide) rfl ?_
      refine w_iload_n dX6_down_22 rfl ?_
      refine w_aald (j := k) dX6_down_23 rfl rfl (by omega) ?_
      refine w_getI dX6_down_24 fl_X6_146 (hr1 k (by omega)) rfl ?_
      refine w_eqi (show _ = μ.1 (9 + 7 * k + 5) from hC.rd1 hk 5 (by decide)) ?_
      refine w_istore_n dX6_down_27 (by decide) rfl rfl ?_
      dsimp only [List.set]
      refine w_aload_n dX6_down_28 rfl ?_
      refine w_getR (t := 1) dX6_down_29 fl_X6_10 rfl (by decide) (by decide) rfl ?_
      refine w_iload_n dX6_down_32 rfl ?_
      refine w_callVqv dX6_down_33 ml_X6_149 mv_X1_takeDown rfl rfl (by decide) rfl (q1_takeDown G _ 1 pp1 hC.rp h8 hC.p1 k hk) rfl rfl (Nat.le_of_ble_eq_true rfl) (fun τ hq => ?_)
      refine w_iload_n dX6_down_36 rfl ?_
      refine w_iret dX6_down_37 rfl ?_
      exact CQ.row hC hq (hC.rv.down hk) (by rw [p_down_lo _ _ _ (by decide)]; exact hC.h5) (by simp only [M_down, hck, hnR, if_false, eq_false hz1])
  · skip
    refine w_aload_n dX6_down_8 rfl ?_
    refine w_ldc dX6_down_9 kc_X6_50 ?_
    refine w_callVi dX6_down_11 ml_X6_51 mv_X6_tell rfl rfl (by decide) rfl (c_tell G _ _ 0 (by decide) (by decide)) rfl rfl (Nat.le_of_ble_eq_true rfl) ?_
    refine w_iret dX6_down_14 rfl ?_
    first
    | exact CQ.fnd hC Mo.rfl (by decide) (by simp only [M_down, hnR, if_true, if_false, eq_true hz1])
    | exact CQ.same hC Mo.rfl (by simp only [M_down, hnR, if_true, if_false, eq_true hz1])
set_option maxRecDepth 100000 in
set_option maxHeartbeats 800000 in
theorem k_settle (G : GT) (σ : Sg) (μ : MO) (n : Nat) (hC : RC σ μ n) (r : Int32) : Ev G mX6_settle [.ref 0, .int r] σ (CQ σ (M_settle μ r)) := by
  have h8 := hC.rv.le
  have hn := hC.rv.n
  have hnR := hC.nn
  have hr1 : ∀ j, j < 8 → kd (σ.2.2 12 j) = 3 := hC.p1.kd pp1
  refine Ev.ofL (m := 1) (L := [some (.ref 0), some (.int r), none]) rfl (Nat.le_of_ble_eq_true rfl) rfl rfl ?_
  refine w_aload_n dX6_settle_0 rfl ?_
  refine w_iload_n dX6_settle_1 rfl ?_
  refine w_callVi dX6_settle_2 ml_X6_90 mv_X6_isRod rfl rfl (by decide) rfl (k_isRod G _ μ n hC _) rfl rfl (Nat.le_of_ble_eq_true rfl) ?_
  refine w_if_ne (t := 15) dX6_settle_5 (by decide) (fun hz1 => ?_) (fun hz1 => ?_)
  · skip
    obtain ⟨k, hk, rfl⟩ := rod_of hz1 hn h8
    have hck : (nI k).toNatClampNeg = k := nI_clamp (by omega)
    · skip
      refine w_aload_n dX6_settle_15 rfl ?_
      refine w_getR (t := 1) dX6_settle_16 fl_X6_10 rfl (by decide) (by decide) rfl ?_
      refine w_getR (t := 12) dX6_settle_19 fl_X6_93 rfl (by decide) (by decide) rfl ?_
      refine w_iload_n dX6_settle_22 rfl ?_
      refine w_aald (j := k) dX6_settle_23 rfl rfl (by omega) ?_
      refine w_getI dX6_settle_24 fl_X6_146 (hr1 k (by omega)) rfl ?_
      refine w_eqi (show _ = μ.1 (9 + 7 * k + 5) from hC.rd1 hk 5 (by decide)) ?_
      refine w_istore_n dX6_settle_27 (by decide) rfl rfl ?_
      dsimp only [List.set]
      refine w_aload_n dX6_settle_28 rfl ?_
      refine w_getR (t := 1) dX6_settle_29 fl_X6_10 rfl (by decide) (by decide) rfl ?_
      refine w_getR (t := 12) dX6_settle_32 fl_X6_93 rfl (by decide) (by decide) rfl ?_
      refine w_iload_n dX6_settle_35 rfl ?_
      refine w_aald (j := k) dX6_settle_36 rfl rfl (by omega) ?_
      refine w_iconst dX6_settle_37 ic_0 ?_
      refine w_putI dX6_settle_38 fl_X6_146 (hr1 k (by omega)) rfl (by decide +kernel) ?_
      refine w_iload_n dX6_settle_41 rfl ?_
      refine w_iret dX6_settle_42 rfl ?_
      exact CQ.row hC (Pl.rodw (w := 5) hC.rp pp1 hC.p1 h8 hk (by decide)) (hC.rv.rodw hk (by decide) (iB_0 (b := 99999) (by decide))) (by rw [updN (by omega)]; exact hC.h5) (by simp only [M_settle, hck, if_false, eq_false hz1])
  · skip
    refine w_aload_n dX6_settle_8 rfl ?_
    refine w_ldc dX6_settle_9 kc_X6_50 ?_
    refine w_callVi dX6_settle_11 ml_X6_51 mv_X6_tell rfl rfl (by decide) rfl (c_tell G _ _ 0 (by decide) (by decide)) rfl rfl (Nat.le_of_ble_eq_true rfl) ?_
    refine w_iret dX6_settle_14 rfl ?_
    first
    | exact CQ.fnd hC Mo.rfl (by decide) (by simp only [M_settle, hnR, if_true, if_false, eq_true hz1])
    | exact CQ.same hC Mo.rfl (by simp only [M_settle, hnR, if_true, if_false, eq_true hz1])
