/-! contracts of the class's plains, against a row -/
def TG (σ : Sg) (p : Nat) (f : Nat → Int32) (n : Nat) : Prop := ∀ q, q < 16 → σ.1 (p + 14) q = oI (p_strk f n (nI q))
/-- from σ to τ nothing but plain p is changed, and that now holds f -/
def Pl (σ τ : Sg) (p : Nat) (f : Nat → Int32) (n : Nat) : Prop := Rp τ p f n ∧ Pm τ p ∧ Fp p σ τ
def Pt (σ τ : Sg) (p : Nat) (f : Nat → Int32) (n : Nat) : Prop := Rp τ p f n ∧ Pm τ p ∧ Fp p σ τ ∧ TG τ p f n ∧ τ.2.2 = σ.2.2
theorem Pt.pl {σ τ : Sg} {p n : Nat} {f : Nat → Int32} (h : Pt σ τ p f n) : Pl σ τ p f n := ⟨h.1, h.2.1, h.2.2.1⟩
theorem q1_aim (G : GT) (σ : Sg) (p : Nat) (hp : PP p) {f : Nat → Int32} {n : Nat} (h : Rp σ p f n) (hv : RV f n) (hm : Pm σ p) : Ev G mX1_aim [.ref p] σ (fun v τ => v = none ∧ Pt σ τ p f n) := by
  obtain ⟨k1, k2, k3, k4, k5⟩ := hp.kd
  refine (c1_aim G σ p k1 k2 k3 k4 (hm.kd hp) (by have := hp.2; omega) k5 n h.n hv.le).mono ?_
  rintro v τ ⟨rfl, rfl⟩
  refine ⟨rfl, h.aim hp hm hv.le, hm.eq (fun _ => rfl), Fp.setC (Or.inr (Or.inr (Or.inl rfl))), fun q hq => ?_, rfl⟩
  rw [setC_at]
  unfold aimT
  rw [if_pos hq]
  exact tgt_p h hv (iB.of (b := 15) (by omega) (by decide))
theorem q1_goHour (G : GT) (σ : Sg) (p : Nat) (hp : PP p) {f : Nat → Int32} {n : Nat} (h : Rp σ p f n) (hv : RV f n) (hm : Pm σ p) (ht : TG σ p f n) : Ev G mX1_goHour [.ref p] σ (fun v τ => v = none ∧ Pt σ τ p (p_hour f n) n) := by
  obtain ⟨k1, k2, k3, k4, k5⟩ := hp.kd
  obtain ⟨q, hq, eq0⟩ := hv.at.nat (b := 15)
  have ho : ∀ k, p_strk f n (f 0) = some k → k < n := fun k hk => p_strk_lt hk
  have q0 := c1_goHour G σ p k1 k2 k3 k4 (hm.kd hp) (by have := hp.2; omega) k5 n h.n hv.le q (by omega) (by rw [h.cl (by decide)]; exact eq0) (p_strk f n (f 0)) ho (by rw [ht q (by omega), eq0])
  refine q0.mono ?_
  rintro v τ ⟨rfl, rfl⟩
  have hF := strike_F hm hv.le _ ho
  have hp1 := hp.1
  have hp2 := hp.2
  have key : ∀ τ : Sg, Fp p σ τ → τ.2.2 = σ.2.2 → τ.1 (p + 14) = σ.1 (p + 14) → Pm (k_tick τ p) p ∧ Fp p σ (k_tick τ p) ∧ (k_tick τ p).1 (p + 14) = σ.1 (p + 14) := fun τ h1 h2 h3 => by
    refine ⟨hm.eq (fun j => by rw [show (k_tick τ p).2.2 = τ.2.2 from rfl, h2]), h1.trans ((Fp.setC (Or.inr (Or.inl rfl))).trans (Fp.setC (Or.inl rfl))), ?_⟩
    unfold k_tick
    rw [setC_ne (by omega), setC_ne (by omega)]
    exact h3
  have hx : Fp p σ (if k_breaks (σ.1 (p + 8)) = 0 then σ else k_strike σ p (p_strk f n (f 0))) ∧ (if k_breaks (σ.1 (p + 8)) = 0 then σ else k_strike σ p (p_strk f n (f 0))).2.2 = σ.2.2 ∧ (if k_breaks (σ.1 (p + 8)) = 0 then σ else k_strike σ p (p_strk f n (f 0))).1 (p + 14) = σ.1 (p + 14) := by
    split
    · exact ⟨Fp.rfl, rfl, rfl⟩
    · exact ⟨hF.1, hF.2.1, hF.2.2 hp⟩
  obtain ⟨g1, g2, g3⟩ := key _ hx.1 hx.2.1 hx.2.2
  refine ⟨rfl, hour_p h hv hp hm, g1, g2, fun j hj => ?_, hx.2.1⟩
  rw [g3, p_strk_hour]
  exact ht j hj
set_option maxRecDepth 100000 in
set_option maxHeartbeats 800000 in
theorem q1_goHoursP (G : GT) (σ : Sg) (p : Nat) (hp : PP p) {f : Nat → Int32} {n : Nat} (h : Rp σ p f n) (hv : RV f n) (hm : Pm σ p) (q : Nat) (hq31 : q < 2 ^ 31) : Ev G mX1_goHours [.ref p, .int (nI q)] σ (fun v τ => v = none ∧ Pl σ τ p (p_pass f n q) n ∧ τ.2.2 = σ.2.2) := by
  refine Ev.ofL (m := 1) (L := [some (.ref p), some (.int (nI q)), none]) rfl (Nat.le_of_ble_eq_true rfl) rfl rfl ?_
  refine w_aload_n dX1_goHours_0 rfl ?_
  refine w_callVqv dX1_goHours_1 ml_X1_98 mv_X1_aim rfl hp.kd.1 (by decide) rfl (q1_aim G _ p hp h hv hm) rfl rfl (Nat.le_of_ble_eq_true rfl) (fun τ1 hh1 => ?_)
  refine w_iconst dX1_goHours_4 ic_0 ?_
  refine w_istore_n dX1_goHours_5 (by decide) rfl rfl ?_
  dsimp only [List.set]
  have lp : ∀ (m : Nat) (i : Nat) (τ : Sg), q - i < m → i ≤ q → Pt σ τ p (p_pass f n i) n → WP G mX1_goHours 6 [some (.ref p), some (.int (nI q)), some (.int (nI i))] [] (τ) (fun v τ => v = none ∧ Pl σ τ p (p_pass f n q) n ∧ τ.2.2 = σ.2.2) := by
    intro m
    induction m with
    | zero => intro i τ hmz; exact absurd hmz (Nat.not_lt_zero _)
    | succ m ih =>
      intro i τ hmz hi ht
      refine w_iload_n dX1_goHours_6 rfl ?_
      refine w_iload_n dX1_goHours_7 rfl ?_
      refine w2_icmp_ge (t := 21) dX1_goHours_8 (by decide) (fun hz1 => ?_) (fun hz1 => ?_)
      · skip
        have hge := nlt_nI (by omega) (by omega) hz1
        have hen : i = q := by omega
        subst hen
        refine w_vret dX1_goHours_21 rfl ?_
        exact ⟨rfl, ht.pl, ht.2.2.2.2⟩
      · skip
        have hlt := lt_nI (by omega) (by omega) hz1
        refine w_aload_n dX1_goHours_11 rfl ?_
        refine w_callVqv dX1_goHours_12 ml_X1_101 mv_X1_goHour rfl hp.kd.1 (by decide) rfl (q1_goHour G _ p hp ht.1 (hv.pass i) ht.2.1 ht.2.2.2.1) rfl rfl (Nat.le_of_ble_eq_true rfl) (fun τ2 hh => ?_)
        refine w_iincN (a := i) (b := 1) dX1_goHours_15 rfl ic_1 (by decide) rfl rfl ?_
        dsimp only [List.set]
        refine w_goto (t := 6) dX1_goHours_18 (by decide) ?_
        exact ih (i + 1) τ2 (by omega) (by omega) ⟨hh.1, hh.2.1, ht.2.2.1.trans hh.2.2.1, hh.2.2.2.1, hh.2.2.2.2.trans ht.2.2.2.2⟩
  exact lp (q + 1) 0 τ1 (by omega) (by omega) hh1
theorem q1_goHours (G : GT) (σ : Sg) (p : Nat) (hp : PP p) {f : Nat → Int32} {n : Nat} (h : Rp σ p f n) (hv : RV f n) (hm : Pm σ p) (q : Nat) (hq31 : q < 2 ^ 31) : Ev G mX1_goHours [.ref p, .int (nI q)] σ (fun v τ => v = none ∧ Pl σ τ p (p_pass f n q) n) := (q1_goHoursP G σ p hp h hv hm q hq31).mono (fun v τ h => ⟨h.1, h.2.1⟩)
def p_bst (f : Nat → Int32) (n : Nat) (r : Int32) : Int32 := if p_breaks f = 0 then 0 else if oI (p_strk f n (f 0)) = r then 1 else 0
theorem kbr_p {σ : Sg} {p n : Nat} {f : Nat → Int32} (h : Rp σ p f n) : k_breaks (σ.1 (p + 8)) = p_breaks f := by
  unfold k_breaks p_breaks
  rw [h.cl (by decide), h.cl (by decide)]
set_option maxRecDepth 100000 in
set_option maxHeartbeats 800000 in
theorem q1_boltStrikes (G : GT) (σ : Sg) (p : Nat) (hp : PP p) {f : Nat → Int32} {n : Nat} (h : Rp σ p f n) (hv : RV f n) (hm : Pm σ p) (ht : TG σ p f n) (r : Int32) : Evi G mX1_boltStrikes [.ref p, .int r] σ (p_bst f n r) (σ) := by
  obtain ⟨q, hq, eq0⟩ := hv.at.nat (b := 15)
  have e0 : σ.1 (p + 8) 0 = nI q := (h.cl (by decide)).trans eq0
  have et : σ.1 (p + 14) q = oI (p_strk f n (f 0)) := by rw [ht q (by omega), eq0]
  have eb := kbr_p h
  refine Ev.ofL (m := 0) (L := [some (.ref p), some (.int r)]) rfl (Nat.le_of_ble_eq_true rfl) rfl rfl ?_
  refine w_aload_n dX1_boltStrikes_0 rfl ?_
  refine w_getR (t := (p + 8)) dX1_boltStrikes_1 fl_X1_12 hp.kd.1 (by decide) (by decide) rfl ?_
  refine w_callVi dX1_boltStrikes_4 ml_X1_60 mv_X0_isBreaking rfl hp.kd.2.1 (by decide) rfl (c0_isBreaking G _ (p + 8) hp.kd.2.1) rfl rfl (Nat.le_of_ble_eq_true rfl) ?_
  refine w_if_eq (t := 30) dX1_boltStrikes_7 (by decide) (fun hz1 => ?_) (fun hz1 => ?_)
  · skip
    refine w_iconst dX1_boltStrikes_30 ic_0 ?_
    refine w_zret dX1_boltStrikes_31 rfl rfl ?_
    rw [eb] at hz1
    exact ⟨by simp only [p_bst, eq_true hz1, if_true, if_false], rfl⟩
  · skip
    refine w_aload_n dX1_boltStrikes_10 rfl ?_
    refine w_getR (t := (p + 14)) dX1_boltStrikes_11 fl_X1_38 hp.kd.1 (by decide) (by decide) rfl ?_
    refine w_aload_n dX1_boltStrikes_14 rfl ?_
    refine w_getR (t := (p + 8)) dX1_boltStrikes_15 fl_X1_12 hp.kd.1 (by decide) (by decide) rfl ?_
    refine w_getI dX1_boltStrikes_18 fl_X1_64 hp.kd.2.1 rfl ?_
    refine w_eqi e0 ?_
    · skip
      refine w_iald (j := q) dX1_boltStrikes_21 hp.kd.2.2.2.1 (by have := hp.2; omega) rfl (by rw [hp.kd.2.2.2.2]; omega) ?_
      refine w_eqi et ?_
      · skip
        refine w_iload_n dX1_boltStrikes_22 rfl ?_
        refine w_icmp_ne (t := 30) dX1_boltStrikes_23 (by decide) (fun hz2 => ?_) (fun hz2 => ?_)
        · skip
          refine w_iconst dX1_boltStrikes_30 ic_0 ?_
          refine w_zret dX1_boltStrikes_31 rfl rfl ?_
          rw [eb] at hz1
          exact ⟨by simp only [p_bst, eq_false hz1, eq_false hz2, if_true, if_false], rfl⟩
        · skip
          refine w_iconst dX1_boltStrikes_26 ic_1 ?_
          refine w_goto (t := 31) dX1_boltStrikes_27 (by decide) ?_
          refine w_zret dX1_boltStrikes_31 rfl rfl ?_
          rw [eb] at hz1
          exact ⟨by simp only [p_bst, eq_false hz1, eq_true hz2, if_true, if_false], rfl⟩
/-- plain p has taken cloud, count and the first i rods from plain q -/
def TkI (σ τ : Sg) (p q n i : Nat) : Prop := Fp p σ τ ∧ τ.2.2 = σ.2.2 ∧ (∀ k, k < 5 → τ.1 (p + 8) k = σ.1 (q + 8) k) ∧ τ.1 p 2 = nI n ∧ ∀ r, r < i → ∀ w, w < 7 → τ.1 (σ.2.2 (p + 11) r) w = σ.1 (σ.2.2 (q + 11) r) w
theorem k_take5_at (f g : Nat → Int32) : ∀ k, k < 5 → k_take5 f g k = g k
  | 0, _ => rfl
  | 1, _ => rfl
  | 2, _ => rfl
  | 3, _ => rfl
  | 4, _ => rfl
theorem k_take7_at (f g : Nat → Int32) : ∀ k, k < 7 → k_take7 f g k = g k
  | 0, _ => rfl
  | 1, _ => rfl
  | 2, _ => rfl
  | 3, _ => rfl
  | 4, _ => rfl
  | 5, _ => rfl
  | 6, _ => rfl
theorem TkI.step {σ τ : Sg} {p q n i : Nat} (h : TkI σ τ p q n i) (hp : PP p) (hq : PP q) (hpq : q ≠ p) (hm : Pm σ p) (hmq : Pm σ q) (hi : i < n) (h8 : n ≤ 8) : TkI σ (setC τ (τ.2.2 (p + 11) i) (k_take7 (τ.1 (τ.2.2 (p + 11) i)) (τ.1 (τ.2.2 (q + 11) i)))) p q n (i + 1) := by
  obtain ⟨h1, h2, h3, h4, h5⟩ := h
  have hp1 := hp.1
  have hp2 := hp.2
  have hq1 := hq.1
  have hq2 := hq.2
  rw [h2]
  have qa := hm.1 i (by omega)
  have qb := hmq.1 i (by omega)
  refine ⟨h1.trans (Fp.setC (Or.inr (Or.inr (Or.inr qa)))), h2, fun k hk => ?_, ?_, fun r hr w hw => ?_⟩
  · rw [setC_ne (by omega)]; exact h3 k hk
  · rw [setC_ne (by omega)]; exact h4
  · by_cases e : r = i
    · subst e
      rw [setC_at, k_take7_at _ _ w hw]
      exact h1.1 _ _ (by omega) (by omega) (by omega) (by omega)
    · rw [setC_ne (fun z => e (hm.2 r i (by omega) (by omega) z))]
      exact h5 r (by omega) w hw
theorem TkI.end {σ τ : Sg} {p q n : Nat} {f : Nat → Int32} (h : TkI σ τ p q n n) (hp : PP p) (hq : PP q) (hpq : q ≠ p) (hm : Pm σ p) (hr : Rp σ q f n) (h8 : n ≤ 8) : Pl σ (setC τ p (upd (upd (upd (τ.1 p) 3 (τ.1 q 3)) 4 (τ.1 q 4)) 5 (τ.1 q 5))) p f n := by
  obtain ⟨h1, h2, h3, h4, h5⟩ := h
  have hp1 := hp.1
  have hp2 := hp.2
  have hq1 := hq.1
  have hq2 := hq.2
  have eq0 : ∀ j, τ.1 q j = σ.1 q j := fun j => h1.1 _ _ (by omega) (by omega) (by omega) (by omega)
  refine ⟨⟨fun k hk => ?_, ?_, ?_, ?_, ?_, fun r hrn w hw => ?_⟩, hm.eq (fun j => by rw [show (setC τ p (upd (upd (upd (τ.1 p) 3 (τ.1 q 3)) 4 (τ.1 q 4)) 5 (τ.1 q 5))).2.2 = τ.2.2 from rfl, h2]), h1.trans (Fp.setC (Or.inl rfl))⟩
  · rw [setC_ne (by omega), h3 k hk]; exact hr.cl hk
  · rw [setC_at, updN (by decide), updN (by decide), updN (by decide)]; exact h4
  · rw [setC_at, updN (by decide), updN (by decide), updS, eq0]; exact hr.hr
  · rw [setC_at, updN (by decide), updS, eq0]; exact hr.st
  · rw [setC_at, updS, eq0]; exact hr.z
  · show (setC τ p _).1 (τ.2.2 (p + 11) r) w = rg f r w
    rw [h2]
    have qa := hm.1 r (by omega)
    rw [setC_ne (by omega), h5 r hrn w hw]
    exact hr.rd hrn w hw
set_option maxRecDepth 100000 in
set_option maxHeartbeats 800000 in
theorem q1_takeFrom (G : GT) (σ : Sg) (p q : Nat) (hp : PP p) (hq : PP q) (hpq : q ≠ p) {f : Nat → Int32} {n : Nat} (h : Rp σ q f n) (h8 : n ≤ 8) (hm : Pm σ p) (hmq : Pm σ q) : Ev G mX1_takeFrom [.ref p, .ref q] σ (fun v τ => v = none ∧ Pl σ τ p f n) := by
  have hp1 := hp.1
  have hp2 := hp.2
  have hq1 := hq.1
  have hq2 := hq.2
  have hq8 : q ≠ p + 8 := by omega
  have hp8 : p ≠ p + 8 := by omega
  have hqp8 : q + 8 ≠ p + 8 := by omega
  refine Ev.ofL (m := 1) (L := [some (.ref p), some (.ref q), none]) rfl (Nat.le_of_ble_eq_true rfl) rfl rfl ?_
  refine w_aload_n dX1_takeFrom_0 rfl ?_
  refine w_getR (t := (p + 8)) dX1_takeFrom_1 fl_X1_12 hp.kd.1 (by decide) (by decide) rfl ?_
  refine w_aload_n dX1_takeFrom_4 rfl ?_
  refine w_getR (t := (q + 8)) dX1_takeFrom_5 fl_X1_12 hq.kd.1 (by decide) (by decide) rfl ?_
  refine w_callVv dX1_takeFrom_8 ml_X1_42 mv_X0_takeFrom rfl hp.kd.2.1 (by decide) rfl (c0_takeFrom G _ (p + 8) (q + 8) hp.kd.2.1 hq.kd.2.1 hqp8) rfl rfl (Nat.le_of_ble_eq_true rfl) ?_
  try simp only [wI_C, setC_setC, setC_at, setC_ne hpq, setC_ne hq8, setC_ne hp8]
  refine w_aload_n dX1_takeFrom_11 rfl ?_
  refine w_aload_n dX1_takeFrom_12 rfl ?_
  refine w_getI dX1_takeFrom_13 fl_X1_25 hq.kd.1 rfl ?_
  refine w_putI dX1_takeFrom_16 fl_X1_25 hp.kd.1 rfl (by decide +kernel) ?_
  try simp only [wI_C, setC_setC, setC_at, setC_ne hpq, setC_ne hq8, setC_ne hp8]
  refine w_iconst dX1_takeFrom_19 ic_0 ?_
  refine w_istore_n dX1_takeFrom_20 (by decide) rfl rfl ?_
  dsimp only [List.set]
  have lp : ∀ (m : Nat) (i : Nat) (τ : Sg), n - i < m → i ≤ n → TkI σ τ p q n i → WP G mX1_takeFrom 21 [some (.ref p), some (.ref q), some (.int (nI i))] [] (τ) (fun v τ => v = none ∧ Pl σ τ p f n) := by
    intro m
    induction m with
    | zero => intro i τ hmz; exact absurd hmz (Nat.not_lt_zero _)
    | succ m ih =>
      intro i τ hmz hi ht
      refine w_iload_n dX1_takeFrom_21 rfl ?_
      refine w_aload_n dX1_takeFrom_22 rfl ?_
      refine w_getI dX1_takeFrom_23 fl_X1_25 hp.kd.1 rfl ?_
      refine w2_icmp_ge (t := 50) dX1_takeFrom_26 (by decide) (fun hz1 => ?_) (fun hz1 => ?_)
      · skip
        rw [ht.2.2.2.1] at hz1
        have hge := nlt_nI (by omega) (by omega) hz1
        have hen : i = n := by omega
        subst hen
        refine w_aload_n dX1_takeFrom_50 rfl ?_
        refine w_aload_n dX1_takeFrom_51 rfl ?_
        refine w_getI dX1_takeFrom_52 fl_X1_29 hq.kd.1 rfl ?_
        refine w_putI dX1_takeFrom_55 fl_X1_29 hp.kd.1 rfl (by decide +kernel) ?_
        try simp only [wI_C, setC_setC, setC_at, setC_ne hpq, setC_ne hq8, setC_ne hp8]
        refine w_aload_n dX1_takeFrom_58 rfl ?_
        refine w_aload_n dX1_takeFrom_59 rfl ?_
        refine w_getI dX1_takeFrom_60 fl_X1_32 hq.kd.1 rfl ?_
        refine w_putI dX1_takeFrom_63 fl_X1_32 hp.kd.1 rfl (by decide +kernel) ?_
        try simp only [wI_C, setC_setC, setC_at, setC_ne hpq, setC_ne hq8, setC_ne hp8]
        refine w_aload_n dX1_takeFrom_66 rfl ?_
        refine w_aload_n dX1_takeFrom_67 rfl ?_
        refine w_getI dX1_takeFrom_68 fl_X1_35 hq.kd.1 rfl ?_
        refine w_putI dX1_takeFrom_71 fl_X1_35 hp.kd.1 rfl (by decide +kernel) ?_
        try simp only [wI_C, setC_setC, setC_at, setC_ne hpq, setC_ne hq8, setC_ne hp8]
        refine w_vret dX1_takeFrom_74 rfl ?_
        exact ⟨rfl, ht.end hp hq hpq hm h h8⟩
      · skip
        rw [ht.2.2.2.1] at hz1
        have hlt := lt_nI (by omega) (by omega) hz1
        have ki : kd (τ.2.2 (p + 11) i) = 3 := by rw [ht.2.1]; exact hm.kd hp i (by omega)
        have kj : kd (τ.2.2 (q + 11) i) = 3 := by rw [ht.2.1]; exact hmq.kd hq i (by omega)
        have kij : τ.2.2 (q + 11) i ≠ τ.2.2 (p + 11) i := by
          rw [ht.2.1]
          have qa := hm.1 i (by omega)
          have qb := hmq.1 i (by omega)
          omega
        refine w_aload_n dX1_takeFrom_29 rfl ?_
        refine w_getR (t := (p + 11)) dX1_takeFrom_30 fl_X1_20 hp.kd.1 (by decide) (by decide) rfl ?_
        refine w_iload_n dX1_takeFrom_33 rfl ?_
        refine w_aald (j := i) dX1_takeFrom_34 hp.kd.2.2.1 rfl (by omega) ?_
        refine w_aload_n dX1_takeFrom_35 rfl ?_
        refine w_getR (t := (q + 11)) dX1_takeFrom_36 fl_X1_20 hq.kd.1 (by decide) (by decide) rfl ?_
        refine w_iload_n dX1_takeFrom_39 rfl ?_
        refine w_aald (j := i) dX1_takeFrom_40 hq.kd.2.2.1 rfl (by omega) ?_
        refine w_callVv dX1_takeFrom_41 ml_X1_46 mv_X3_takeFrom rfl ki (by decide) rfl (c3_takeFrom G _ _ _ ki kj kij) rfl rfl (Nat.le_of_ble_eq_true rfl) ?_
        try simp only [wI_C, setC_setC, setC_at, setC_ne hpq, setC_ne hq8, setC_ne hp8]
        refine w_iincN (a := i) (b := 1) dX1_takeFrom_44 rfl ic_1 (by decide) rfl rfl ?_
        dsimp only [List.set]
        refine w_goto (t := 21) dX1_takeFrom_47 (by decide) ?_
        exact ih (i + 1) _ (by omega) (by omega) (ht.step hp hq hpq hm hmq hlt h8)
  refine lp (n + 1) 0 _ (by omega) (by omega) ⟨(Fp.setC (Or.inr (Or.inl rfl))).trans (Fp.setC (Or.inl rfl)), rfl, fun k hk => ?_, ?_, fun r hr => absurd hr (Nat.not_lt_zero r)⟩
  · rw [setC_ne (by omega), setC_at]
    exact k_take5_at _ _ k hk
  · rw [setC_at, updS]
    exact h.n
/-! a rod comes down -/
def setP (σ : Sg) (c : Nat) (g : Nat → Nat) : Sg := (σ.1, σ.2.1, fun d j => if d = c then g j else σ.2.2 d j)
theorem wP_P (σ : Sg) (c j v : Nat) : wP σ c j v = setP σ c (fun k => if k = j then v else σ.2.2 c k) := by
  unfold wP setP
  simp only [Prod.mk.injEq, true_and]
  funext d k
  by_cases h : d = c
  · subst h
    simp
  · simp [h]
theorem setP_at (σ : Sg) (c : Nat) (g : Nat → Nat) : (setP σ c g).2.2 c = g := by
  funext j
  simp [setP]
theorem setP_setP (σ : Sg) (c : Nat) (g g' : Nat → Nat) : setP (setP σ c g) c g' = setP σ c g' := by
  unfold setP
  simp only [Prod.mk.injEq, true_and]
  funext d j
  by_cases h : d = c <;> simp [h]
theorem setP_self (σ : Sg) (c : Nat) : setP σ c (σ.2.2 c) = σ := by
  obtain ⟨a, b, d⟩ := σ
  unfold setP
  simp only [Prod.mk.injEq, true_and]
  funext d j
  by_cases h : d = c <;> simp [h]
def dnP (g : Nat → Nat) (k i : Nat) : Nat → Nat := fun j => if k ≤ j ∧ j < i then g (j + 1) else g j
theorem dnP_0 (g : Nat → Nat) (k : Nat) : dnP g k k = g := by
  funext j
  unfold dnP
  rw [if_neg (by omega)]
theorem dnP_s (g : Nat → Nat) {k i : Nat} (h : k ≤ i) : (fun j => if j = i then dnP g k i (i + 1) else dnP g k i j) = dnP g k (i + 1) := by
  funext j
  unfold dnP
  by_cases e : j = i
  · subst e
    rw [if_pos rfl, if_neg (by omega), if_pos (by omega)]
  · rw [if_neg e]
    by_cases z : k ≤ j ∧ j < i
    · rw [if_pos z, if_pos (by omega)]
    · rw [if_neg z, if_neg (by omega)]
/-- where a rod's place comes from, when k comes down -/
def dnS (k n j : Nat) : Nat := if j = n - 1 then k else if k ≤ j ∧ j < n - 1 then j + 1 else j
theorem dnS_eq (g : Nat → Nat) (k n : Nat) : (fun j => if j = n - 1 then g k else dnP g k (n - 1) j) = fun j => g (dnS k n j) := by
  funext j
  unfold dnP dnS
  by_cases e : j = n - 1
  · rw [if_pos e, if_pos e]
  · rw [if_neg e, if_neg e]
    by_cases z : k ≤ j ∧ j < n - 1
    · rw [if_pos z, if_pos z]
    · rw [if_neg z, if_neg z]
theorem dnS_lt {k n j : Nat} (hk : k < n) (h8 : n ≤ 8) (hj : j < 8) : dnS k n j < 8 := by
  unfold dnS
  split
  · omega
  · split <;> omega
theorem dnS_inj {k n i j : Nat} (hk : k < n) (h8 : n ≤ 8) (h : dnS k n i = dnS k n j) : i = j := by
  unfold dnS at h
  split at h
  · split at h
    · omega
    · split at h <;> omega
  · split at h
    · split at h
      · omega
      · split at h <;> omega
    · split at h
      · omega
      · split at h <;> omega
theorem down_end {σ : Sg} {p n k : Nat} {f : Nat → Int32} (h : Rp σ p f n) (hp : PP p) (hm : Pm σ p) (h8 : n ≤ 8) (hk : k < n) : Pl σ (setP (setC σ p (upd (σ.1 p) 2 (nI (n - 1)))) (p + 11) (fun j => σ.2.2 (p + 11) (dnS k n j))) p (p_down f n k) (n - 1) := by
  have hp1 := hp.1
  have hp2 := hp.2
  have e1 : (setP (setC σ p (upd (σ.1 p) 2 (nI (n - 1)))) (p + 11) (fun j => σ.2.2 (p + 11) (dnS k n j))).1 p = upd (σ.1 p) 2 (nI (n - 1)) := setC_at σ p _
  have lo : ∀ j, j < 8 → p_down f n k j = f j := fun j hj => by
    unfold p_down
    rw [if_neg (by omega), if_neg (by omega)]
  refine ⟨⟨fun j hj => ?_, by rw [e1, updS], by rw [e1, updN (by decide), lo 5 (by decide)]; exact h.hr, by rw [e1, updN (by decide), lo 6 (by decide)]; exact h.st, by rw [e1, updN (by decide), lo 7 (by decide)]; exact h.z, fun r hr w hw => ?_⟩, ⟨fun r hr => ?_, fun r s hr hs e => ?_⟩, fun c j h1 h2 h3 h4 => ?_, Eq.refl _, fun c j hc => ?_⟩
  · show (setC σ p _).1 (p + 8) j = _
    rw [setC_ne (by omega), lo j (by omega)]
    exact h.cl hj
  · rw [setP_at]
    have q0 := hm.1 (dnS k n r) (dnS_lt hk h8 (by omega))
    show (setC σ p _).1 (σ.2.2 (p + 11) (dnS k n r)) w = _
    rw [setC_ne (by omega)]
    have e : dnS k n r = if k ≤ r then r + 1 else r := by
      unfold dnS
      rw [if_neg (by omega)]
      by_cases z : k ≤ r
      · rw [if_pos ⟨z, hr⟩, if_pos z]
      · rw [if_neg (fun y => z y.1), if_neg z]
    by_cases z : k ≤ r
    · rw [if_pos z] at e
      rw [e, h.rd (by omega) w hw]
      unfold rg p_down
      rw [if_neg (by omega), if_pos (by omega)]
      congr 1
      omega
    · rw [if_neg z] at e
      rw [e, h.rd (by omega) w hw]
      unfold rg p_down
      rw [if_neg (by omega), if_neg (by omega)]
  · rw [setP_at]
    exact hm.1 _ (dnS_lt hk h8 hr)
  · rw [setP_at] at e
    exact dnS_inj hk h8 (hm.2 _ _ (dnS_lt hk h8 hr) (dnS_lt hk h8 hs) e)
  · show (setC σ p _).1 c j = _
    rw [setC_ne h1]
  · show (if c = p + 11 then _ else σ.2.2 c j) = _
    rw [if_neg hc]
theorem setP_C (σ : Sg) (c d : Nat) (g : Nat → Nat) (f : Nat → Int32) : setC (setP σ c g) d f = setP (setC σ d f) c g := rfl
theorem setP_1 (σ : Sg) (c : Nat) (g : Nat → Nat) : (setP σ c g).1 = σ.1 := rfl
theorem setC_22 (σ : Sg) (c : Nat) (f : Nat → Int32) : (setC σ c f).2.2 = σ.2.2 := rfl
set_option maxRecDepth 100000 in
set_option maxHeartbeats 800000 in
theorem q1_takeDown (G : GT) (σ : Sg) (p : Nat) (hp : PP p) {f : Nat → Int32} {n : Nat} (h : Rp σ p f n) (h8 : n ≤ 8) (hm : Pm σ p) (k : Nat) (hk : k < n) : Ev G mX1_takeDown [.ref p, .int (nI k)] σ (fun v τ => v = none ∧ Pl σ τ p (p_down f n k) (n - 1)) := by
  have hn1 : nI n - 1 = nI (n - 1) := by
    obtain ⟨m, rfl⟩ : ∃ m, n = m + 1 := ⟨n - 1, by omega⟩
    exact nI_pred m
  refine Ev.ofL (m := 2) (L := [some (.ref p), some (.int (nI k)), none, none]) rfl (Nat.le_of_ble_eq_true rfl) rfl rfl ?_
  refine w_aload_n dX1_takeDown_0 rfl ?_
  refine w_getR (t := (p + 11)) dX1_takeDown_1 fl_X1_20 hp.kd.1 (by decide) (by decide) rfl ?_
  refine w_iload_n dX1_takeDown_4 rfl ?_
  refine w_aald (j := k) dX1_takeDown_5 hp.kd.2.2.1 rfl (by omega) ?_
  refine w_astore_n dX1_takeDown_6 (by decide) rfl rfl ?_
  dsimp only [List.set]
  refine w_iload_n dX1_takeDown_7 rfl ?_
  refine w_istore_n dX1_takeDown_8 (by decide) rfl rfl ?_
  dsimp only [List.set]
  have lp : ∀ (m : Nat) (i : Nat), n - i < m → k ≤ i → i ≤ n - 1 → WP G mX1_takeDown 9 [some (.ref p), some (.int (nI k)), some (.ref (σ.2.2 (p + 11) k)), some (.int (nI i))] [] (setP σ (p + 11) (dnP (σ.2.2 (p + 11)) k i)) (fun v τ => v = none ∧ Pl σ τ p (p_down f n k) (n - 1)) := by
    intro m
    induction m with
    | zero => intro i hmz; exact absurd hmz (Nat.not_lt_zero _)
    | succ m ih =>
      intro i hmz hki hi
      refine w_iload_n dX1_takeDown_9 rfl ?_
      refine w_aload_n dX1_takeDown_10 rfl ?_
      refine w_getI dX1_takeDown_11 fl_X1_25 hp.kd.1 rfl ?_
      refine w_iconst dX1_takeDown_14 ic_1 ?_
      refine w_isub dX1_takeDown_15 ?_
      refine w_eqi (show _ = nI (n - 1) from (congrArg (fun z => z - 1) h.n).trans hn1) ?_
      · skip
        refine w2_icmp_ge (t := 39) dX1_takeDown_16 (by decide) (fun hz1 => ?_) (fun hz1 => ?_)
        · skip
          have hge := nlt_nI (by omega) (by omega) hz1
          have hen : i = n - 1 := by omega
          subst hen
          refine w_aload_n dX1_takeDown_39 rfl ?_
          refine w_dup dX1_takeDown_40 rfl ?_
          refine w_getI dX1_takeDown_41 fl_X1_25 hp.kd.1 rfl ?_
          refine w_iconst dX1_takeDown_44 ic_1 ?_
          refine w_isub dX1_takeDown_45 ?_
          refine w_eqi (show _ = nI (n - 1) from (congrArg (fun z => z - 1) h.n).trans hn1) ?_
          · skip
            refine w_putI dX1_takeDown_46 fl_X1_25 hp.kd.1 rfl (by decide +kernel) ?_
            refine w_aload_n dX1_takeDown_49 rfl ?_
            refine w_getR (t := (p + 11)) dX1_takeDown_50 fl_X1_20 hp.kd.1 (by decide) (by decide) rfl ?_
            refine w_aload_n dX1_takeDown_53 rfl ?_
            refine w_getI dX1_takeDown_54 fl_X1_25 hp.kd.1 rfl ?_
            rw [wI_C, setP_C]
            refine w_eqi (show _ = nI (n - 1) from by rw [setP_1, setC_at, updS]) ?_
            · skip
              refine w_aload_n dX1_takeDown_57 rfl ?_
              refine w_aast (j := n - 1) dX1_takeDown_58 hp.kd.2.2.1 (hm.kd hp k (by omega)) rfl (by omega) ?_
              refine w_vret dX1_takeDown_59 rfl ?_
              refine ⟨rfl, ?_⟩
              rw [wP_P, setP_setP, setP_at, setP_1, dnS_eq]
              exact down_end h hp hm h8 hk
        · skip
          have hlt := lt_nI (by omega) (by omega) hz1
          refine w_aload_n dX1_takeDown_19 rfl ?_
          refine w_getR (t := (p + 11)) dX1_takeDown_20 fl_X1_20 hp.kd.1 (by decide) (by decide) rfl ?_
          refine w_iload_n dX1_takeDown_23 rfl ?_
          refine w_aload_n dX1_takeDown_24 rfl ?_
          refine w_getR (t := (p + 11)) dX1_takeDown_25 fl_X1_20 hp.kd.1 (by decide) (by decide) rfl ?_
          refine w_iload_n dX1_takeDown_28 rfl ?_
          refine w_iconst dX1_takeDown_29 ic_1 ?_
          refine w_iaddN (a := i) (b := 1) dX1_takeDown_30 ?_
          refine w_aald (j := i + 1) dX1_takeDown_31 hp.kd.2.2.1 rfl (by omega) ?_
          refine w_aast (j := i) dX1_takeDown_32 hp.kd.2.2.1 (show kd ((setP σ (p + 11) (dnP (σ.2.2 (p + 11)) k i)).2.2 (p + 11) (i + 1)) = 3 from by rw [setP_at]; unfold dnP; split <;> exact hm.kd hp _ (by omega)) rfl (by omega) ?_
          refine w_iincN (a := i) (b := 1) dX1_takeDown_33 rfl ic_1 (by decide) rfl rfl ?_
          dsimp only [List.set]
          refine w_goto (t := 9) dX1_takeDown_36 (by decide) ?_
          rw [wP_P, setP_setP, setP_at, dnP_s _ hki]
          exact ih (i + 1) (by omega) (by omega) (by omega)
  have q0 := lp (n + 1) k (by omega) (by omega) (by omega)
  rw [dnP_0, setP_self] at q0
  exact q0
