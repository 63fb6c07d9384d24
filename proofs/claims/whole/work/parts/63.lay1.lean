/-! the class reads a plain into its ghost -/
def TxF (σ τ : Sg) : Prop := (∀ c j, c ≠ 4 → c ≠ 2 → c ≠ 10 → c ≠ 16 → ¬ (34 ≤ c ∧ c < 42) → τ.1 c j = σ.1 c j) ∧ τ.2.1 = σ.2.1 ∧ ∀ c j, c ≠ 13 → τ.2.2 c j = σ.2.2 c j
theorem TxF.rfl {σ : Sg} : TxF σ σ := ⟨fun _ _ _ _ _ _ _ => Eq.refl _, Eq.refl _, fun _ _ _ => Eq.refl _⟩
theorem TxF.trans {a b c : Sg} (h : TxF a b) (k : TxF b c) : TxF a c := ⟨fun x j h1 h2 h3 h4 h5 => (k.1 x j h1 h2 h3 h4 h5).trans (h.1 x j h1 h2 h3 h4 h5), k.2.1.trans h.2.1, fun x j hx => (k.2.2 x j hx).trans (h.2.2 x j hx)⟩
theorem TxF.tc {σ τ : Sg} (h : Tc σ τ) : TxF σ τ := ⟨fun c j h1 _ _ _ _ => h.1 c j h1, by rw [h.2], fun c j _ => by rw [h.2]⟩
theorem TxF.fp {σ τ : Sg} (h : Fp 2 σ τ) : TxF σ τ := ⟨fun c j _ h2 h3 h4 h5 => h.1 c j h2 h3 h4 (by omega), h.2.1, fun c j hc => h.2.2 c j hc⟩
theorem TS.tx {σ τ : Sg} {g : Nat → Int32} {t : Nat} (h : TS σ g t) (k : TxF σ τ) : TS τ g t := h.oth (fun j => k.1 5 j (by decide) (by decide) (by decide) (by decide) (by omega)) (fun j => k.1 8 j (by decide) (by decide) (by decide) (by decide) (by omega))
/-- the reader stands at the token behind p -/
def XS (σ0 τ : Sg) (g : Nat → Int32) (t p : Nat) : Prop := TxF σ0 τ ∧ Pm τ 2 ∧ CkQ τ g t p ∧ p ≤ t
theorem XS.tc {σ0 σ τ : Sg} {g : Nat → Int32} {t p q : Nat} (h : XS σ0 σ g t p) (k : Tc σ τ) (hc : CkQ τ g t q) (hq : q ≤ t) : XS σ0 τ g t q := ⟨h.1.trans (TxF.tc k), h.2.1.eq (fun j => by rw [k.2]), hc, hq⟩
theorem XS.pl {σ0 σ τ : Sg} {g : Nat → Int32} {t p n : Nat} {f : Nat → Int32} (h : XS σ0 σ g t p) (k : Pl σ τ 2 f n) : XS σ0 τ g t p := ⟨h.1.trans (TxF.fp k.2.2), k.2.1, h.2.2.1.oth (fun j => k.2.2.1 4 j (by decide) (by decide) (by decide) (by decide)), h.2.2.2⟩
theorem Rp.tc {σ τ : Sg} {f : Nat → Int32} {n : Nat} (h : Rp σ 2 f n) (hm : Pm σ 2) (h8 : n ≤ 8) (k : Tc σ τ) : Rp τ 2 f n := by
  refine h.same (funext fun j => k.1 2 j (by decide)) (funext fun j => k.1 10 j (by decide)) (fun j => by rw [k.2]) (fun r hr => funext fun j => k.1 _ j ?_)
  have q0 := hm.1 r (by omega)
  omega
/-- an item's end -/
def LQ (σ0 : Sg) (g : Nat → Int32) (t : Nat) (y : PS) : Option Value → Sg → Prop := fun v τ => v = some (.int y.2.1) ∧ XS σ0 τ g t y.2.2 ∧ (¬ y.2.1 = 0 → ∃ m, RV y.1 m ∧ Rp τ 2 y.1 m)
theorem LQ.bad {σ0 τ : Sg} {g f : Nat → Int32} {t q : Nat} {y : PS} (h : y = (f, 0, q)) (hx : XS σ0 τ g t q) : LQ σ0 g t y (some (.int 0)) τ := by
  subst h
  exact ⟨rfl, hx, fun z => absurd rfl z⟩
theorem LQ.ok {σ0 τ : Sg} {g f : Nat → Int32} {t q m : Nat} {y : PS} (h : y = (f, 1, q)) (hx : XS σ0 τ g t q) (hv : RV f m) (hr : Rp τ 2 f m) : LQ σ0 g t y (some (.int 1)) τ := by
  subst h
  exact ⟨rfl, hx, fun _ => ⟨m, hv, hr⟩⟩
theorem add_h (f : Nat → Int32) (n : Nat) (a b c d e v : Int32) : upd (p_add f n a b c d e) (9 + 7 * n + 2) v = p_add f n a b v d e := by
  funext j
  by_cases z : j = 9 + 7 * n + 2
  · subst z
    rw [updS]
    exact (p_add_rod f n a b v d e).2.2.1.symm
  · rw [updN z]
    unfold p_add upd
    by_cases z8 : j = 8 <;> by_cases z6 : j = 9 + 7 * n + 6 <;> by_cases z5 : j = 9 + 7 * n + 5 <;> by_cases z4 : j = 9 + 7 * n + 4 <;> by_cases z3 : j = 9 + 7 * n + 3 <;> simp [z, z8, z6, z5, z4, z3]
theorem add_f (f : Nat → Int32) (n : Nat) (a b c d e v : Int32) : upd (p_add f n a b c d e) (9 + 7 * n + 3) v = p_add f n a b c v e := by
  funext j
  by_cases z : j = 9 + 7 * n + 3
  · subst z
    rw [updS]
    exact (p_add_rod f n a b c v e).2.2.2.1.symm
  · rw [updN z]
    unfold p_add upd
    by_cases z8 : j = 8 <;> by_cases z6 : j = 9 + 7 * n + 6 <;> by_cases z5 : j = 9 + 7 * n + 5 <;> by_cases z4 : j = 9 + 7 * n + 4 <;> simp [z, z8, z6, z5, z4]
theorem add_t (f : Nat → Int32) (n : Nat) (a b c d e v : Int32) : upd (p_add f n a b c d e) (9 + 7 * n + 4) v = p_add f n a b c d v := by
  funext j
  by_cases z : j = 9 + 7 * n + 4
  · subst z
    rw [updS]
    exact (p_add_rod f n a b c d v).2.2.2.2.1.symm
  · rw [updN z]
    unfold p_add upd
    by_cases z8 : j = 8 <;> by_cases z6 : j = 9 + 7 * n + 6 <;> by_cases z5 : j = 9 + 7 * n + 5 <;> simp [z, z8, z6, z5]
theorem val_e {τ : Sg} {g : Nat → Int32} {t q : Nat} {a b : Int32} (hc : CkQ τ g t q) (hq : q ≤ t) (h : ¬ isN g t q a b = 0) (hb : b.toInt ≤ 999) : τ.1 4 4 = tkV g t q := by
  obtain ⟨h1, h2⟩ := isN_2 h
  rw [hc.2.2.2 h1, (ckV_in hq h1 hb).2 h2]
theorem val_B {g : Nat → Int32} {t q : Nat} {a b : Int32} (h : ¬ isN g t q a b = 0) : iB (tkV g t q) a.toInt b.toInt := iB.in (isN_2 h).2
set_option maxRecDepth 100000 in
set_option maxHeartbeats 800000 in
theorem k_layRod (G : GT) (σ : Sg) (σ0 : Sg) (g : Nat → Int32) (t p : Nat) (hT : TS σ0 g t) (hX : XS σ0 σ g t p) (f : Nat → Int32) (n : Nat) (hR : Rp σ 2 f n) (hv : RV f n) (kx : Int32) (hkx : iB kx 0 5) : Ev G mX2_layRod [.ref 4, .ref 2, .int kx] σ (LQ σ0 g t (r_rod g t f n kx p)) := by
  have h8 := hv.le
  refine Ev.ofL (m := 1) (L := [some (.ref 4), some (.ref 2), some (.int kx), none]) rfl (Nat.le_of_ble_eq_true rfl) rfl rfl ?_
  refine w_aload_n dX2_layRod_0 rfl ?_
  refine w_callVi dX2_layRod_1 ml_X2_75 mv_X1_isFull rfl rfl (by decide) rfl (q1_isFull G _ 2 pp2 hR h8 hX.2.1) rfl rfl (Nat.le_of_ble_eq_true rfl) ?_
  refine w_if_eq (t := 9) dX2_layRod_4 (by decide) (fun hz1 => ?_) (fun hz1 => ?_)
  · skip
    have hlt : n < 8 := Classical.byContradiction fun z => by
      have y := hz1
      rw [if_neg z] at y
      cases y
    refine w_aload_n dX2_layRod_9 rfl ?_
    refine w_callVqv dX2_layRod_10 ml_X2_31 mv_X2_goToToken rfl rfl (by decide) rfl (k_goTo G _ g t (tkE g t p) (hT.tx hX.1) (tkE_le hX.2.2.2) hX.2.2.1.2.2.1) rfl rfl (Nat.le_of_ble_eq_true rfl) (fun τ1 h1 => ?_)
    have hX1 : XS σ0 τ1 g t (tkE g t p) := hX.tc h1.1 h1.2 (tkE_le hX.2.2.2)
    refine w_aload_n dX2_layRod_13 rfl ?_
    refine w_ldcS (i := 3) (by decide) dX2_layRod_14 rfl ?_
    refine w_callVqi dX2_layRod_16 ml_X2_52 mv_X2_takeWord rfl rfl (by decide) rfl (k_takeWord G _ g t (tkE g t p) (hT.tx hX1.1) hX1.2.2.2 hX1.2.2.1 3 (by decide)) rfl rfl (Nat.le_of_ble_eq_true rfl) (fun τ2 h2 => ?_)
    refine w_if_eq (t := 32) dX2_layRod_19 (by decide) (fun hz2 => ?_) (fun hz2 => ?_)
    · skip
      have hX2n : XS σ0 τ2 g t (tkE g t p) := hX1.tc h2.1 (by have q0 := h2.2; rw [if_pos hz2] at q0; exact q0) hX1.2.2.2
      refine w_iconst dX2_layRod_32 ic_0 ?_
      refine w_zret dX2_layRod_33 rfl rfl ?_
      exact LQ.bad (f := f) (by simp only [r_rod, r_hi, r_fr, eq_true hlt, eq_true (show t_is g t (tkE g t p) 47 = 0 from hz2), if_true, if_false]) hX2n
    · skip
      have hX2 : XS σ0 τ2 g t (tkE g t (tkE g t p)) := hX1.tc h2.1 (by have q0 := h2.2; rw [if_neg hz2] at q0; exact q0) (tkE_le hX1.2.2.2)
      have hR2 : Rp τ2 2 f n := (hR.tc hX.2.1 h8 h1.1).tc hX1.2.1 h8 h2.1
      refine w_aload_n dX2_layRod_22 rfl ?_
      refine w_iconst dX2_layRod_23 ic_0 ?_
      refine w_bipush dX2_layRod_24 bp_15 ?_
      refine w_callVi dX2_layRod_26 ml_X2_81 mv_X2_isNumber rfl rfl (by decide) rfl (k_isNumber G _ g t (tkE g t (tkE g t p)) (hT.tx hX2.1) hX2.2.2.2 hX2.2.2.1 _ _ (by decide)) rfl rfl (Nat.le_of_ble_eq_true rfl) ?_
      refine w_if_ne (t := 34) dX2_layRod_29 (by decide) (fun hz3 => ?_) (fun hz3 => ?_)
      · skip
        refine w_aload_n dX2_layRod_34 rfl ?_
        refine w_iload_n dX2_layRod_35 rfl ?_
        refine w_aload_n dX2_layRod_36 rfl ?_
        refine w_callVqi dX2_layRod_37 ml_X2_85 mv_X2_takeNumber rfl rfl (by decide) rfl (k_takeNumber G _ g t (tkE g t (tkE g t p)) (hT.tx hX2.1) hX2.2.2.2 hX2.2.2.1) rfl rfl (Nat.le_of_ble_eq_true rfl) (fun τ3 h3 => ?_)
        have ev2 := val_e hX2.2.2.1 hX2.2.2.2 hz3 (by decide)
        refine w_eqi ev2 ?_
        have hX3 : XS σ0 τ3 g t (tkE g t (tkE g t (tkE g t p))) := hX2.tc h3.1 h3.2 (tkE_le hX2.2.2.2)
        have hR3 : Rp τ3 2 f n := hR2.tc hX2.2.1 h8 h3.1
        refine w_callVqr dX2_layRod_40 ml_X2_88 mv_X1_add rfl rfl (by decide) rfl (q1_add G _ 2 pp2 hR3 hlt hX3.2.1 kx (tkV g t (tkE g t (tkE g t p)))) rfl rfl (Nat.le_of_ble_eq_true rfl) (fun τ4 h4 => ?_)
        have hX4 : XS σ0 τ4 g t (tkE g t (tkE g t (tkE g t p))) := hX3.pl h4.1
        have KO : kd (τ3.2.2 (2 + 11) n) = 3 := hX3.2.1.kd pp2 n (by omega)
        refine w_astore_n dX2_layRod_43 (by decide) rfl rfl ?_
        dsimp only [List.set]
        refine w_aload_n dX2_layRod_44 rfl ?_
        refine w_ldcS (i := 4) (by decide) dX2_layRod_45 rfl ?_
        refine w_callVqi dX2_layRod_47 ml_X2_52 mv_X2_takeWord rfl rfl (by decide) rfl (k_takeWord G _ g t (tkE g t (tkE g t (tkE g t p))) (hT.tx hX4.1) hX4.2.2.2 hX4.2.2.1 4 (by decide)) rfl rfl (Nat.le_of_ble_eq_true rfl) (fun τ5 h5 => ?_)
        refine w_if_eq (t := 73) dX2_layRod_50 (by decide) (fun hz4 => ?_) (fun hz4 => ?_)
        · skip
          have hX7 : XS σ0 τ5 g t (tkE g t (tkE g t (tkE g t p))) := hX4.tc h5.1 (by have q0 := h5.2; rw [if_pos hz4] at q0; exact q0) hX4.2.2.2
          have hR7 : Rp τ5 2 (p_add f n kx (tkV g t (tkE g t (tkE g t p))) 10 0 0) (n + 1) := h4.1.1.tc hX4.2.1 (by omega) h5.1
          have e722 : τ5.2.2 = τ3.2.2 := by rw [h5.1.2]; exact h4.2
          refine w_aload_n dX2_layRod_73 rfl ?_
          refine w_ldcS (i := 5) (by decide) dX2_layRod_74 rfl ?_
          refine w_callVqi dX2_layRod_76 ml_X2_52 mv_X2_takeWord rfl rfl (by decide) rfl (k_takeWord G _ g t (tkE g t (tkE g t (tkE g t p))) (hT.tx hX7.1) hX7.2.2.2 hX7.2.2.1 5 (by decide)) rfl rfl (Nat.le_of_ble_eq_true rfl) (fun τ8 h8x => ?_)
          refine w_if_eq (t := 131) dX2_layRod_79 (by decide) (fun hz5 => ?_) (fun hz5 => ?_)
          · skip
            have hX8n : XS σ0 τ8 g t (tkE g t (tkE g t (tkE g t p))) := hX7.tc h8x.1 (by have q0 := h8x.2; rw [if_pos hz5] at q0; exact q0) hX7.2.2.2
            have hR8 := hR7.tc hX7.2.1 (by omega) h8x.1
            refine w_iconst dX2_layRod_131 ic_1 ?_
            refine w_zret dX2_layRod_132 rfl rfl ?_
            exact LQ.ok (m := n + 1) (by simp only [r_rod, r_hi, r_fr, eq_true hlt, eq_false (show ¬ t_is g t (tkE g t p) 47 = 0 from hz2), eq_false (show ¬ isN g t (tkE g t (tkE g t p)) 0 15 = 0 from hz3), eq_true (show t_is g t (tkE g t (tkE g t (tkE g t p))) 164222 = 0 from hz4), eq_true (show t_is g t (tkE g t (tkE g t (tkE g t p))) 131638 = 0 from hz5), if_true, if_false]) hX8n (hv.add hlt hkx (val_B hz3) (show iB (10 : Int32) 0 60 from iB.of (k := 10) (b := 60) (by decide) (by decide)) (iB_0 (b := 23) (by decide)) (iB_0 (b := 23) (by decide))) hR8
          · skip
            have hX8y : XS σ0 τ8 g t (tkE g t (tkE g t (tkE g t (tkE g t p)))) := hX7.tc h8x.1 (by have q0 := h8x.2; rw [if_neg hz5] at q0; exact q0) (tkE_le hX7.2.2.2)
            have hR8 := hR7.tc hX7.2.1 (by omega) h8x.1
            refine w_aload_n dX2_layRod_82 rfl ?_
            refine w_iconst dX2_layRod_83 ic_0 ?_
            refine w_bipush dX2_layRod_84 bp_23 ?_
            refine w_callVi dX2_layRod_86 ml_X2_81 mv_X2_isNumber rfl rfl (by decide) rfl (k_isNumber G _ g t (tkE g t (tkE g t (tkE g t (tkE g t p)))) (hT.tx hX8y.1) hX8y.2.2.2 hX8y.2.2.1 _ _ (by decide)) rfl rfl (Nat.le_of_ble_eq_true rfl) ?_
            refine w_if_ne (t := 94) dX2_layRod_89 (by decide) (fun hz6 => ?_) (fun hz6 => ?_)
            · skip
              refine w_aload_n dX2_layRod_94 rfl ?_
              refine w_aload_n dX2_layRod_95 rfl ?_
              refine w_callVqi dX2_layRod_96 ml_X2_85 mv_X2_takeNumber rfl rfl (by decide) rfl (k_takeNumber G _ g t (tkE g t (tkE g t (tkE g t (tkE g t p)))) (hT.tx hX8y.1) hX8y.2.2.2 hX8y.2.2.1) rfl rfl (Nat.le_of_ble_eq_true rfl) (fun τ9 h9 => ?_)
              have ev8 := val_e hX8y.2.2.1 hX8y.2.2.2 hz6 (by decide)
              refine w_eqi ev8 ?_
              have hX9o : XS σ0 τ9 g t (tkE g t (tkE g t (tkE g t (tkE g t (tkE g t p))))) := hX8y.tc h9.1 h9.2 (tkE_le hX8y.2.2.2)
              have hR9 := hR8.tc hX8y.2.1 (by omega) h9.1
              have e922b : τ9.2.2 = τ3.2.2 := by rw [h9.1.2, h8x.1.2]; exact e722
              have e922 : τ9.2.2 (2 + 11) n = τ3.2.2 (2 + 11) n := by rw [e922b]
              refine w_putI dX2_layRod_99 fl_X2_101 KO rfl (by decide +kernel) ?_
              have hP9 : Pl τ9 (wI τ9 (τ3.2.2 (2 + 11) n) 3 (tkV g t (tkE g t (tkE g t (tkE g t (tkE g t p)))))) 2 (p_add f n kx (tkV g t (tkE g t (tkE g t p))) 10 (tkV g t (tkE g t (tkE g t (tkE g t (tkE g t p))))) 0) (n + 1) := by
                have q0 := Pl.rodw (w := 3) (k := n) (v := (tkV g t (tkE g t (tkE g t (tkE g t (tkE g t p)))))) hR9 pp2 hX9o.2.1 (by omega) (by omega) (by decide)
                rw [add_f, e922] at q0
                exact q0
              have hX9 : XS σ0 (wI τ9 (τ3.2.2 (2 + 11) n) 3 (tkV g t (tkE g t (tkE g t (tkE g t (tkE g t p)))))) g t (tkE g t (tkE g t (tkE g t (tkE g t (tkE g t p))))) := hX9o.pl hP9
              have hR9b := hP9.1
              have e9b : (wI τ9 (τ3.2.2 (2 + 11) n) 3 (tkV g t (tkE g t (tkE g t (tkE g t (tkE g t p)))))).2.2 = τ3.2.2 := e922b
              refine w_aload_n dX2_layRod_102 rfl ?_
              refine w_ldcS (i := 6) (by decide) dX2_layRod_103 rfl ?_
              refine w_callVqi dX2_layRod_105 ml_X2_52 mv_X2_takeWord rfl rfl (by decide) rfl (k_takeWord G _ g t (tkE g t (tkE g t (tkE g t (tkE g t (tkE g t p))))) (hT.tx hX9.1) hX9.2.2.2 hX9.2.2.1 6 (by decide)) rfl rfl (Nat.le_of_ble_eq_true rfl) (fun τa ha => ?_)
              refine w_if_eq (t := 121) dX2_layRod_108 (by decide) (fun hz7 => ?_) (fun hz7 => ?_)
              · skip
                have hXan : XS σ0 τa g t (tkE g t (tkE g t (tkE g t (tkE g t (tkE g t p))))) := hX9.tc ha.1 (by have q0 := ha.2; rw [if_pos hz7] at q0; exact q0) hX9.2.2.2
                refine w_iconst dX2_layRod_121 ic_0 ?_
                refine w_zret dX2_layRod_122 rfl rfl ?_
                exact LQ.bad (f := f) (by simp only [r_rod, r_hi, r_fr, eq_true hlt, eq_false (show ¬ t_is g t (tkE g t p) 47 = 0 from hz2), eq_false (show ¬ isN g t (tkE g t (tkE g t p)) 0 15 = 0 from hz3), eq_true (show t_is g t (tkE g t (tkE g t (tkE g t p))) 164222 = 0 from hz4), eq_false (show ¬ t_is g t (tkE g t (tkE g t (tkE g t p))) 131638 = 0 from hz5), eq_false (show ¬ isN g t (tkE g t (tkE g t (tkE g t (tkE g t p)))) 0 23 = 0 from hz6), eq_true (show t_is g t (tkE g t (tkE g t (tkE g t (tkE g t (tkE g t p))))) 555 = 0 from hz7), if_true, if_false]) hXan
              · skip
                have hXay : XS σ0 τa g t (tkE g t (tkE g t (tkE g t (tkE g t (tkE g t (tkE g t p)))))) := hX9.tc ha.1 (by have q0 := ha.2; rw [if_neg hz7] at q0; exact q0) (tkE_le hX9.2.2.2)
                have hRa := hR9b.tc hX9.2.1 (by omega) ha.1
                refine w_aload_n dX2_layRod_111 rfl ?_
                refine w_iconst dX2_layRod_112 ic_0 ?_
                refine w_bipush dX2_layRod_113 bp_23 ?_
                refine w_callVi dX2_layRod_115 ml_X2_81 mv_X2_isNumber rfl rfl (by decide) rfl (k_isNumber G _ g t (tkE g t (tkE g t (tkE g t (tkE g t (tkE g t (tkE g t p)))))) (hT.tx hXay.1) hXay.2.2.2 hXay.2.2.1 _ _ (by decide)) rfl rfl (Nat.le_of_ble_eq_true rfl) ?_
                refine w_if_ne (t := 123) dX2_layRod_118 (by decide) (fun hz8 => ?_) (fun hz8 => ?_)
                · skip
                  refine w_aload_n dX2_layRod_123 rfl ?_
                  refine w_aload_n dX2_layRod_124 rfl ?_
                  refine w_callVqi dX2_layRod_125 ml_X2_85 mv_X2_takeNumber rfl rfl (by decide) rfl (k_takeNumber G _ g t (tkE g t (tkE g t (tkE g t (tkE g t (tkE g t (tkE g t p)))))) (hT.tx hXay.1) hXay.2.2.2 hXay.2.2.1) rfl rfl (Nat.le_of_ble_eq_true rfl) (fun τb hb => ?_)
                  have eva := val_e hXay.2.2.1 hXay.2.2.2 hz8 (by decide)
                  refine w_eqi eva ?_
                  have hXb : XS σ0 τb g t (tkE g t (tkE g t (tkE g t (tkE g t (tkE g t (tkE g t (tkE g t p))))))) := hXay.tc hb.1 hb.2 (tkE_le hXay.2.2.2)
                  have hRb := hRa.tc hXay.2.1 (by omega) hb.1
                  have eb22 : τb.2.2 (2 + 11) n = τ3.2.2 (2 + 11) n := by rw [hb.1.2, ha.1.2, e9b]
                  refine w_putI dX2_layRod_128 fl_X2_105 KO rfl (by decide +kernel) ?_
                  have hPd : Pl τb (wI τb (τ3.2.2 (2 + 11) n) 4 (tkV g t (tkE g t (tkE g t (tkE g t (tkE g t (tkE g t (tkE g t p)))))))) 2 (p_add f n kx (tkV g t (tkE g t (tkE g t p))) 10 (tkV g t (tkE g t (tkE g t (tkE g t (tkE g t p))))) (tkV g t (tkE g t (tkE g t (tkE g t (tkE g t (tkE g t (tkE g t p)))))))) (n + 1) := by
                    have q0 := Pl.rodw (w := 4) (k := n) (v := (tkV g t (tkE g t (tkE g t (tkE g t (tkE g t (tkE g t (tkE g t p)))))))) hRb pp2 hXb.2.1 (by omega) (by omega) (by decide)
                    rw [add_t, eb22] at q0
                    exact q0
                  have hXd : XS σ0 (wI τb (τ3.2.2 (2 + 11) n) 4 (tkV g t (tkE g t (tkE g t (tkE g t (tkE g t (tkE g t (tkE g t p)))))))) g t (tkE g t (tkE g t (tkE g t (tkE g t (tkE g t (tkE g t (tkE g t p))))))) := hXb.pl hPd
                  have hRd := hPd.1
                  refine w_iconst dX2_layRod_131 ic_1 ?_
                  refine w_zret dX2_layRod_132 rfl rfl ?_
                  exact LQ.ok (m := n + 1) (by simp only [r_rod, r_hi, r_fr, eq_true hlt, eq_false (show ¬ t_is g t (tkE g t p) 47 = 0 from hz2), eq_false (show ¬ isN g t (tkE g t (tkE g t p)) 0 15 = 0 from hz3), eq_true (show t_is g t (tkE g t (tkE g t (tkE g t p))) 164222 = 0 from hz4), eq_false (show ¬ t_is g t (tkE g t (tkE g t (tkE g t p))) 131638 = 0 from hz5), eq_false (show ¬ isN g t (tkE g t (tkE g t (tkE g t (tkE g t p)))) 0 23 = 0 from hz6), eq_false (show ¬ t_is g t (tkE g t (tkE g t (tkE g t (tkE g t (tkE g t p))))) 555 = 0 from hz7), eq_false (show ¬ isN g t (tkE g t (tkE g t (tkE g t (tkE g t (tkE g t (tkE g t p)))))) 0 23 = 0 from hz8), if_true, if_false]) hXd (hv.add hlt hkx (val_B hz3) (show iB (10 : Int32) 0 60 from iB.of (k := 10) (b := 60) (by decide) (by decide)) (val_B hz6) (val_B hz8)) (hRd)
                · skip
                  skip
                  refine w_iconst dX2_layRod_121 ic_0 ?_
                  refine w_zret dX2_layRod_122 rfl rfl ?_
                  exact LQ.bad (f := f) (by simp only [r_rod, r_hi, r_fr, eq_true hlt, eq_false (show ¬ t_is g t (tkE g t p) 47 = 0 from hz2), eq_false (show ¬ isN g t (tkE g t (tkE g t p)) 0 15 = 0 from hz3), eq_true (show t_is g t (tkE g t (tkE g t (tkE g t p))) 164222 = 0 from hz4), eq_false (show ¬ t_is g t (tkE g t (tkE g t (tkE g t p))) 131638 = 0 from hz5), eq_false (show ¬ isN g t (tkE g t (tkE g t (tkE g t (tkE g t p)))) 0 23 = 0 from hz6), eq_false (show ¬ t_is g t (tkE g t (tkE g t (tkE g t (tkE g t (tkE g t p))))) 555 = 0 from hz7), eq_true (show isN g t (tkE g t (tkE g t (tkE g t (tkE g t (tkE g t (tkE g t p)))))) 0 23 = 0 from hz8), if_true, if_false]) hXay
            · skip
              refine w_iconst dX2_layRod_92 ic_0 ?_
              refine w_zret dX2_layRod_93 rfl rfl ?_
              exact LQ.bad (f := f) (by simp only [r_rod, r_hi, r_fr, eq_true hlt, eq_false (show ¬ t_is g t (tkE g t p) 47 = 0 from hz2), eq_false (show ¬ isN g t (tkE g t (tkE g t p)) 0 15 = 0 from hz3), eq_true (show t_is g t (tkE g t (tkE g t (tkE g t p))) 164222 = 0 from hz4), eq_false (show ¬ t_is g t (tkE g t (tkE g t (tkE g t p))) 131638 = 0 from hz5), eq_true (show isN g t (tkE g t (tkE g t (tkE g t (tkE g t p)))) 0 23 = 0 from hz6), if_true, if_false]) hX8y
        · skip
          have hX5y : XS σ0 τ5 g t (tkE g t (tkE g t (tkE g t (tkE g t p)))) := hX4.tc h5.1 (by have q0 := h5.2; rw [if_neg hz4] at q0; exact q0) (tkE_le hX4.2.2.2)
          have hR5 : Rp τ5 2 (p_add f n kx (tkV g t (tkE g t (tkE g t p))) 10 0 0) (n + 1) := h4.1.1.tc hX4.2.1 (by omega) h5.1
          refine w_aload_n dX2_layRod_53 rfl ?_
          refine w_iconst dX2_layRod_54 ic_0 ?_
          refine w_bipush dX2_layRod_55 bp_60 ?_
          refine w_callVi dX2_layRod_57 ml_X2_81 mv_X2_isNumber rfl rfl (by decide) rfl (k_isNumber G _ g t (tkE g t (tkE g t (tkE g t (tkE g t p)))) (hT.tx hX5y.1) hX5y.2.2.2 hX5y.2.2.1 _ _ (by decide)) rfl rfl (Nat.le_of_ble_eq_true rfl) ?_
          refine w_if_ne (t := 65) dX2_layRod_60 (by decide) (fun hz9 => ?_) (fun hz9 => ?_)
          · skip
            refine w_aload_n dX2_layRod_65 rfl ?_
            refine w_aload_n dX2_layRod_66 rfl ?_
            refine w_callVqi dX2_layRod_67 ml_X2_85 mv_X2_takeNumber rfl rfl (by decide) rfl (k_takeNumber G _ g t (tkE g t (tkE g t (tkE g t (tkE g t p)))) (hT.tx hX5y.1) hX5y.2.2.2 hX5y.2.2.1) rfl rfl (Nat.le_of_ble_eq_true rfl) (fun τ6 h6 => ?_)
            have ev5 := val_e hX5y.2.2.1 hX5y.2.2.2 hz9 (by decide)
            refine w_eqi ev5 ?_
            have hX6 : XS σ0 τ6 g t (tkE g t (tkE g t (tkE g t (tkE g t (tkE g t p))))) := hX5y.tc h6.1 h6.2 (tkE_le hX5y.2.2.2)
            have hR6 : Rp τ6 2 (p_add f n kx (tkV g t (tkE g t (tkE g t p))) 10 0 0) (n + 1) := hR5.tc hX5y.2.1 (by omega) h6.1
            have e6b : τ6.2.2 = τ3.2.2 := by rw [h6.1.2, h5.1.2]; exact h4.2
            have e622 : τ6.2.2 (2 + 11) n = τ3.2.2 (2 + 11) n := by rw [e6b]
            refine w_putI dX2_layRod_70 fl_X2_94 KO rfl (by decide +kernel) ?_
            have hP7 : Pl τ6 (wI τ6 (τ3.2.2 (2 + 11) n) 2 (tkV g t (tkE g t (tkE g t (tkE g t (tkE g t p)))))) 2 (p_add f n kx (tkV g t (tkE g t (tkE g t p))) (tkV g t (tkE g t (tkE g t (tkE g t (tkE g t p))))) 0 0) (n + 1) := by
              have q0 := Pl.rodw (w := 2) (k := n) (v := (tkV g t (tkE g t (tkE g t (tkE g t (tkE g t p)))))) hR6 pp2 hX6.2.1 (by omega) (by omega) (by decide)
              rw [add_h, e622] at q0
              exact q0
            have hX7 : XS σ0 (wI τ6 (τ3.2.2 (2 + 11) n) 2 (tkV g t (tkE g t (tkE g t (tkE g t (tkE g t p)))))) g t (tkE g t (tkE g t (tkE g t (tkE g t (tkE g t p))))) := hX6.pl hP7
            have hR7 := hP7.1
            have e722 : (wI τ6 (τ3.2.2 (2 + 11) n) 2 (tkV g t (tkE g t (tkE g t (tkE g t (tkE g t p)))))).2.2 = τ3.2.2 := e6b
            refine w_aload_n dX2_layRod_73 rfl ?_
            refine w_ldcS (i := 5) (by decide) dX2_layRod_74 rfl ?_
            refine w_callVqi dX2_layRod_76 ml_X2_52 mv_X2_takeWord rfl rfl (by decide) rfl (k_takeWord G _ g t (tkE g t (tkE g t (tkE g t (tkE g t (tkE g t p))))) (hT.tx hX7.1) hX7.2.2.2 hX7.2.2.1 5 (by decide)) rfl rfl (Nat.le_of_ble_eq_true rfl) (fun τ8 h8x => ?_)
            refine w_if_eq (t := 131) dX2_layRod_79 (by decide) (fun hz10 => ?_) (fun hz10 => ?_)
            · skip
              have hX8n : XS σ0 τ8 g t (tkE g t (tkE g t (tkE g t (tkE g t (tkE g t p))))) := hX7.tc h8x.1 (by have q0 := h8x.2; rw [if_pos hz10] at q0; exact q0) hX7.2.2.2
              have hR8 := hR7.tc hX7.2.1 (by omega) h8x.1
              refine w_iconst dX2_layRod_131 ic_1 ?_
              refine w_zret dX2_layRod_132 rfl rfl ?_
              exact LQ.ok (m := n + 1) (by simp only [r_rod, r_hi, r_fr, eq_true hlt, eq_false (show ¬ t_is g t (tkE g t p) 47 = 0 from hz2), eq_false (show ¬ isN g t (tkE g t (tkE g t p)) 0 15 = 0 from hz3), eq_false (show ¬ t_is g t (tkE g t (tkE g t (tkE g t p))) 164222 = 0 from hz4), eq_false (show ¬ isN g t (tkE g t (tkE g t (tkE g t (tkE g t p)))) 0 60 = 0 from hz9), eq_true (show t_is g t (tkE g t (tkE g t (tkE g t (tkE g t (tkE g t p))))) 131638 = 0 from hz10), if_true, if_false]) hX8n (hv.add hlt hkx (val_B hz3) (val_B hz9) (iB_0 (b := 23) (by decide)) (iB_0 (b := 23) (by decide))) hR8
            · skip
              have hX8y : XS σ0 τ8 g t (tkE g t (tkE g t (tkE g t (tkE g t (tkE g t (tkE g t p)))))) := hX7.tc h8x.1 (by have q0 := h8x.2; rw [if_neg hz10] at q0; exact q0) (tkE_le hX7.2.2.2)
              have hR8 := hR7.tc hX7.2.1 (by omega) h8x.1
              refine w_aload_n dX2_layRod_82 rfl ?_
              refine w_iconst dX2_layRod_83 ic_0 ?_
              refine w_bipush dX2_layRod_84 bp_23 ?_
              refine w_callVi dX2_layRod_86 ml_X2_81 mv_X2_isNumber rfl rfl (by decide) rfl (k_isNumber G _ g t (tkE g t (tkE g t (tkE g t (tkE g t (tkE g t (tkE g t p)))))) (hT.tx hX8y.1) hX8y.2.2.2 hX8y.2.2.1 _ _ (by decide)) rfl rfl (Nat.le_of_ble_eq_true rfl) ?_
              refine w_if_ne (t := 94) dX2_layRod_89 (by decide) (fun hz11 => ?_) (fun hz11 => ?_)
              · skip
                refine w_aload_n dX2_layRod_94 rfl ?_
                refine w_aload_n dX2_layRod_95 rfl ?_
                refine w_callVqi dX2_layRod_96 ml_X2_85 mv_X2_takeNumber rfl rfl (by decide) rfl (k_takeNumber G _ g t (tkE g t (tkE g t (tkE g t (tkE g t (tkE g t (tkE g t p)))))) (hT.tx hX8y.1) hX8y.2.2.2 hX8y.2.2.1) rfl rfl (Nat.le_of_ble_eq_true rfl) (fun τ9 h9 => ?_)
                have ev8 := val_e hX8y.2.2.1 hX8y.2.2.2 hz11 (by decide)
                refine w_eqi ev8 ?_
                have hX9o : XS σ0 τ9 g t (tkE g t (tkE g t (tkE g t (tkE g t (tkE g t (tkE g t (tkE g t p))))))) := hX8y.tc h9.1 h9.2 (tkE_le hX8y.2.2.2)
                have hR9 := hR8.tc hX8y.2.1 (by omega) h9.1
                have e922b : τ9.2.2 = τ3.2.2 := by rw [h9.1.2, h8x.1.2]; exact e722
                have e922 : τ9.2.2 (2 + 11) n = τ3.2.2 (2 + 11) n := by rw [e922b]
                refine w_putI dX2_layRod_99 fl_X2_101 KO rfl (by decide +kernel) ?_
                have hP9 : Pl τ9 (wI τ9 (τ3.2.2 (2 + 11) n) 3 (tkV g t (tkE g t (tkE g t (tkE g t (tkE g t (tkE g t (tkE g t p)))))))) 2 (p_add f n kx (tkV g t (tkE g t (tkE g t p))) (tkV g t (tkE g t (tkE g t (tkE g t (tkE g t p))))) (tkV g t (tkE g t (tkE g t (tkE g t (tkE g t (tkE g t (tkE g t p))))))) 0) (n + 1) := by
                  have q0 := Pl.rodw (w := 3) (k := n) (v := (tkV g t (tkE g t (tkE g t (tkE g t (tkE g t (tkE g t (tkE g t p)))))))) hR9 pp2 hX9o.2.1 (by omega) (by omega) (by decide)
                  rw [add_f, e922] at q0
                  exact q0
                have hX9 : XS σ0 (wI τ9 (τ3.2.2 (2 + 11) n) 3 (tkV g t (tkE g t (tkE g t (tkE g t (tkE g t (tkE g t (tkE g t p)))))))) g t (tkE g t (tkE g t (tkE g t (tkE g t (tkE g t (tkE g t (tkE g t p))))))) := hX9o.pl hP9
                have hR9b := hP9.1
                have e9b : (wI τ9 (τ3.2.2 (2 + 11) n) 3 (tkV g t (tkE g t (tkE g t (tkE g t (tkE g t (tkE g t (tkE g t p)))))))).2.2 = τ3.2.2 := e922b
                refine w_aload_n dX2_layRod_102 rfl ?_
                refine w_ldcS (i := 6) (by decide) dX2_layRod_103 rfl ?_
                refine w_callVqi dX2_layRod_105 ml_X2_52 mv_X2_takeWord rfl rfl (by decide) rfl (k_takeWord G _ g t (tkE g t (tkE g t (tkE g t (tkE g t (tkE g t (tkE g t (tkE g t p))))))) (hT.tx hX9.1) hX9.2.2.2 hX9.2.2.1 6 (by decide)) rfl rfl (Nat.le_of_ble_eq_true rfl) (fun τa ha => ?_)
                refine w_if_eq (t := 121) dX2_layRod_108 (by decide) (fun hz12 => ?_) (fun hz12 => ?_)
                · skip
                  have hXan : XS σ0 τa g t (tkE g t (tkE g t (tkE g t (tkE g t (tkE g t (tkE g t (tkE g t p))))))) := hX9.tc ha.1 (by have q0 := ha.2; rw [if_pos hz12] at q0; exact q0) hX9.2.2.2
                  refine w_iconst dX2_layRod_121 ic_0 ?_
                  refine w_zret dX2_layRod_122 rfl rfl ?_
                  exact LQ.bad (f := f) (by simp only [r_rod, r_hi, r_fr, eq_true hlt, eq_false (show ¬ t_is g t (tkE g t p) 47 = 0 from hz2), eq_false (show ¬ isN g t (tkE g t (tkE g t p)) 0 15 = 0 from hz3), eq_false (show ¬ t_is g t (tkE g t (tkE g t (tkE g t p))) 164222 = 0 from hz4), eq_false (show ¬ isN g t (tkE g t (tkE g t (tkE g t (tkE g t p)))) 0 60 = 0 from hz9), eq_false (show ¬ t_is g t (tkE g t (tkE g t (tkE g t (tkE g t (tkE g t p))))) 131638 = 0 from hz10), eq_false (show ¬ isN g t (tkE g t (tkE g t (tkE g t (tkE g t (tkE g t (tkE g t p)))))) 0 23 = 0 from hz11), eq_true (show t_is g t (tkE g t (tkE g t (tkE g t (tkE g t (tkE g t (tkE g t (tkE g t p))))))) 555 = 0 from hz12), if_true, if_false]) hXan
                · skip
                  have hXay : XS σ0 τa g t (tkE g t (tkE g t (tkE g t (tkE g t (tkE g t (tkE g t (tkE g t (tkE g t p)))))))) := hX9.tc ha.1 (by have q0 := ha.2; rw [if_neg hz12] at q0; exact q0) (tkE_le hX9.2.2.2)
                  have hRa := hR9b.tc hX9.2.1 (by omega) ha.1
                  refine w_aload_n dX2_layRod_111 rfl ?_
                  refine w_iconst dX2_layRod_112 ic_0 ?_
                  refine w_bipush dX2_layRod_113 bp_23 ?_
                  refine w_callVi dX2_layRod_115 ml_X2_81 mv_X2_isNumber rfl rfl (by decide) rfl (k_isNumber G _ g t (tkE g t (tkE g t (tkE g t (tkE g t (tkE g t (tkE g t (tkE g t (tkE g t p)))))))) (hT.tx hXay.1) hXay.2.2.2 hXay.2.2.1 _ _ (by decide)) rfl rfl (Nat.le_of_ble_eq_true rfl) ?_
                  refine w_if_ne (t := 123) dX2_layRod_118 (by decide) (fun hz13 => ?_) (fun hz13 => ?_)
                  · skip
                    refine w_aload_n dX2_layRod_123 rfl ?_
                    refine w_aload_n dX2_layRod_124 rfl ?_
                    refine w_callVqi dX2_layRod_125 ml_X2_85 mv_X2_takeNumber rfl rfl (by decide) rfl (k_takeNumber G _ g t (tkE g t (tkE g t (tkE g t (tkE g t (tkE g t (tkE g t (tkE g t (tkE g t p)))))))) (hT.tx hXay.1) hXay.2.2.2 hXay.2.2.1) rfl rfl (Nat.le_of_ble_eq_true rfl) (fun τb hb => ?_)
                    have eva := val_e hXay.2.2.1 hXay.2.2.2 hz13 (by decide)
                    refine w_eqi eva ?_
                    have hXb : XS σ0 τb g t (tkE g t (tkE g t (tkE g t (tkE g t (tkE g t (tkE g t (tkE g t (tkE g t (tkE g t p))))))))) := hXay.tc hb.1 hb.2 (tkE_le hXay.2.2.2)
                    have hRb := hRa.tc hXay.2.1 (by omega) hb.1
                    have eb22 : τb.2.2 (2 + 11) n = τ3.2.2 (2 + 11) n := by rw [hb.1.2, ha.1.2, e9b]
                    refine w_putI dX2_layRod_128 fl_X2_105 KO rfl (by decide +kernel) ?_
                    have hPd : Pl τb (wI τb (τ3.2.2 (2 + 11) n) 4 (tkV g t (tkE g t (tkE g t (tkE g t (tkE g t (tkE g t (tkE g t (tkE g t (tkE g t p)))))))))) 2 (p_add f n kx (tkV g t (tkE g t (tkE g t p))) (tkV g t (tkE g t (tkE g t (tkE g t (tkE g t p))))) (tkV g t (tkE g t (tkE g t (tkE g t (tkE g t (tkE g t (tkE g t p))))))) (tkV g t (tkE g t (tkE g t (tkE g t (tkE g t (tkE g t (tkE g t (tkE g t (tkE g t p)))))))))) (n + 1) := by
                      have q0 := Pl.rodw (w := 4) (k := n) (v := (tkV g t (tkE g t (tkE g t (tkE g t (tkE g t (tkE g t (tkE g t (tkE g t (tkE g t p)))))))))) hRb pp2 hXb.2.1 (by omega) (by omega) (by decide)
                      rw [add_t, eb22] at q0
                      exact q0
                    have hXd : XS σ0 (wI τb (τ3.2.2 (2 + 11) n) 4 (tkV g t (tkE g t (tkE g t (tkE g t (tkE g t (tkE g t (tkE g t (tkE g t (tkE g t p)))))))))) g t (tkE g t (tkE g t (tkE g t (tkE g t (tkE g t (tkE g t (tkE g t (tkE g t (tkE g t p))))))))) := hXb.pl hPd
                    have hRd := hPd.1
                    refine w_iconst dX2_layRod_131 ic_1 ?_
                    refine w_zret dX2_layRod_132 rfl rfl ?_
                    exact LQ.ok (m := n + 1) (by simp only [r_rod, r_hi, r_fr, eq_true hlt, eq_false (show ¬ t_is g t (tkE g t p) 47 = 0 from hz2), eq_false (show ¬ isN g t (tkE g t (tkE g t p)) 0 15 = 0 from hz3), eq_false (show ¬ t_is g t (tkE g t (tkE g t (tkE g t p))) 164222 = 0 from hz4), eq_false (show ¬ isN g t (tkE g t (tkE g t (tkE g t (tkE g t p)))) 0 60 = 0 from hz9), eq_false (show ¬ t_is g t (tkE g t (tkE g t (tkE g t (tkE g t (tkE g t p))))) 131638 = 0 from hz10), eq_false (show ¬ isN g t (tkE g t (tkE g t (tkE g t (tkE g t (tkE g t (tkE g t p)))))) 0 23 = 0 from hz11), eq_false (show ¬ t_is g t (tkE g t (tkE g t (tkE g t (tkE g t (tkE g t (tkE g t (tkE g t p))))))) 555 = 0 from hz12), eq_false (show ¬ isN g t (tkE g t (tkE g t (tkE g t (tkE g t (tkE g t (tkE g t (tkE g t (tkE g t p)))))))) 0 23 = 0 from hz13), if_true, if_false]) hXd (hv.add hlt hkx (val_B hz3) (val_B hz9) (val_B hz11) (val_B hz13)) (hRd)
                  · skip
                    skip
                    refine w_iconst dX2_layRod_121 ic_0 ?_
                    refine w_zret dX2_layRod_122 rfl rfl ?_
                    exact LQ.bad (f := f) (by simp only [r_rod, r_hi, r_fr, eq_true hlt, eq_false (show ¬ t_is g t (tkE g t p) 47 = 0 from hz2), eq_false (show ¬ isN g t (tkE g t (tkE g t p)) 0 15 = 0 from hz3), eq_false (show ¬ t_is g t (tkE g t (tkE g t (tkE g t p))) 164222 = 0 from hz4), eq_false (show ¬ isN g t (tkE g t (tkE g t (tkE g t (tkE g t p)))) 0 60 = 0 from hz9), eq_false (show ¬ t_is g t (tkE g t (tkE g t (tkE g t (tkE g t (tkE g t p))))) 131638 = 0 from hz10), eq_false (show ¬ isN g t (tkE g t (tkE g t (tkE g t (tkE g t (tkE g t (tkE g t p)))))) 0 23 = 0 from hz11), eq_false (show ¬ t_is g t (tkE g t (tkE g t (tkE g t (tkE g t (tkE g t (tkE g t (tkE g t p))))))) 555 = 0 from hz12), eq_true (show isN g t (tkE g t (tkE g t (tkE g t (tkE g t (tkE g t (tkE g t (tkE g t (tkE g t p)))))))) 0 23 = 0 from hz13), if_true, if_false]) hXay
              · skip
                refine w_iconst dX2_layRod_92 ic_0 ?_
                refine w_zret dX2_layRod_93 rfl rfl ?_
                exact LQ.bad (f := f) (by simp only [r_rod, r_hi, r_fr, eq_true hlt, eq_false (show ¬ t_is g t (tkE g t p) 47 = 0 from hz2), eq_false (show ¬ isN g t (tkE g t (tkE g t p)) 0 15 = 0 from hz3), eq_false (show ¬ t_is g t (tkE g t (tkE g t (tkE g t p))) 164222 = 0 from hz4), eq_false (show ¬ isN g t (tkE g t (tkE g t (tkE g t (tkE g t p)))) 0 60 = 0 from hz9), eq_false (show ¬ t_is g t (tkE g t (tkE g t (tkE g t (tkE g t (tkE g t p))))) 131638 = 0 from hz10), eq_true (show isN g t (tkE g t (tkE g t (tkE g t (tkE g t (tkE g t (tkE g t p)))))) 0 23 = 0 from hz11), if_true, if_false]) hX8y
          · skip
            refine w_iconst dX2_layRod_63 ic_0 ?_
            refine w_zret dX2_layRod_64 rfl rfl ?_
            exact LQ.bad (f := f) (by simp only [r_rod, r_hi, r_fr, eq_true hlt, eq_false (show ¬ t_is g t (tkE g t p) 47 = 0 from hz2), eq_false (show ¬ isN g t (tkE g t (tkE g t p)) 0 15 = 0 from hz3), eq_false (show ¬ t_is g t (tkE g t (tkE g t (tkE g t p))) 164222 = 0 from hz4), eq_true (show isN g t (tkE g t (tkE g t (tkE g t (tkE g t p)))) 0 60 = 0 from hz9), if_true, if_false]) hX5y
      · skip
        skip
        refine w_iconst dX2_layRod_32 ic_0 ?_
        refine w_zret dX2_layRod_33 rfl rfl ?_
        exact LQ.bad (f := f) (by simp only [r_rod, r_hi, r_fr, eq_true hlt, eq_false (show ¬ t_is g t (tkE g t p) 47 = 0 from hz2), eq_true (show isN g t (tkE g t (tkE g t p)) 0 15 = 0 from hz3), if_true, if_false]) hX2
  · skip
    have hfull : ¬ n < 8 := fun z => hz1 (by rw [if_pos z])
    refine w_iconst dX2_layRod_7 ic_0 ?_
    refine w_zret dX2_layRod_8 rfl rfl ?_
    exact LQ.bad (f := f) (by unfold r_rod; rw [if_neg hfull]) hX
