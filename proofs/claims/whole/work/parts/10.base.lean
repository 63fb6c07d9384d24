/-! rows that the walks use: entry, numbers, constants, switches, kinds of cells -/
theorem ent_in {G : GT} : ∀ (as : List Value) (m k i : Nat) (v : Value), (ent as ++ List.replicate m none)[i]? = some (some v) → (k + i, cv G v) ∈ lv_args k (as.map (cv G))
  | [], m, k, i, v, h => by
    simp only [ent, List.nil_append, List.getElem?_replicate] at h
    split at h <;> simp at h
  | a :: as, m, k, i, v, h => by
    simp only [List.map_cons, lv_args, cv_cat]
    unfold ent at h
    by_cases hc : a.category = 2
    · rw [if_pos hc] at h ⊢
      match i, h with
      | 0, h =>
        simp at h
        subst h
        exact List.mem_cons_self
      | 1, h => simp at h
      | i + 2, h =>
        have := ent_in (G := G) as m (k + 2) i v (by simpa using h)
        rw [show k + 2 + i = k + (i + 2) by omega] at this
        exact List.mem_cons_of_mem _ this
    · rw [if_neg hc] at h ⊢
      match i, h with
      | 0, h =>
        simp at h
        subst h
        exact List.mem_cons_self
      | i + 1, h =>
        have := ent_in (G := G) as m (k + 1) i v (by simpa using h)
        rw [show k + 1 + i = k + (i + 1) by omega] at this
        exact List.mem_cons_of_mem _ this
section BASE
variable {G : GT} {M : MT} {pc : Nat} {L : List (Option Value)} {st : List Value} {σ : Sg} {P : Option Value → Sg → Prop}
theorem Ev.ofL {as : List Value} {m : Nat} (hy : plainName M.2.1.cls = true) (hl : (lg_sl as).length ≤ M.2.2.2.1) (hn : M.2.1.cls = M.1) (hL : ent as ++ List.replicate m none = L) (k : WP G M 0 L [] σ P) : Ev G M as σ P := by
  refine Ev.of hy ?_ hn (L := L) (fun i v h => ?_) k
  · have e : ∀ as : List Value, (lg_sl (as.map (cv G))).length = (lg_sl as).length := by
      intro as
      induction as with
      | nil => rfl
      | cons a as ih =>
        simp only [lg_sl, List.map_cons, List.flatMap_cons, List.length_append, cv_cat] at ih ⊢
        rw [ih]
        split <;> rfl
    rw [e]
    exact hl
  · rw [← hL] at h
    have := ent_in (G := G) as m 0 i v h
    rwa [Nat.zero_add] at this
theorem w_iaddN {a b : Nat} (d : decode M.2.2.1 pc = .ok (.iadd, 1)) (k : WP G M (pc + 1) L (.int (nI (a + b)) :: st) σ P) : WP G M pc L (.int (nI b) :: .int (nI a) :: st) σ P := w_iadd d (by rw [nI_add]; exact k)
theorem w_imulN {a b : Nat} (d : decode M.2.2.1 pc = .ok (.imul, 1)) (k : WP G M (pc + 1) L (.int (nI (a * b)) :: st) σ P) : WP G M pc L (.int (nI b) :: .int (nI a) :: st) σ P := w_imul d (by rw [pk_mul]; exact k)
theorem w_iincN {i : Nat} {n : Int} {a b : Nat} {L' : List (Option Value)} (d : decode M.2.2.1 pc = .ok (.iinc i n, 3)) (h : L[i]? = some (some (.int (nI a)))) (hb : Int32.ofInt n = nI b) (hn : i < M.2.2.2.1) (ho : okS L i = true) (hL : L.set i (some (.int (nI (a + b)))) = L') (k : WP G M (pc + 3) L' st σ P) : WP G M pc L st σ P := w_iinc d h (by rw [hb, nI_add]) hn ho hL k
theorem w_L {L' : List (Option Value)} (h : L = L') (k : WP G M pc L' st σ P) : WP G M pc L st σ P := h ▸ k
theorem w_σ {σ' : Sg} (h : σ = σ') (k : WP G M pc L st σ' P) : WP G M pc L st σ P := h ▸ k
theorem toI_ne {x k : Int32} (h : ¬ x = k) {z : Int} (hz : k.toInt = z) : x.toInt ≠ z := fun e => h (Int32.toInt_inj.mp (e.trans hz.symm))
theorem w2_if_ge {x : Int32} {off : Int} {t : Nat} (d : decode M.2.2.1 pc = .ok (.ifCond .ge off, 3)) (ht : (pc : Int) + off = (t : Int)) (kt : ¬ x < 0 → WP G M t L st σ P) (kf : x < 0 → WP G M (pc + 3) L st σ P) : WP G M pc L (.int x :: st) σ P := w_if_ge d ht (fun h => kt (Int32.not_lt.mpr h)) (fun h => kf (Int32.not_le.mp h))
theorem w2_if_le {x : Int32} {off : Int} {t : Nat} (d : decode M.2.2.1 pc = .ok (.ifCond .le off, 3)) (ht : (pc : Int) + off = (t : Int)) (kt : ¬ 0 < x → WP G M t L st σ P) (kf : 0 < x → WP G M (pc + 3) L st σ P) : WP G M pc L (.int x :: st) σ P := w_if_le d ht (fun h => kt (Int32.not_lt.mpr h)) (fun h => kf (Int32.not_le.mp h))
theorem w2_icmp_ge {x y : Int32} {off : Int} {t : Nat} (d : decode M.2.2.1 pc = .ok (.if_icmp .ge off, 3)) (ht : (pc : Int) + off = (t : Int)) (kt : ¬ x < y → WP G M t L st σ P) (kf : x < y → WP G M (pc + 3) L st σ P) : WP G M pc L (.int y :: .int x :: st) σ P := w_icmp_ge d ht (fun h => kt (Int32.not_lt.mpr h)) (fun h => kf (Int32.not_le.mp h))
theorem w2_icmp_le {x y : Int32} {off : Int} {t : Nat} (d : decode M.2.2.1 pc = .ok (.if_icmp .le off, 3)) (ht : (pc : Int) + off = (t : Int)) (kt : ¬ y < x → WP G M t L st σ P) (kf : y < x → WP G M (pc + 3) L st σ P) : WP G M pc L (.int y :: .int x :: st) σ P := w_icmp_le d ht (fun h => kt (Int32.not_lt.mpr h)) (fun h => kf (Int32.not_le.mp h))
theorem sw_0_3 {x : Int32} (k0 : x = 0 → WP G M pc L (.int x :: st) σ P) (k1 : x = 1 → WP G M pc L (.int x :: st) σ P) (k2 : x = 2 → WP G M pc L (.int x :: st) σ P) (k3 : x = 3 → WP G M pc L (.int x :: st) σ P) (ko : (x.toInt < 0 ∨ 3 < x.toInt) ∧ ¬ x = 0 ∧ ¬ x = 1 ∧ ¬ x = 2 ∧ ¬ x = 3 → WP G M pc L (.int x :: st) σ P) : WP G M pc L (.int x :: st) σ P := by
  by_cases h0 : x = 0
  · exact k0 h0
  by_cases h1 : x = 1
  · exact k1 h1
  by_cases h2 : x = 2
  · exact k2 h2
  by_cases h3 : x = 3
  · exact k3 h3
  have g0 := toI_ne h0 (z := 0) rfl
  have g1 := toI_ne h1 (z := 1) rfl
  have g2 := toI_ne h2 (z := 2) rfl
  have g3 := toI_ne h3 (z := 3) rfl
  exact ko ⟨by omega, h0, h1, h2, h3⟩
theorem sw_0_5 {x : Int32} (k0 : x = 0 → WP G M pc L (.int x :: st) σ P) (k1 : x = 1 → WP G M pc L (.int x :: st) σ P) (k2 : x = 2 → WP G M pc L (.int x :: st) σ P) (k3 : x = 3 → WP G M pc L (.int x :: st) σ P) (k4 : x = 4 → WP G M pc L (.int x :: st) σ P) (k5 : x = 5 → WP G M pc L (.int x :: st) σ P) (ko : (x.toInt < 0 ∨ 5 < x.toInt) ∧ ¬ x = 0 ∧ ¬ x = 1 ∧ ¬ x = 2 ∧ ¬ x = 3 ∧ ¬ x = 4 ∧ ¬ x = 5 → WP G M pc L (.int x :: st) σ P) : WP G M pc L (.int x :: st) σ P := by
  by_cases h0 : x = 0
  · exact k0 h0
  by_cases h1 : x = 1
  · exact k1 h1
  by_cases h2 : x = 2
  · exact k2 h2
  by_cases h3 : x = 3
  · exact k3 h3
  by_cases h4 : x = 4
  · exact k4 h4
  by_cases h5 : x = 5
  · exact k5 h5
  have g0 := toI_ne h0 (z := 0) rfl
  have g1 := toI_ne h1 (z := 1) rfl
  have g2 := toI_ne h2 (z := 2) rfl
  have g3 := toI_ne h3 (z := 3) rfl
  have g4 := toI_ne h4 (z := 4) rfl
  have g5 := toI_ne h5 (z := 5) rfl
  exact ko ⟨by omega, h0, h1, h2, h3, h4, h5⟩
theorem sw_0_4 {x : Int32} (k0 : x = 0 → WP G M pc L (.int x :: st) σ P) (k1 : x = 1 → WP G M pc L (.int x :: st) σ P) (k2 : x = 2 → WP G M pc L (.int x :: st) σ P) (k3 : x = 3 → WP G M pc L (.int x :: st) σ P) (k4 : x = 4 → WP G M pc L (.int x :: st) σ P) (ko : (x.toInt < 0 ∨ 4 < x.toInt) ∧ ¬ x = 0 ∧ ¬ x = 1 ∧ ¬ x = 2 ∧ ¬ x = 3 ∧ ¬ x = 4 → WP G M pc L (.int x :: st) σ P) : WP G M pc L (.int x :: st) σ P := by
  by_cases h0 : x = 0
  · exact k0 h0
  by_cases h1 : x = 1
  · exact k1 h1
  by_cases h2 : x = 2
  · exact k2 h2
  by_cases h3 : x = 3
  · exact k3 h3
  by_cases h4 : x = 4
  · exact k4 h4
  have g0 := toI_ne h0 (z := 0) rfl
  have g1 := toI_ne h1 (z := 1) rfl
  have g2 := toI_ne h2 (z := 2) rfl
  have g3 := toI_ne h3 (z := 3) rfl
  have g4 := toI_ne h4 (z := 4) rfl
  exact ko ⟨by omega, h0, h1, h2, h3, h4⟩
theorem sw_1_5 {x : Int32} (k1 : x = 1 → WP G M pc L (.int x :: st) σ P) (k2 : x = 2 → WP G M pc L (.int x :: st) σ P) (k3 : x = 3 → WP G M pc L (.int x :: st) σ P) (k4 : x = 4 → WP G M pc L (.int x :: st) σ P) (k5 : x = 5 → WP G M pc L (.int x :: st) σ P) (ko : (x.toInt < 1 ∨ 5 < x.toInt) ∧ ¬ x = 1 ∧ ¬ x = 2 ∧ ¬ x = 3 ∧ ¬ x = 4 ∧ ¬ x = 5 → WP G M pc L (.int x :: st) σ P) : WP G M pc L (.int x :: st) σ P := by
  by_cases h1 : x = 1
  · exact k1 h1
  by_cases h2 : x = 2
  · exact k2 h2
  by_cases h3 : x = 3
  · exact k3 h3
  by_cases h4 : x = 4
  · exact k4 h4
  by_cases h5 : x = 5
  · exact k5 h5
  have g1 := toI_ne h1 (z := 1) rfl
  have g2 := toI_ne h2 (z := 2) rfl
  have g3 := toI_ne h3 (z := 3) rfl
  have g4 := toI_ne h4 (z := 4) rfl
  have g5 := toI_ne h5 (z := 5) rfl
  exact ko ⟨by omega, h1, h2, h3, h4, h5⟩
theorem sw_7_9 {x : Int32} (k7 : x = 7 → WP G M pc L (.int x :: st) σ P) (k8 : x = 8 → WP G M pc L (.int x :: st) σ P) (k9 : x = 9 → WP G M pc L (.int x :: st) σ P) (ko : (x.toInt < 7 ∨ 9 < x.toInt) ∧ ¬ x = 7 ∧ ¬ x = 8 ∧ ¬ x = 9 → WP G M pc L (.int x :: st) σ P) : WP G M pc L (.int x :: st) σ P := by
  by_cases h7 : x = 7
  · exact k7 h7
  by_cases h8 : x = 8
  · exact k8 h8
  by_cases h9 : x = 9
  · exact k9 h9
  have g7 := toI_ne h7 (z := 7) rfl
  have g8 := toI_ne h8 (z := 8) rfl
  have g9 := toI_ne h9 (z := 9) rfl
  exact ko ⟨by omega, h7, h8, h9⟩
theorem sw_0_42 {x : Int32} (k0 : x = 0 → WP G M pc L (.int x :: st) σ P) (k1 : x = 1 → WP G M pc L (.int x :: st) σ P) (k2 : x = 2 → WP G M pc L (.int x :: st) σ P) (k3 : x = 3 → WP G M pc L (.int x :: st) σ P) (k4 : x = 4 → WP G M pc L (.int x :: st) σ P) (k5 : x = 5 → WP G M pc L (.int x :: st) σ P) (k6 : x = 6 → WP G M pc L (.int x :: st) σ P) (k7 : x = 7 → WP G M pc L (.int x :: st) σ P) (k8 : x = 8 → WP G M pc L (.int x :: st) σ P) (k9 : x = 9 → WP G M pc L (.int x :: st) σ P) (k10 : x = 10 → WP G M pc L (.int x :: st) σ P) (k11 : x = 11 → WP G M pc L (.int x :: st) σ P) (k12 : x = 12 → WP G M pc L (.int x :: st) σ P) (k13 : x = 13 → WP G M pc L (.int x :: st) σ P) (k14 : x = 14 → WP G M pc L (.int x :: st) σ P) (k15 : x = 15 → WP G M pc L (.int x :: st) σ P) (k16 : x = 16 → WP G M pc L (.int x :: st) σ P) (k17 : x = 17 → WP G M pc L (.int x :: st) σ P) (k18 : x = 18 → WP G M pc L (.int x :: st) σ P) (k19 : x = 19 → WP G M pc L (.int x :: st) σ P) (k20 : x = 20 → WP G M pc L (.int x :: st) σ P) (k21 : x = 21 → WP G M pc L (.int x :: st) σ P) (k22 : x = 22 → WP G M pc L (.int x :: st) σ P) (k23 : x = 23 → WP G M pc L (.int x :: st) σ P) (k24 : x = 24 → WP G M pc L (.int x :: st) σ P) (k25 : x = 25 → WP G M pc L (.int x :: st) σ P) (k26 : x = 26 → WP G M pc L (.int x :: st) σ P) (k27 : x = 27 → WP G M pc L (.int x :: st) σ P) (k28 : x = 28 → WP G M pc L (.int x :: st) σ P) (k29 : x = 29 → WP G M pc L (.int x :: st) σ P) (k30 : x = 30 → WP G M pc L (.int x :: st) σ P) (k31 : x = 31 → WP G M pc L (.int x :: st) σ P) (k32 : x = 32 → WP G M pc L (.int x :: st) σ P) (k33 : x = 33 → WP G M pc L (.int x :: st) σ P) (k34 : x = 34 → WP G M pc L (.int x :: st) σ P) (k35 : x = 35 → WP G M pc L (.int x :: st) σ P) (k36 : x = 36 → WP G M pc L (.int x :: st) σ P) (k37 : x = 37 → WP G M pc L (.int x :: st) σ P) (k38 : x = 38 → WP G M pc L (.int x :: st) σ P) (k39 : x = 39 → WP G M pc L (.int x :: st) σ P) (k40 : x = 40 → WP G M pc L (.int x :: st) σ P) (k41 : x = 41 → WP G M pc L (.int x :: st) σ P) (k42 : x = 42 → WP G M pc L (.int x :: st) σ P) (ko : (x.toInt < 0 ∨ 42 < x.toInt) ∧ ¬ x = 0 ∧ ¬ x = 1 ∧ ¬ x = 2 ∧ ¬ x = 3 ∧ ¬ x = 4 ∧ ¬ x = 5 ∧ ¬ x = 6 ∧ ¬ x = 7 ∧ ¬ x = 8 ∧ ¬ x = 9 ∧ ¬ x = 10 ∧ ¬ x = 11 ∧ ¬ x = 12 ∧ ¬ x = 13 ∧ ¬ x = 14 ∧ ¬ x = 15 ∧ ¬ x = 16 ∧ ¬ x = 17 ∧ ¬ x = 18 ∧ ¬ x = 19 ∧ ¬ x = 20 ∧ ¬ x = 21 ∧ ¬ x = 22 ∧ ¬ x = 23 ∧ ¬ x = 24 ∧ ¬ x = 25 ∧ ¬ x = 26 ∧ ¬ x = 27 ∧ ¬ x = 28 ∧ ¬ x = 29 ∧ ¬ x = 30 ∧ ¬ x = 31 ∧ ¬ x = 32 ∧ ¬ x = 33 ∧ ¬ x = 34 ∧ ¬ x = 35 ∧ ¬ x = 36 ∧ ¬ x = 37 ∧ ¬ x = 38 ∧ ¬ x = 39 ∧ ¬ x = 40 ∧ ¬ x = 41 ∧ ¬ x = 42 → WP G M pc L (.int x :: st) σ P) : WP G M pc L (.int x :: st) σ P := by
  by_cases h0 : x = 0
  · exact k0 h0
  by_cases h1 : x = 1
  · exact k1 h1
  by_cases h2 : x = 2
  · exact k2 h2
  by_cases h3 : x = 3
  · exact k3 h3
  by_cases h4 : x = 4
  · exact k4 h4
  by_cases h5 : x = 5
  · exact k5 h5
  by_cases h6 : x = 6
  · exact k6 h6
  by_cases h7 : x = 7
  · exact k7 h7
  by_cases h8 : x = 8
  · exact k8 h8
  by_cases h9 : x = 9
  · exact k9 h9
  by_cases h10 : x = 10
  · exact k10 h10
  by_cases h11 : x = 11
  · exact k11 h11
  by_cases h12 : x = 12
  · exact k12 h12
  by_cases h13 : x = 13
  · exact k13 h13
  by_cases h14 : x = 14
  · exact k14 h14
  by_cases h15 : x = 15
  · exact k15 h15
  by_cases h16 : x = 16
  · exact k16 h16
  by_cases h17 : x = 17
  · exact k17 h17
  by_cases h18 : x = 18
  · exact k18 h18
  by_cases h19 : x = 19
  · exact k19 h19
  by_cases h20 : x = 20
  · exact k20 h20
  by_cases h21 : x = 21
  · exact k21 h21
  by_cases h22 : x = 22
  · exact k22 h22
  by_cases h23 : x = 23
  · exact k23 h23
  by_cases h24 : x = 24
  · exact k24 h24
  by_cases h25 : x = 25
  · exact k25 h25
  by_cases h26 : x = 26
  · exact k26 h26
  by_cases h27 : x = 27
  · exact k27 h27
  by_cases h28 : x = 28
  · exact k28 h28
  by_cases h29 : x = 29
  · exact k29 h29
  by_cases h30 : x = 30
  · exact k30 h30
  by_cases h31 : x = 31
  · exact k31 h31
  by_cases h32 : x = 32
  · exact k32 h32
  by_cases h33 : x = 33
  · exact k33 h33
  by_cases h34 : x = 34
  · exact k34 h34
  by_cases h35 : x = 35
  · exact k35 h35
  by_cases h36 : x = 36
  · exact k36 h36
  by_cases h37 : x = 37
  · exact k37 h37
  by_cases h38 : x = 38
  · exact k38 h38
  by_cases h39 : x = 39
  · exact k39 h39
  by_cases h40 : x = 40
  · exact k40 h40
  by_cases h41 : x = 41
  · exact k41 h41
  by_cases h42 : x = 42
  · exact k42 h42
  have g0 := toI_ne h0 (z := 0) rfl
  have g1 := toI_ne h1 (z := 1) rfl
  have g2 := toI_ne h2 (z := 2) rfl
  have g3 := toI_ne h3 (z := 3) rfl
  have g4 := toI_ne h4 (z := 4) rfl
  have g5 := toI_ne h5 (z := 5) rfl
  have g6 := toI_ne h6 (z := 6) rfl
  have g7 := toI_ne h7 (z := 7) rfl
  have g8 := toI_ne h8 (z := 8) rfl
  have g9 := toI_ne h9 (z := 9) rfl
  have g10 := toI_ne h10 (z := 10) rfl
  have g11 := toI_ne h11 (z := 11) rfl
  have g12 := toI_ne h12 (z := 12) rfl
  have g13 := toI_ne h13 (z := 13) rfl
  have g14 := toI_ne h14 (z := 14) rfl
  have g15 := toI_ne h15 (z := 15) rfl
  have g16 := toI_ne h16 (z := 16) rfl
  have g17 := toI_ne h17 (z := 17) rfl
  have g18 := toI_ne h18 (z := 18) rfl
  have g19 := toI_ne h19 (z := 19) rfl
  have g20 := toI_ne h20 (z := 20) rfl
  have g21 := toI_ne h21 (z := 21) rfl
  have g22 := toI_ne h22 (z := 22) rfl
  have g23 := toI_ne h23 (z := 23) rfl
  have g24 := toI_ne h24 (z := 24) rfl
  have g25 := toI_ne h25 (z := 25) rfl
  have g26 := toI_ne h26 (z := 26) rfl
  have g27 := toI_ne h27 (z := 27) rfl
  have g28 := toI_ne h28 (z := 28) rfl
  have g29 := toI_ne h29 (z := 29) rfl
  have g30 := toI_ne h30 (z := 30) rfl
  have g31 := toI_ne h31 (z := 31) rfl
  have g32 := toI_ne h32 (z := 32) rfl
  have g33 := toI_ne h33 (z := 33) rfl
  have g34 := toI_ne h34 (z := 34) rfl
  have g35 := toI_ne h35 (z := 35) rfl
  have g36 := toI_ne h36 (z := 36) rfl
  have g37 := toI_ne h37 (z := 37) rfl
  have g38 := toI_ne h38 (z := 38) rfl
  have g39 := toI_ne h39 (z := 39) rfl
  have g40 := toI_ne h40 (z := 40) rfl
  have g41 := toI_ne h41 (z := 41) rfl
  have g42 := toI_ne h42 (z := 42) rfl
  exact ko ⟨by omega, h0, h1, h2, h3, h4, h5, h6, h7, h8, h9, h10, h11, h12, h13, h14, h15, h16, h17, h18, h19, h20, h21, h22, h23, h24, h25, h26, h27, h28, h29, h30, h31, h32, h33, h34, h35, h36, h37, h38, h39, h40, h41, h42⟩
theorem sw_0_2 {x : Int32} (k0 : x = 0 → WP G M pc L (.int x :: st) σ P) (k1 : x = 1 → WP G M pc L (.int x :: st) σ P) (k2 : x = 2 → WP G M pc L (.int x :: st) σ P) (ko : (x.toInt < 0 ∨ 2 < x.toInt) ∧ ¬ x = 0 ∧ ¬ x = 1 ∧ ¬ x = 2 → WP G M pc L (.int x :: st) σ P) : WP G M pc L (.int x :: st) σ P := by
  by_cases h0 : x = 0
  · exact k0 h0
  by_cases h1 : x = 1
  · exact k1 h1
  by_cases h2 : x = 2
  · exact k2 h2
  have g0 := toI_ne h0 (z := 0) rfl
  have g1 := toI_ne h1 (z := 1) rfl
  have g2 := toI_ne h2 (z := 2) rfl
  exact ko ⟨by omega, h0, h1, h2⟩
theorem sw_0_1 {x : Int32} (k0 : x = 0 → WP G M pc L (.int x :: st) σ P) (k1 : x = 1 → WP G M pc L (.int x :: st) σ P) (ko : (x.toInt < 0 ∨ 1 < x.toInt) ∧ ¬ x = 0 ∧ ¬ x = 1 → WP G M pc L (.int x :: st) σ P) : WP G M pc L (.int x :: st) σ P := by
  by_cases h0 : x = 0
  · exact k0 h0
  by_cases h1 : x = 1
  · exact k1 h1
  have g0 := toI_ne h0 (z := 0) rfl
  have g1 := toI_ne h1 (z := 1) rfl
  exact ko ⟨by omega, h0, h1⟩
theorem sw_1_4 {x : Int32} (k1 : x = 1 → WP G M pc L (.int x :: st) σ P) (k2 : x = 2 → WP G M pc L (.int x :: st) σ P) (k3 : x = 3 → WP G M pc L (.int x :: st) σ P) (k4 : x = 4 → WP G M pc L (.int x :: st) σ P) (ko : (x.toInt < 1 ∨ 4 < x.toInt) ∧ ¬ x = 1 ∧ ¬ x = 2 ∧ ¬ x = 3 ∧ ¬ x = 4 → WP G M pc L (.int x :: st) σ P) : WP G M pc L (.int x :: st) σ P := by
  by_cases h1 : x = 1
  · exact k1 h1
  by_cases h2 : x = 2
  · exact k2 h2
  by_cases h3 : x = 3
  · exact k3 h3
  by_cases h4 : x = 4
  · exact k4 h4
  have g1 := toI_ne h1 (z := 1) rfl
  have g2 := toI_ne h2 (z := 2) rfl
  have g3 := toI_ne h3 (z := 3) rfl
  have g4 := toI_ne h4 (z := 4) rfl
  exact ko ⟨by omega, h1, h2, h3, h4⟩
end BASE
theorem ic_m20 : Int32.ofInt (-20) = (-20) := by decide
theorem ic_m19 : Int32.ofInt (-19) = (-19) := by decide
theorem ic_m18 : Int32.ofInt (-18) = (-18) := by decide
theorem ic_m17 : Int32.ofInt (-17) = (-17) := by decide
theorem ic_m16 : Int32.ofInt (-16) = (-16) := by decide
theorem ic_m15 : Int32.ofInt (-15) = (-15) := by decide
theorem ic_m14 : Int32.ofInt (-14) = (-14) := by decide
theorem ic_m13 : Int32.ofInt (-13) = (-13) := by decide
theorem ic_m12 : Int32.ofInt (-12) = (-12) := by decide
theorem ic_m11 : Int32.ofInt (-11) = (-11) := by decide
theorem ic_m10 : Int32.ofInt (-10) = (-10) := by decide
theorem ic_m9 : Int32.ofInt (-9) = (-9) := by decide
theorem ic_m8 : Int32.ofInt (-8) = (-8) := by decide
theorem ic_m7 : Int32.ofInt (-7) = (-7) := by decide
theorem ic_m6 : Int32.ofInt (-6) = (-6) := by decide
theorem ic_m5 : Int32.ofInt (-5) = (-5) := by decide
theorem ic_m4 : Int32.ofInt (-4) = (-4) := by decide
theorem ic_m3 : Int32.ofInt (-3) = (-3) := by decide
theorem ic_m2 : Int32.ofInt (-2) = (-2) := by decide
theorem ic_m1 : Int32.ofInt (-1) = (-1) := by decide
theorem ic_0 : Int32.ofInt (0) = 0 := by decide
theorem ic_1 : Int32.ofInt (1) = 1 := by decide
theorem ic_2 : Int32.ofInt (2) = 2 := by decide
theorem ic_3 : Int32.ofInt (3) = 3 := by decide
theorem ic_4 : Int32.ofInt (4) = 4 := by decide
theorem ic_5 : Int32.ofInt (5) = 5 := by decide
theorem ic_6 : Int32.ofInt (6) = 6 := by decide
theorem ic_7 : Int32.ofInt (7) = 7 := by decide
theorem ic_8 : Int32.ofInt (8) = 8 := by decide
theorem ic_9 : Int32.ofInt (9) = 9 := by decide
theorem ic_10 : Int32.ofInt (10) = 10 := by decide
theorem ic_11 : Int32.ofInt (11) = 11 := by decide
theorem ic_12 : Int32.ofInt (12) = 12 := by decide
theorem ic_13 : Int32.ofInt (13) = 13 := by decide
theorem ic_14 : Int32.ofInt (14) = 14 := by decide
theorem ic_15 : Int32.ofInt (15) = 15 := by decide
theorem ic_16 : Int32.ofInt (16) = 16 := by decide
theorem ic_17 : Int32.ofInt (17) = 17 := by decide
theorem ic_18 : Int32.ofInt (18) = 18 := by decide
theorem ic_19 : Int32.ofInt (19) = 19 := by decide
theorem ic_20 : Int32.ofInt (20) = 20 := by decide
theorem bp_6 : (Int8.ofInt 6).toInt32 = 6 := by decide
theorem bp_7 : (Int8.ofInt 7).toInt32 = 7 := by decide
theorem bp_8 : (Int8.ofInt 8).toInt32 = 8 := by decide
theorem bp_9 : (Int8.ofInt 9).toInt32 = 9 := by decide
theorem bp_10 : (Int8.ofInt 10).toInt32 = 10 := by decide
theorem bp_11 : (Int8.ofInt 11).toInt32 = 11 := by decide
theorem bp_12 : (Int8.ofInt 12).toInt32 = 12 := by decide
theorem bp_13 : (Int8.ofInt 13).toInt32 = 13 := by decide
theorem bp_14 : (Int8.ofInt 14).toInt32 = 14 := by decide
theorem bp_15 : (Int8.ofInt 15).toInt32 = 15 := by decide
theorem bp_16 : (Int8.ofInt 16).toInt32 = 16 := by decide
theorem bp_17 : (Int8.ofInt 17).toInt32 = 17 := by decide
theorem bp_18 : (Int8.ofInt 18).toInt32 = 18 := by decide
theorem bp_19 : (Int8.ofInt 19).toInt32 = 19 := by decide
theorem bp_20 : (Int8.ofInt 20).toInt32 = 20 := by decide
theorem bp_21 : (Int8.ofInt 21).toInt32 = 21 := by decide
theorem bp_22 : (Int8.ofInt 22).toInt32 = 22 := by decide
theorem bp_23 : (Int8.ofInt 23).toInt32 = 23 := by decide
theorem bp_24 : (Int8.ofInt 24).toInt32 = 24 := by decide
theorem bp_25 : (Int8.ofInt 25).toInt32 = 25 := by decide
theorem bp_26 : (Int8.ofInt 26).toInt32 = 26 := by decide
theorem bp_27 : (Int8.ofInt 27).toInt32 = 27 := by decide
theorem bp_28 : (Int8.ofInt 28).toInt32 = 28 := by decide
theorem bp_30 : (Int8.ofInt 30).toInt32 = 30 := by decide
theorem bp_31 : (Int8.ofInt 31).toInt32 = 31 := by decide
theorem bp_32 : (Int8.ofInt 32).toInt32 = 32 := by decide
theorem bp_39 : (Int8.ofInt 39).toInt32 = 39 := by decide
theorem bp_40 : (Int8.ofInt 40).toInt32 = 40 := by decide
theorem bp_47 : (Int8.ofInt 47).toInt32 = 47 := by decide
theorem bp_48 : (Int8.ofInt 48).toInt32 = 48 := by decide
theorem bp_50 : (Int8.ofInt 50).toInt32 = 50 := by decide
theorem bp_56 : (Int8.ofInt 56).toInt32 = 56 := by decide
theorem bp_57 : (Int8.ofInt 57).toInt32 = 57 := by decide
theorem bp_59 : (Int8.ofInt 59).toInt32 = 59 := by decide
theorem bp_60 : (Int8.ofInt 60).toInt32 = 60 := by decide
theorem bp_63 : (Int8.ofInt 63).toInt32 = 63 := by decide
theorem bp_64 : (Int8.ofInt 64).toInt32 = 64 := by decide
theorem bp_65 : (Int8.ofInt 65).toInt32 = 65 := by decide
theorem bp_96 : (Int8.ofInt 96).toInt32 = 96 := by decide
theorem bp_97 : (Int8.ofInt 97).toInt32 = 97 := by decide
theorem bp_98 : (Int8.ofInt 98).toInt32 = 98 := by decide
theorem bp_99 : (Int8.ofInt 99).toInt32 = 99 := by decide
theorem bp_100 : (Int8.ofInt 100).toInt32 = 100 := by decide
theorem bp_120 : (Int8.ofInt 120).toInt32 = 120 := by decide
theorem bp_122 : (Int8.ofInt 122).toInt32 = 122 := by decide
theorem bp_127 : (Int8.ofInt 127).toInt32 = 127 := by decide
theorem sp_128 : (Int16.ofInt 128).toInt32 = 128 := by decide
theorem sp_160 : (Int16.ofInt 160).toInt32 = 160 := by decide
theorem sp_255 : (Int16.ofInt 255).toInt32 = 255 := by decide
theorem sp_256 : (Int16.ofInt 256).toInt32 = 256 := by decide
theorem sp_512 : (Int16.ofInt 512).toInt32 = 512 := by decide
theorem sp_999 : (Int16.ofInt 999).toInt32 = 999 := by decide
theorem sp_1000 : (Int16.ofInt 1000).toInt32 = 1000 := by decide
theorem sp_9999 : (Int16.ofInt 9999).toInt32 = 9999 := by decide
theorem sp_12345 : (Int16.ofInt 12345).toInt32 = 12345 := by decide
theorem lc_0 : Int64.ofNat ((0 : Fin 2) : Nat) = 0 := by decide
theorem lc_1 : Int64.ofNat ((1 : Fin 2) : Nat) = 1 := by decide
theorem kd_rod {c : Nat} (h : 26 ≤ c) (h2 : c < 50) : kd c = 3 := by
  unfold kd
  rw [if_neg (by omega), if_pos (by omega)]
theorem kd_sh {s : Nat} (h : s < 4) : kd (18 + s) = 4 := by
  match s, h with
  | 0, _ => rfl
  | 1, _ => rfl
  | 2, _ => rfl
  | 3, _ => rfl
  | n + 4, h => omega
theorem kd_nu {s : Nat} (h : s < 4) : kd (22 + s) = 9 := by
  match s, h with
  | 0, _ => rfl
  | 1, _ => rfl
  | 2, _ => rfl
  | 3, _ => rfl
  | n + 4, h => omega
theorem ln_nu {s : Nat} (h : s < 4) : ln (22 + s) = 40 := by
  match s, h with
  | 0, _ => rfl
  | 1, _ => rfl
  | 2, _ => rfl
  | 3, _ => rfl
  | n + 4, h => omega
theorem sr_sh {s : Nat} : srK 4 (18 + s) 0 = some (22 + s) := by
  show some (18 + s + 4) = some (22 + s)
  congr 1
  omega

