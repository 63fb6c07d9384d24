/-! words: letters against their numbers -/
def wn (d : Nat → Nat) : Nat → Nat
  | 0 => 0
  | i + 1 => 27 * wn d i + d i
theorem wn_s (d : Nat → Nat) (i : Nat) : wn d (i + 1) = 27 * wn d i + d i := rfl
theorem wn_inj : ∀ (L L0 : Nat) (d e : Nat → Nat), (∀ i, i < L → 1 ≤ d i ∧ d i ≤ 26) → (∀ i, i < L0 → 1 ≤ e i ∧ e i ≤ 26) → wn d L = wn e L0 → L = L0 ∧ ∀ i, i < L → d i = e i
  | 0, 0, _, _, _, _, _ => ⟨rfl, fun i hi => absurd hi (Nat.not_lt_zero i)⟩
  | 0, L0 + 1, d, e, _, he, h => by
    have := he L0 (by omega)
    rw [wn_s] at h
    rw [show wn d 0 = 0 from rfl] at h
    omega
  | L + 1, 0, d, e, hd, _, h => by
    have := hd L (by omega)
    rw [wn_s] at h
    rw [show wn e 0 = 0 from rfl] at h
    omega
  | L + 1, L0 + 1, d, e, hd, he, h => by
    have h1 := hd L (by omega)
    have h2 := he L0 (by omega)
    rw [wn_s, wn_s] at h
    obtain ⟨q1, q2⟩ := wn_inj L L0 d e (fun i hi => hd i (by omega)) (fun i hi => he i (by omega)) (by omega)
    subst q1
    refine ⟨rfl, fun i hi => ?_⟩
    by_cases z : i = L
    · subst z; omega
    · exact q2 i (by omega)
theorem wn_cg {d e : Nat → Nat} : ∀ {L : Nat}, (∀ i, i < L → d i = e i) → wn d L = wn e L
  | 0, _ => rfl
  | L + 1, h => by rw [wn_s, wn_s, wn_cg (fun i hi => h i (by omega)), h L (by omega)]
theorem wn_lt {d : Nat → Nat} : ∀ {L : Nat}, (∀ i, i < L → d i ≤ 26) → wn d L < 27 ^ L
  | 0, _ => Nat.one_pos
  | L + 1, h => by
    have h1 := wn_lt (L := L) (fun i hi => h i (Nat.lt_succ_of_lt hi))
    have h2 := h L (by omega)
    rw [wn_s, Nat.pow_succ]
    omega
theorem lN_step (a d : Nat) : 27 * lN a + lN (96 + d) - 96 = lN (27 * a + d) := by
  have e1 : lN (96 + d) = lN 96 + lN d := Int64.ofNat_add 96 d
  have e2 : lN (27 * a + d) = lN 27 * lN a + lN d := by
    show Int64.ofNat (27 * a + d) = _
    rw [Int64.ofNat_add, Int64.ofNat_mul]
    rfl
  rw [e1, e2, show (27 : Int64) = lN 27 from rfl, show (96 : Int64) = lN 96 from rfl, ← Int64.add_assoc, Int64.add_comm (lN 27 * lN a) (lN 96), Int64.add_assoc, Int64.add_comm, Int64.add_sub_cancel]
theorem wc_N {g : Nat → Int32} {b : Nat} {d : Nat → Nat} : ∀ {L : Nat}, L ≤ 12 → (∀ i, i < L → g (b + i) = nI (96 + d i) ∧ d i ≤ 26) → p_wc g b L = lN (wn d L)
  | 0, _, _ => rfl
  | L + 1, hL, h => by
    obtain ⟨h1, h2⟩ := h L (by omega)
    rw [p_wc_s, if_pos (by omega), wc_N (by omega) (fun i hi => h i (by omega)), h1, nI_l (by omega), lN_step, wn_s]
theorem wc_13 (g : Nat → Int32) (b : Nat) {L : Nat} (h : 13 ≤ L) : p_wc g b L = -1 := by
  obtain ⟨k, rfl⟩ : ∃ k, L = k + 1 := ⟨L - 1, by omega⟩
  rw [p_wc_s, if_neg (by omega)]
theorem p_fst_all (p : Nat → Int32) : ∀ m s j, s ≤ j → j < p_fst p m s → p j = 0
  | 0, s, j, h1, h2 => by rw [p_fst_0] at h2; omega
  | m + 1, s, j, h1, h2 => by
    rw [p_fst_s] at h2
    split at h2
    · rename_i h
      by_cases e : j = s
      · subst e; exact h
      · exact p_fst_all p m (s + 1) j (by omega) h2
    · omega
theorem let_of {x : Int32} (h : ¬ p_in x 97 122 = 0) : ∃ d, 1 ≤ d ∧ d ≤ 26 ∧ x = nI (96 + d) := by
  obtain ⟨k, hk, rfl⟩ := in_0 (m := 122) (in_low h (by decide)) rfl (by decide)
  have q0 := (in_of h).1
  have q1 : 97 ≤ k := Nat.not_lt.mp (fun z => q0 ((nI_ltI (b := 97) (by omega) (by decide)).mpr z))
  exact ⟨k - 96, by omega, by omega, by congr 1; omega⟩
def sD (i j : Nat) : Nat := ((sByt.getD i []).getD j 0).toNatClampNeg - 96
def wK : List Int64 := [1842025, 4085956, 38363212, 47, 164222, 131638, 555, 47331248, 240023, 9748424, 10497936, 13531, 51345081, 223619, 10973, 865614912780, 6414557904]
theorem sD_ok : ∀ i, i < 17 → sLen.getD i 0 ≤ 12 ∧ ∀ j, j < sLen.getD i 0 → 1 ≤ sD i j ∧ sD i j ≤ 26 ∧ (sByt.getD i []).getD j 0 = nI (96 + sD i j) := by decide +kernel
theorem wK_ok : ∀ i, i < 17 → wK.getD i 0 = lN (wn (sD i) (sLen.getD i 0)) := by decide +kernel
theorem tkS_l {g : Nat → Int32} {t p : Nat} (h : tkS g t p = 1) : ¬ p_in (bt g t (tkB g t p)) 97 122 = 0 := by
  unfold tkS at h
  split at h
  · omega
  · split at h
    · assumption
    · split at h <;> omega
theorem tkE_1 {g : Nat → Int32} {t p : Nat} (h : tkS g t p = 1) : tkE g t p = p_fst (isLe g t) (t - tkB g t p) (tkB g t p) := by
  unfold tkE
  rw [h, if_neg (by decide), if_pos rfl]
theorem tkE_gt {g : Nat → Int32} {t p : Nat} (h : tkS g t p = 1) : tkB g t p < tkE g t p := by
  have h1 := tkS_l h
  have h2 := bt_in (by decide) h1
  rw [tkE_1 h, p_fst_go (isLe_0 h1) h2]
  have := p_fst_ge (isLe g t) (t - (tkB g t p + 1)) (tkB g t p + 1)
  omega
theorem tk_let {g : Nat → Int32} {t p : Nat} (hp : p ≤ t) (h : tkS g t p = 1) : ∀ i, i < tkE g t p - tkB g t p → ∃ d, 1 ≤ d ∧ d ≤ 26 ∧ g (tkB g t p + i) = nI (96 + d) := by
  intro i hi
  have h1 : isLe g t (tkB g t p + i) = 0 := p_fst_all (isLe g t) (t - tkB g t p) (tkB g t p) _ (by omega) (by rw [← tkE_1 h]; omega)
  have h2 := tkE_le (g := g) hp
  have h3 : ¬ p_in (bt g t (tkB g t p + i)) 97 122 = 0 := fun z => isLe_1 z h1
  rw [bt_lt (by omega)] at h3
  exact let_of h3
/-- a token is the word of number i, or is not -/
theorem is_iff {g : Nat → Int32} {t p i : Nat} (hp : p ≤ t) (hi : i < 17) : ¬ t_is g t p (wK.getD i 0) = 0 ↔ tkS g t p = 1 ∧ tkE g t p - tkB g t p = sLen.getD i 0 ∧ ∀ j, j < sLen.getD i 0 → g (tkB g t p + j) = (sByt.getD i []).getD j 0 := by
  obtain ⟨hl, hd⟩ := sD_ok i hi
  unfold t_is
  by_cases h1 : tkS g t p = 1
  · rw [if_pos h1]
    have hw : tkW g t p = p_wc g (tkB g t p) (tkE g t p - tkB g t p) := if_pos h1
    rw [hw, wK_ok i hi]
    have hL := tk_let hp h1
    have hdd : ∃ d : Nat → Nat, ∀ j, j < tkE g t p - tkB g t p → 1 ≤ d j ∧ d j ≤ 26 ∧ g (tkB g t p + j) = nI (96 + d j) := by
      refine ⟨fun j => (g (tkB g t p + j)).toNatClampNeg - 96, fun j hj => ?_⟩
      obtain ⟨x, x1, x2, x3⟩ := hL j hj
      show 1 ≤ (g (tkB g t p + j)).toNatClampNeg - 96 ∧ (g (tkB g t p + j)).toNatClampNeg - 96 ≤ 26 ∧ g (tkB g t p + j) = nI (96 + ((g (tkB g t p + j)).toNatClampNeg - 96))
      rw [x3, nI_clamp (by omega)]
      refine ⟨by omega, by omega, ?_⟩
      congr 1
      omega
    obtain ⟨d, hdd⟩ := hdd
    by_cases h12 : tkE g t p - tkB g t p ≤ 12
    · rw [wc_N h12 (fun j hj => ⟨(hdd j hj).2.2, (hdd j hj).2.1⟩)]
      have b1 := wn_lt (d := d) (fun j hj => (hdd j hj).2.1)
      have b2 := wn_lt (d := sD i) (fun j hj => (hd j hj).2.1)
      have c1 : 27 ^ (tkE g t p - tkB g t p) ≤ 27 ^ 12 := Nat.pow_le_pow_right (by decide) h12
      have c2 : 27 ^ (sLen.getD i 0) ≤ 27 ^ 12 := Nat.pow_le_pow_right (by decide) hl
      by_cases e : wn d (tkE g t p - tkB g t p) = wn (sD i) (sLen.getD i 0)
      · obtain ⟨q1, q2⟩ := wn_inj _ _ d (sD i) (fun j hj => ⟨(hdd j hj).1, (hdd j hj).2.1⟩) (fun j hj => ⟨(hd j hj).1, (hd j hj).2.1⟩) e
        rw [e, if_pos rfl]
        refine ⟨fun _ => ⟨h1, q1, fun j hj => ?_⟩, fun _ => by decide⟩
        rw [(hdd j (by omega)).2.2, (hd j hj).2.2, q2 j (by omega)]
      · have hne : ¬ lN (wn d (tkE g t p - tkB g t p)) = lN (wn (sD i) (sLen.getD i 0)) := fun z => e ((pk_lEQ (by omega) (by omega)).mp z)
        rw [if_neg hne]
        refine ⟨fun z => absurd rfl z, fun z => absurd ?_ e⟩
        obtain ⟨-, z1, z2⟩ := z
        rw [z1]
        refine wn_cg (fun j hj => ?_)
        have y1 := (hdd j (by omega)).2.2
        have y2 := (hdd j (by omega)).2.1
        have y3 := (hd j hj).2.1
        rw [z2 j hj, (hd j hj).2.2] at y1
        have := (nI_eq (by omega) (by omega)).mp y1
        omega
    · rw [wc_13 _ _ (by omega)]
      have b2 := wn_lt (d := sD i) (fun j hj => (hd j hj).2.1)
      have c2 : 27 ^ (sLen.getD i 0) ≤ 27 ^ 12 := Nat.pow_le_pow_right (by decide) hl
      have hne : ¬ (-1 : Int64) = lN (wn (sD i) (sLen.getD i 0)) := fun z => by
        have q0 := congrArg Int64.toInt z
        rw [pk_lT (by omega), show (-1 : Int64).toInt = -1 from rfl] at q0
        omega
      rw [if_neg hne]
      exact ⟨fun z => absurd rfl z, fun z => absurd z.2.1 (by omega)⟩
  · rw [if_neg h1]
    exact ⟨fun z => absurd rfl z, fun z => absurd z.1 h1⟩
theorem t_is_01 (g : Nat → Int32) (t p : Nat) (w : Int64) : t_is g t p w = 0 ∨ t_is g t p w = 1 := by
  unfold t_is
  split
  · split
    · exact Or.inr rfl
    · exact Or.inl rfl
  · exact Or.inl rfl
/-! numbers -/
def k_vc (g : Nat → Int32) (b : Nat) : Nat → Int32
  | 0 => 0
  | i + 1 => if k_vc g b i < 1000 then k_vc g b i * 10 + g (b + i) - 48 else 1000
theorem k_vc_s (g : Nat → Int32) (b i : Nat) : k_vc g b (i + 1) = if k_vc g b i < 1000 then k_vc g b i * 10 + g (b + i) - 48 else 1000 := rfl
theorem dig_of {x : Int32} (h : ¬ p_in x 48 57 = 0) : ∃ d, d ≤ 9 ∧ x = nI (48 + d) := by
  obtain ⟨k, hk, rfl⟩ := in_0 (m := 57) (in_low h (by decide)) rfl (by decide)
  have q0 := (in_of h).1
  have q1 : 48 ≤ k := Nat.not_lt.mp (fun z => q0 ((nI_ltI (b := 48) (by omega) (by decide)).mpr z))
  exact ⟨k - 48, by omega, by congr 1; omega⟩
theorem vc_rel {g : Nat → Int32} {b : Nat} : ∀ {L : Nat}, (∀ i, i < L → ∃ d, d ≤ 9 ∧ g (b + i) = nI (48 + d)) → ∃ x y : Nat, k_vc g b L = nI x ∧ p_vc g b L = nI y ∧ ((x = y ∧ x ≤ 999) ∨ (y = 1000 ∧ 1000 ≤ x ∧ x ≤ 9999))
  | 0, _ => ⟨0, 0, rfl, rfl, Or.inl ⟨rfl, by decide⟩⟩
  | L + 1, h => by
    obtain ⟨x, y, h1, h2, h3⟩ := vc_rel (L := L) (fun i hi => h i (Nat.lt_succ_of_lt hi))
    obtain ⟨d, hd, ed⟩ := h L (by omega)
    rw [k_vc_s, p_vc_s, h1, h2, ed]
    have hx31 : x < 2 ^ 31 := by rcases h3 with h3 | h3 <;> omega
    have hy31 : y < 2 ^ 31 := by rcases h3 with h3 | h3 <;> omega
    have e1 : nI x * 10 + nI (48 + d) - 48 = nI (x * 10 + d) := by
      rw [show (10 : Int32) = nI 10 from rfl, pk_mul, nI_add, show (48 : Int32) = nI 48 from rfl, pk_sub (by omega)]
      congr 1
      omega
    have e2 : 10 * nI y + nI (48 + d) - 48 = nI (10 * y + d) := by
      rw [show (10 : Int32) = nI 10 from rfl, pk_mul, nI_add, show (48 : Int32) = nI 48 from rfl, pk_sub (by omega)]
      congr 1
      omega
    rw [e1, e2]
    have c1 : nI x < 1000 ↔ x < 1000 := nI_ltI (b := 1000) hx31 (by decide)
    have c2 : 99 < nI y ↔ 99 < y := nI_ltI (a := 99) (by decide) hy31
    rcases h3 with ⟨rfl, h4⟩ | ⟨rfl, h4, h5⟩
    · rw [if_pos (c1.mpr (by omega))]
      by_cases c : 99 < x
      · rw [if_pos (c2.mpr c)]
        exact ⟨x * 10 + d, 1000, rfl, rfl, Or.inr ⟨rfl, by omega, by omega⟩⟩
      · rw [if_neg (fun z => c (c2.mp z))]
        exact ⟨x * 10 + d, 10 * x + d, rfl, rfl, Or.inl ⟨by omega, by omega⟩⟩
    · rw [if_neg (fun z => absurd (c1.mp z) (by omega)), if_pos (c2.mpr (by omega))]
      exact ⟨1000, 1000, rfl, rfl, Or.inr ⟨rfl, by decide, by decide⟩⟩
theorem tkS_d {g : Nat → Int32} {t p : Nat} (h : tkS g t p = 2) : p_in (bt g t (tkB g t p)) 97 122 = 0 ∧ ¬ p_in (bt g t (tkB g t p)) 48 57 = 0 := by
  unfold tkS at h
  split at h
  · omega
  · split at h
    · omega
    · rename_i q1
      split at h
      · rename_i q2
        exact ⟨Classical.byContradiction q1, q2⟩
      · omega
theorem tkE_2 {g : Nat → Int32} {t p : Nat} (h : tkS g t p = 2) : tkE g t p = p_fst (isDi g t) (t - tkB g t p) (tkB g t p) := by
  unfold tkE
  rw [h, if_neg (by decide), if_neg (by decide), if_pos rfl]
theorem tk_dig {g : Nat → Int32} {t p : Nat} (hp : p ≤ t) (h : tkS g t p = 2) : ∀ i, i < tkE g t p - tkB g t p → ∃ d, d ≤ 9 ∧ g (tkB g t p + i) = nI (48 + d) := by
  intro i hi
  have h1 : isDi g t (tkB g t p + i) = 0 := p_fst_all (isDi g t) (t - tkB g t p) (tkB g t p) _ (by omega) (by rw [← tkE_2 h]; omega)
  have h2 := tkE_le (g := g) hp
  have h3 : ¬ p_in (bt g t (tkB g t p + i)) 48 57 = 0 := fun z => isDi_1 z h1
  rw [bt_lt (by omega)] at h3
  exact dig_of h3
def ckV (g : Nat → Int32) (t p : Nat) : Int32 := k_vc g (tkB g t p) (tkE g t p - tkB g t p)
/-- the class's number and the reference's, held against a bound below 1000 -/
theorem ckV_in {g : Nat → Int32} {t p : Nat} (hp : p ≤ t) (h : tkS g t p = 2) {a b : Int32} (hb : b.toInt ≤ 999) : p_in (ckV g t p) a b = p_in (tkV g t p) a b ∧ (¬ p_in (tkV g t p) a b = 0 → ckV g t p = tkV g t p) := by
  obtain ⟨x, y, h1, h2, h3⟩ := vc_rel (tk_dig hp h)
  have e1 : ckV g t p = nI x := h1
  have e2 : tkV g t p = nI y := (if_pos h).trans h2
  rw [e1, e2]
  rcases h3 with ⟨rfl, h4⟩ | ⟨rfl, h4, h5⟩
  · exact ⟨rfl, fun _ => rfl⟩
  · have q1 : ∀ v : Nat, 1000 ≤ v → v ≤ 9999 → p_in (nI v) a b = 0 := fun v v1 v2 => by
      unfold p_in
      have hlt : b < nI v := by
        rw [Int32.lt_iff_toInt_lt, nI_toInt (by omega)]
        omega
      split
      · rfl
      · first
        | rfl
        | rw [if_pos hlt]
    have q2 := q1 1000 (by decide) (by decide)
    exact ⟨(q1 x h4 h5).trans q2.symm, fun z => absurd q2 z⟩
