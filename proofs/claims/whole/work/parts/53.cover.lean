/-! sets of clocks, and the hours that cover them -/
theorem nI_or (a b : Nat) : nI a ||| nI b = nI (a ||| b) := by
  apply Int32.toBitVec_inj.mp
  rw [Int32.toBitVec_or]
  show BitVec.ofNat 32 a ||| BitVec.ofNat 32 b = BitVec.ofNat 32 (a ||| b)
  apply BitVec.eq_of_getLsbD_eq
  intro i hi
  rw [BitVec.getLsbD_or, BitVec.getLsbD_ofNat, BitVec.getLsbD_ofNat, BitVec.getLsbD_ofNat, Nat.testBit_or]
  cases decide (i < 32) <;> rfl
def tn (S a : Nat) : Nat := ((S >>> a) ||| ((S <<< (24 - a)) % 2 ^ 32)) % 2 ^ 24
theorem tn_bit {S a i : Nat} (hS : S < 2 ^ 24) (ha : a < 24) (hi : i < 24) : (tn S a).testBit i = S.testBit ((i + a) % 24) := by
  unfold tn
  rw [Nat.testBit_mod_two_pow, Nat.testBit_or, Nat.testBit_shiftRight, Nat.testBit_mod_two_pow, Nat.testBit_shiftLeft]
  have h1 : decide (i < 24) = true := decide_eq_true hi
  have h2 : decide (i < 32) = true := decide_eq_true (by omega)
  rw [h1, h2, Bool.true_and, Bool.true_and]
  by_cases h : i + a < 24
  · have h3 : decide (i ≥ 24 - a) = false := decide_eq_false (by omega)
    rw [h3, Bool.false_and, Bool.or_false, Nat.mod_eq_of_lt h, Nat.add_comm]
  · have h3 : decide (i ≥ 24 - a) = true := decide_eq_true (by omega)
    have h4 : S.testBit (a + i) = false := Nat.testBit_lt_two_pow (Nat.lt_of_lt_of_le hS (Nat.pow_le_pow_right (by decide) (by omega)))
    rw [h3, h4, Bool.true_and, Bool.false_or]
    congr 1
    omega
theorem tn_lt (S a : Nat) : tn S a < 2 ^ 24 := Nat.mod_lt _ (by decide)
def bl (m : Nat) : Nat := if m = 0 then 0 else Nat.log2 m + 1
theorem bl_le {m k : Nat} : bl m ≤ k ↔ m < 2 ^ k := by
  unfold bl
  by_cases h : m = 0
  · subst h
    rw [if_pos rfl]
    exact ⟨fun _ => Nat.pow_pos (by decide), fun _ => Nat.zero_le _⟩
  · rw [if_neg h]
    exact Nat.log2_lt h
theorem bl_eq {m k : Nat} (h1 : 2 ^ k ≤ m) (h2 : m < 2 ^ (k + 1)) : bl m = k + 1 := by
  have q1 := bl_le.mpr h2
  have q2 : ¬ bl m ≤ k := fun z => by
    have := bl_le.mp z
    omega
  omega
def hcN (S a : Nat) : Nat := bl (tn S a)
theorem hcN_le (S a : Nat) : hcN S a ≤ 24 := bl_le.mpr (tn_lt S a)
theorem hc_cov {S a m : Nat} (hS : S < 2 ^ 24) (ha : a < 24) : hcN S a ≤ m ↔ ∀ c, c < 24 → S.testBit c = true → (c + 24 - a) % 24 < m := by
  unfold hcN
  rw [bl_le]
  constructor
  · intro h c hc hb
    rcases Nat.lt_or_ge ((c + 24 - a) % 24) m with z | z
    · exact z
    · have hi : (c + 24 - a) % 24 < 24 := Nat.mod_lt _ (by decide)
      have h1 := tn_bit hS ha hi
      have e : ((c + 24 - a) % 24 + a) % 24 = c := by omega
      rw [e, hb, Nat.testBit_lt_two_pow (Nat.lt_of_lt_of_le h (Nat.pow_le_pow_right (by decide) z))] at h1
      cases h1
  · intro h
    apply Nat.lt_pow_two_of_testBit
    intro i hi
    rcases Nat.lt_or_ge i 24 with z | z
    · rw [tn_bit hS ha z]
      rcases hb : S.testBit ((i + a) % 24) with _ | _
      · rfl
      · have := h ((i + a) % 24) (Nat.mod_lt _ (by decide)) hb
        omega
    · exact Nat.testBit_lt_two_pow (Nat.lt_of_lt_of_le (tn_lt S a) (Nat.pow_le_pow_right (by decide) z))
/-- the best hour to begin with, of the first -/
def bf (S : Nat) : Nat → Nat
  | 0 => 0
  | i + 1 => if hcN S (i + 1) < hcN S (bf S i) then i + 1 else bf S i
theorem bf_s (S i : Nat) : bf S (i + 1) = if hcN S (i + 1) < hcN S (bf S i) then i + 1 else bf S i := rfl
theorem bf_ok (S : Nat) : ∀ i, bf S i ≤ i ∧ (∀ a, a ≤ i → hcN S (bf S i) ≤ hcN S a) ∧ ∀ a, a < bf S i → hcN S (bf S i) < hcN S a
  | 0 => ⟨Nat.le_refl _, fun a ha => by rw [show a = 0 by omega]; exact Nat.le_refl _, fun a ha => absurd ha (Nat.not_lt_zero a)⟩
  | i + 1 => by
    obtain ⟨h1, h2, h3⟩ := bf_ok S i
    rw [bf_s]
    by_cases c : hcN S (i + 1) < hcN S (bf S i)
    · rw [if_pos c]
      refine ⟨Nat.le_refl _, fun a ha => ?_, fun a ha => ?_⟩
      · by_cases e : a = i + 1
        · subst e; exact Nat.le_refl _
        · have := h2 a (by omega); omega
      · have := h2 a (by omega); omega
    · rw [if_neg c]
      refine ⟨by omega, fun a ha => ?_, h3⟩
      by_cases e : a = i + 1
      · subst e; omega
      · exact h2 a (by omega)
theorem bit1 {S c : Nat} (hS : S < 2 ^ 24) (hc : c < 24) : (nI S >>> (nI c &&& 31)) &&& 1 = 0 ↔ S.testBit c = false := by
  have hs : ∀ c, c < 24 → ((nI c &&& 31).toBitVec.smod 32).toNat = c := by decide
  rw [pk_shrN (by omega) _ c (hs c hc), pk_andN (by have := Nat.div_le_self S (2 ^ c); omega) 1 (by decide)]
  have e : S.testBit c = decide (S / 2 ^ c % 2 = 1) := by
    rw [Nat.testBit_eq_decide_div_mod_eq]
  rw [e, decide_eq_false_iff_not, Nat.pow_one]
  have h2 := Nat.mod_lt (S / 2 ^ c) (show 2 > 0 by decide)
  rw [show (0 : Int32) = nI 0 from rfl, nI_eq (by omega) (by decide)]
  omega
theorem rem24 {c a : Nat} (hc : c < 24) (ha : a < 24) : p_rem (nI c - nI a + 24) 24 = nI ((c + 24 - a) % 24) := by
  have h : ∀ c, c < 24 → ∀ a, a < 24 → p_rem (nI c - nI a + 24) 24 = nI ((c + 24 - a) % 24) := by decide +kernel
  exact h c hc a ha
theorem cov_iff {S a m : Nat} (hS : S < 2 ^ 24) (ha : a < 24) (hm : m < 2 ^ 31) : ∀ i, i ≤ 24 → (¬ p_cov (nI S) (nI a) (nI m) i = 0 ↔ ∀ c, c < i → S.testBit c = true → (c + 24 - a) % 24 < m)
  | 0, _ => ⟨fun _ c hc => absurd hc (Nat.not_lt_zero c), fun _ => by rw [p_cov]; decide⟩
  | i + 1, hi => by
    have q0 := cov_iff hS ha hm i (by omega)
    rw [p_cov_s]
    by_cases z : p_cov (nI S) (nI a) (nI m) i = 0
    · rw [if_pos z]
      refine ⟨fun y => absurd rfl y, fun y => absurd z (q0.mpr (fun c hc => y c (by omega)))⟩
    · rw [if_neg z]
      have q1 := q0.mp z
      by_cases b : (nI S >>> (nI i &&& 31)) &&& 1 = 0
      · rw [if_pos b]
        refine ⟨fun _ c hc hb => ?_, fun _ => by decide⟩
        by_cases e : c = i
        · subst e
          rw [(bit1 hS (by omega)).mp b] at hb
          cases hb
        · exact q1 c (by omega) hb
      · rw [if_neg b]
        have hb : S.testBit i = true := by
          rcases hh : S.testBit i with _ | _
          · exact absurd ((bit1 hS (by omega)).mpr hh) b
          · rfl
        rw [rem24 (by omega) ha]
        by_cases y : nI ((i + 24 - a) % 24) < nI m
        · rw [if_pos y]
          have y2 := (nI_ltI (by omega) hm).mp y
          refine ⟨fun _ c hc hb2 => ?_, fun _ => by decide⟩
          by_cases e : c = i
          · subst e; exact y2
          · exact q1 c (by omega) hb2
        · rw [if_neg y]
          refine ⟨fun x => absurd rfl x, fun x => absurd ((nI_ltI (by omega) hm).mpr (x i (by omega) hb)) y⟩
theorem ct_iff {S t : Nat} (hS : S < 2 ^ 24) (ht : t ≤ 576) : ¬ p_ct (nI S) t = 0 ↔ hcN S (t % 24) ≤ t / 24 := by
  unfold p_ct
  have ha : t % 24 < 24 := Nat.mod_lt _ (by decide)
  rw [cov_iff hS ha (by omega) 24 (Nat.le_refl _), hc_cov hS ha]
theorem few_eq {S : Nat} (hS : S < 2 ^ 24) : p_few (nI S) = 24 * hcN S (bf S 23) + bf S 23 := by
  obtain ⟨h1, h2, h3⟩ := bf_ok S 23
  have h4 := hcN_le S (bf S 23)
  have hlow : ∀ t, t < 24 * hcN S (bf S 23) + bf S 23 → t ≤ 576 → p_ct (nI S) t = 0 := fun t ht h576 => Classical.byContradiction fun z => by
    have q0 := (ct_iff hS h576).mp z
    have q1 := h2 (t % 24) (by omega)
    by_cases e : t / 24 = hcN S (bf S 23)
    · have q2 := h3 (t % 24) (by omega)
      omega
    · omega
  unfold p_few
  by_cases e : 24 * hcN S (bf S 23) + bf S 23 < 576
  · refine p_fst_at _ 576 0 _ (Nat.zero_le _) (by omega) (fun j _ hj => hlow j hj (by omega)) ?_
    refine (ct_iff hS (by omega)).mpr ?_
    have e1 : (24 * hcN S (bf S 23) + bf S 23) % 24 = bf S 23 := by omega
    have e2 : (24 * hcN S (bf S 23) + bf S 23) / 24 = hcN S (bf S 23) := by omega
    rw [e1, e2]
    exact Nat.le_refl _
  · have e24 : hcN S (bf S 23) = 24 := by omega
    have e0 : bf S 23 = 0 := by
      rcases Nat.eq_zero_or_pos (bf S 23) with z | z
      · exact z
      · have q2 := h3 0 z
        have q3 := hcN_le S 0
        omega
    rw [e24, e0]
    exact p_fst_none _ 576 0 (fun j _ hj => hlow j (by omega) (by omega))
theorem clk_nat {f : Nat → Int32} {n k : Nat} (h5 : iB (f 5) 0 9999) : ∀ i, i ≤ 100 → ∃ S, S < 2 ^ 24 ∧ p_clk f n k i = nI S
  | 0, _ => ⟨0, by decide, rfl⟩
  | i + 1, hi => by
    obtain ⟨S, hS, e⟩ := clk_nat h5 i (by omega)
    rw [clk_s, e]
    by_cases z : p_bst (p_pass f n i) n (nI k) = 0
    · rw [if_pos z, Int32.or_zero]
      exact ⟨S, hS, rfl⟩
    · rw [if_neg z]
      have hc : ∃ c, c < 24 ∧ p_clock (p_pass f n i) = nI c := by
        obtain ⟨h, hh, e5⟩ := h5.nat (b := 9999)
        unfold p_clock
        rw [p_pass_5, e5, nI_add, nI_rem24 _ (by omega)]
        exact ⟨_, Nat.mod_lt _ (by decide), rfl⟩
      obtain ⟨c, hc, ec⟩ := hc
      have hs : ∀ c, c < 24 → (1 : Int32) <<< (nI c &&& 31) = nI (2 ^ c) := by decide +kernel
      rw [ec, hs c hc, nI_or]
      exact ⟨S ||| 2 ^ c, Nat.or_lt_two_pow hS (Nat.pow_lt_pow_right (by decide) hc), rfl⟩
