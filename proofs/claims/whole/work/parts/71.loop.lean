theorem lw_43 {j : Nat} (h : ¬ 42 < j) : j = 0 ∨ j = 1 ∨ j = 2 ∨ j = 3 ∨ j = 4 ∨ j = 5 ∨ j = 6 ∨ j = 7 ∨ j = 8 ∨ j = 9 ∨ j = 10 ∨ j = 11 ∨ j = 12 ∨ j = 13 ∨ j = 14 ∨ j = 15 ∨ j = 16 ∨ j = 17 ∨ j = 18 ∨ j = 19 ∨ j = 20 ∨ j = 21 ∨ j = 22 ∨ j = 23 ∨ j = 24 ∨ j = 25 ∨ j = 26 ∨ j = 27 ∨ j = 28 ∨ j = 29 ∨ j = 30 ∨ j = 31 ∨ j = 32 ∨ j = 33 ∨ j = 34 ∨ j = 35 ∨ j = 36 ∨ j = 37 ∨ j = 38 ∨ j = 39 ∨ j = 40 ∨ j = 41 ∨ j = 42 := by omega
theorem lw_and0 (v : Int32) : ∃ j : Nat, j < 64 ∧ v &&& 63 = nI j := by
  refine ⟨v.toBitVec.toNat &&& 63, Nat.lt_succ_of_le Nat.and_le_right, ?_⟩
  apply Int32.toBitVec_inj.mp
  apply BitVec.eq_of_toNat_eq
  have h1 : (v &&& 63).toBitVec = v.toBitVec &&& 63#32 := rfl
  have h2 : (nI (v.toBitVec.toNat &&& 63)).toBitVec = BitVec.ofNat 32 (v.toBitVec.toNat &&& 63) := rfl
  have h3 : v.toBitVec.toNat &&& 63 ≤ 63 := Nat.and_le_right
  rw [h1, h2, BitVec.toNat_and, BitVec.toNat_ofNat, BitVec.toNat_ofNat]
  rw [Nat.mod_eq_of_lt (a := 63) (by decide), Nat.mod_eq_of_lt (by omega)]
set_option maxRecDepth 100000 in
set_option maxHeartbeats 4000000 in
/-- the law's loop: from its head, with the class holding what the reference shows -/
theorem lw_loop {G : GT} {b Ln : Nat} {xs : Nat → Int32} (h3 : Ln ≤ 3072) : ∀ (N k n : Nat) (σ : Sg), k ≤ Ln + 5 → Ln + 6 ≤ k + N → RC σ (obs σ) n → LWp G b Ln xs 18 (Lk k) [] σ := by
  intro N
  induction N with
  | zero =>
    intro k n σ hk hN
    exact absurd hN (by omega)
  | succ N ih =>
    intro k n σ hk hN hC
    refine l_iload dLw_18 rfl ?_
    refine l_aload dLw_19 rfl ?_
    refine l_len dLw_20 ?_
    refine l_bipush (v := 6) dLw_21 (by decide) ?_
    refine l_isub dLw_23 ?_
    refine l_gt (t := 1486) dLw_24 (by decide) (fun _ => ?_) (fun hc => ?_)
    · refine l_iconst (v := 1) dLw_1486 (by decide) ?_
      exact l_ret dLw_1487
    · have hk6 : k + 6 ≤ Ln := by
        rcases Nat.lt_or_ge Ln 6 with z | z
        · refine absurd (Int32.lt_of_lt_of_le (b := 0) ?_ (nI_pos' (n := k) (by omega))) hc
          obtain rfl | rfl | rfl | rfl | rfl | rfl : Ln = 0 ∨ Ln = 1 ∨ Ln = 2 ∨ Ln = 3 ∨ Ln = 4 ∨ Ln = 5 := by omega
          all_goals decide
        · obtain ⟨dd, rfl⟩ : ∃ dd, Ln = 6 + dd := ⟨Ln - 6, by omega⟩
          have e0 : nI (6 + dd) - 6 = nI dd := nI_sub2 6 dd
          rw [e0] at hc
          rcases Nat.lt_or_ge dd k with w | w
          · exact absurd (nI_lt w (by omega)) hc
          · omega
      have go : ∀ σ2 n2, RC σ2 (obs σ2) n2 → LWp G b Ln xs 1480 (Lk k) [] σ2 := fun σ2 n2 hC2 => by
        refine l_iinc (v := nI (k + 6)) (L' := Lk (k + 6)) dLw_1480 rfl (nI_add k 6) (by decide) rfl rfl ?_
        refine l_goto (t := 18) dLw_1483 (by decide) ?_
        exact ih (k + 6) n2 σ2 (by omega) (by omega) hC2
      refine l_aload dLw_27 rfl ?_
      refine l_iload dLw_28 rfl ?_
      refine l_ld (i := k) dLw_29 rfl (by omega) h3 ?_
      refine l_bipush (v := 63) dLw_30 (by decide) ?_
      refine l_iand dLw_32 ?_
      obtain ⟨j, hj, ej⟩ := lw_and0 (xs k)
      rw [ej]
      have hti : (nI j).toInt = (j : Int) := nI_toInt (by omega)
      by_cases hj42 : 42 < j
      · refine l_tabO (t := 1480) dLw_33 (Or.inr (by rw [hti]; omega)) (by decide) ?_
        exact go σ n hC
      · rcases lw_43 hj42 with rfl | rfl | rfl | rfl | rfl | rfl | rfl | rfl | rfl | rfl | rfl | rfl | rfl | rfl | rfl | rfl | rfl | rfl | rfl | rfl | rfl | rfl | rfl | rfl | rfl | rfl | rfl | rfl | rfl | rfl | rfl | rfl | rfl | rfl | rfl | rfl | rfl | rfl | rfl | rfl | rfl | rfl | rfl
        · exact l_tabI (off := 187) (t := 220) dLw_33 (by rw [hti]; decide) (by rw [hti]; decide) (by rw [hti]; decide +kernel) (by decide) (lwc_0 hk6 h3 hC go)
        · exact l_tabI (off := 220) (t := 253) dLw_33 (by rw [hti]; decide) (by rw [hti]; decide) (by rw [hti]; decide +kernel) (by decide) (lwc_1 hk6 h3 hC go)
        · exact l_tabI (off := 243) (t := 276) dLw_33 (by rw [hti]; decide) (by rw [hti]; decide) (by rw [hti]; decide +kernel) (by decide) (lwc_2 hk6 h3 hC go)
        · exact l_tabI (off := 276) (t := 309) dLw_33 (by rw [hti]; decide) (by rw [hti]; decide) (by rw [hti]; decide +kernel) (by decide) (lwc_3 hk6 h3 hC go)
        · exact l_tabI (off := 309) (t := 342) dLw_33 (by rw [hti]; decide) (by rw [hti]; decide) (by rw [hti]; decide +kernel) (by decide) (lwc_4 hk6 h3 hC go)
        · exact l_tabI (off := 352) (t := 385) dLw_33 (by rw [hti]; decide) (by rw [hti]; decide) (by rw [hti]; decide +kernel) (by decide) (lwc_5 hk6 h3 hC go)
        · exact l_tabI (off := 395) (t := 428) dLw_33 (by rw [hti]; decide) (by rw [hti]; decide) (by rw [hti]; decide +kernel) (by decide) (lwc_6 hk6 h3 hC go)
        · exact l_tabI (off := 428) (t := 461) dLw_33 (by rw [hti]; decide) (by rw [hti]; decide) (by rw [hti]; decide +kernel) (by decide) (lwc_7 hk6 h3 hC go)
        · exact l_tabI (off := 461) (t := 494) dLw_33 (by rw [hti]; decide) (by rw [hti]; decide) (by rw [hti]; decide +kernel) (by decide) (lwc_8 hk6 h3 hC go)
        · exact l_tabI (off := 484) (t := 517) dLw_33 (by rw [hti]; decide) (by rw [hti]; decide) (by rw [hti]; decide +kernel) (by decide) (lwc_9 hk6 h3 hC go)
        · exact l_tabI (off := 507) (t := 540) dLw_33 (by rw [hti]; decide) (by rw [hti]; decide) (by rw [hti]; decide +kernel) (by decide) (lwc_10 hk6 h3 hC go)
        · exact l_tabI (off := 530) (t := 563) dLw_33 (by rw [hti]; decide) (by rw [hti]; decide) (by rw [hti]; decide +kernel) (by decide) (lwc_11 hk6 h3 hC go)
        · exact l_tabI (off := 553) (t := 586) dLw_33 (by rw [hti]; decide) (by rw [hti]; decide) (by rw [hti]; decide +kernel) (by decide) (lwc_12 hk6 h3 hC go)
        · exact l_tabI (off := 576) (t := 609) dLw_33 (by rw [hti]; decide) (by rw [hti]; decide) (by rw [hti]; decide +kernel) (by decide) (lwc_13 hk6 h3 hC go)
        · exact l_tabI (off := 599) (t := 632) dLw_33 (by rw [hti]; decide) (by rw [hti]; decide) (by rw [hti]; decide +kernel) (by decide) (lwc_14 hk6 h3 hC go)
        · exact l_tabI (off := 642) (t := 675) dLw_33 (by rw [hti]; decide) (by rw [hti]; decide) (by rw [hti]; decide +kernel) (by decide) (lwc_15 hk6 h3 hC go)
        · exact l_tabI (off := 665) (t := 698) dLw_33 (by rw [hti]; decide) (by rw [hti]; decide) (by rw [hti]; decide +kernel) (by decide) (lwc_16 hk6 h3 hC go)
        · exact l_tabI (off := 688) (t := 721) dLw_33 (by rw [hti]; decide) (by rw [hti]; decide) (by rw [hti]; decide +kernel) (by decide) (lwc_17 hk6 h3 hC go)
        · exact l_tabI (off := 711) (t := 744) dLw_33 (by rw [hti]; decide) (by rw [hti]; decide) (by rw [hti]; decide +kernel) (by decide) (lwc_18 hk6 h3 hC go)
        · exact l_tabI (off := 734) (t := 767) dLw_33 (by rw [hti]; decide) (by rw [hti]; decide) (by rw [hti]; decide +kernel) (by decide) (lwc_19 hk6 h3 hC go)
        · exact l_tabI (off := 757) (t := 790) dLw_33 (by rw [hti]; decide) (by rw [hti]; decide) (by rw [hti]; decide +kernel) (by decide) (lwc_20 hk6 h3 hC go)
        · exact l_tabI (off := 790) (t := 823) dLw_33 (by rw [hti]; decide) (by rw [hti]; decide) (by rw [hti]; decide +kernel) (by decide) (lwc_21 hk6 h3 hC go)
        · exact l_tabI (off := 823) (t := 856) dLw_33 (by rw [hti]; decide) (by rw [hti]; decide) (by rw [hti]; decide +kernel) (by decide) (lwc_22 hk6 h3 hC go)
        · exact l_tabI (off := 856) (t := 889) dLw_33 (by rw [hti]; decide) (by rw [hti]; decide) (by rw [hti]; decide +kernel) (by decide) (lwc_23 hk6 h3 hC go)
        · exact l_tabI (off := 889) (t := 922) dLw_33 (by rw [hti]; decide) (by rw [hti]; decide) (by rw [hti]; decide +kernel) (by decide) (lwc_24 hk6 h3 hC go)
        · exact l_tabI (off := 922) (t := 955) dLw_33 (by rw [hti]; decide) (by rw [hti]; decide) (by rw [hti]; decide +kernel) (by decide) (lwc_25 hk6 h3 hC go)
        · exact l_tabI (off := 955) (t := 988) dLw_33 (by rw [hti]; decide) (by rw [hti]; decide) (by rw [hti]; decide +kernel) (by decide) (lwc_26 hk6 h3 hC go)
        · exact l_tabI (off := 978) (t := 1011) dLw_33 (by rw [hti]; decide) (by rw [hti]; decide) (by rw [hti]; decide +kernel) (by decide) (lwc_27 hk6 h3 hC go)
        · exact l_tabI (off := 1011) (t := 1044) dLw_33 (by rw [hti]; decide) (by rw [hti]; decide) (by rw [hti]; decide +kernel) (by decide) (lwc_28 hk6 h3 hC go)
        · exact l_tabI (off := 1034) (t := 1067) dLw_33 (by rw [hti]; decide) (by rw [hti]; decide) (by rw [hti]; decide +kernel) (by decide) (lwc_29 hk6 h3 hC go)
        · exact l_tabI (off := 1067) (t := 1100) dLw_33 (by rw [hti]; decide) (by rw [hti]; decide) (by rw [hti]; decide +kernel) (by decide) (lwc_30 hk6 h3 hC go)
        · exact l_tabI (off := 1080) (t := 1113) dLw_33 (by rw [hti]; decide) (by rw [hti]; decide) (by rw [hti]; decide +kernel) (by decide) (lwc_31 hk6 h3 hC go)
        · exact l_tabI (off := 1093) (t := 1126) dLw_33 (by rw [hti]; decide) (by rw [hti]; decide) (by rw [hti]; decide +kernel) (by decide) (lwc_32 hk6 h3 hC go)
        · exact l_tabI (off := 1136) (t := 1169) dLw_33 (by rw [hti]; decide) (by rw [hti]; decide) (by rw [hti]; decide +kernel) (by decide) (lwc_33 hk6 h3 hC go)
        · exact l_tabI (off := 1210) (t := 1243) dLw_33 (by rw [hti]; decide) (by rw [hti]; decide) (by rw [hti]; decide +kernel) (by decide) (lwc_34 hk6 h3 hC go)
        · exact l_tabI (off := 1273) (t := 1306) dLw_33 (by rw [hti]; decide) (by rw [hti]; decide) (by rw [hti]; decide +kernel) (by decide) (lwc_35 hk6 h3 hC go)
        · exact l_tabI (off := 1296) (t := 1329) dLw_33 (by rw [hti]; decide) (by rw [hti]; decide) (by rw [hti]; decide +kernel) (by decide) (lwc_36 hk6 h3 hC go)
        · exact l_tabI (off := 1329) (t := 1362) dLw_33 (by rw [hti]; decide) (by rw [hti]; decide) (by rw [hti]; decide +kernel) (by decide) (lwc_37 hk6 h3 hC go)
        · exact l_tabI (off := 1362) (t := 1395) dLw_33 (by rw [hti]; decide) (by rw [hti]; decide) (by rw [hti]; decide +kernel) (by decide) (lwc_38 hk6 h3 hC go)
        · exact l_tabI (off := 1375) (t := 1408) dLw_33 (by rw [hti]; decide) (by rw [hti]; decide) (by rw [hti]; decide +kernel) (by decide) (lwc_39 hk6 h3 hC go)
        · exact l_tabI (off := 1388) (t := 1421) dLw_33 (by rw [hti]; decide) (by rw [hti]; decide) (by rw [hti]; decide +kernel) (by decide) (lwc_40 hk6 h3 hC go)
        · exact l_tabI (off := 1401) (t := 1434) dLw_33 (by rw [hti]; decide) (by rw [hti]; decide) (by rw [hti]; decide +kernel) (by decide) (lwc_41 hk6 h3 hC go)
        · exact l_tabI (off := 1424) (t := 1457) dLw_33 (by rw [hti]; decide) (by rw [hti]; decide) (by rw [hti]; decide +kernel) (by decide) (lwc_42 hk6 h3 hC go)
