set_option maxRecDepth 100000 in
set_option maxHeartbeats 800000 in
theorem j6_nlz (G : GT) (σ : Sg) (m : Nat) (hm : m < 2 ^ 24) : Evi G mJ6_numberOfLeadingZeros [.int (nI m)] σ (nI (32 - bl m)) (σ) := by
  have hm0 : nI m = 0 → m = 0 := fun z => (nI_eq (b := 0) (by omega) (by decide)).mp z
  have hm1 : ¬ 0 < nI m → ¬ nI m = 0 → False := fun y z => by
    rcases Nat.eq_zero_or_pos m with e | e
    · exact z (by rw [e]; rfl)
    · exact y ((nI_ltI (a := 0) (by decide) (by omega)).mpr e)
  have hm2 : 0 < nI m → 0 < m := fun z => (nI_ltI (a := 0) (by decide) (by omega)).mp z
  refine Ev.ofL (m := 1) (L := [some (.int (nI m)), none]) rfl (Nat.le_of_ble_eq_true rfl) rfl rfl ?_
  refine w_iload_n dJ6_numberOfLeadingZeros_0 rfl ?_
  refine w_if_gt (t := 15) dJ6_numberOfLeadingZeros_1 (by decide) (fun hz1 => ?_) (fun hz1 => ?_)
  · skip
    refine w_bipush dJ6_numberOfLeadingZeros_15 bp_31 ?_
    refine w_istore_n dJ6_numberOfLeadingZeros_17 (by decide) rfl rfl ?_
    dsimp only [List.set]
    refine w_iload_n dJ6_numberOfLeadingZeros_18 rfl ?_
    refine w_ldcw dJ6_numberOfLeadingZeros_19 kc_J6_264 ?_
    refine w_icmp_lt (t := 33) dJ6_numberOfLeadingZeros_22 (by decide) (fun hz2 => ?_) (fun hz2 => ?_)
    · skip
      refine w_iload_n dJ6_numberOfLeadingZeros_33 rfl ?_
      refine w_sipush dJ6_numberOfLeadingZeros_34 sp_256 ?_
      refine w_icmp_lt (t := 48) dJ6_numberOfLeadingZeros_37 (by decide) (fun hz3 => ?_) (fun hz3 => ?_)
      · skip
        refine w_iload_n dJ6_numberOfLeadingZeros_48 rfl ?_
        refine w_bipush dJ6_numberOfLeadingZeros_49 bp_16 ?_
        refine w_icmp_lt (t := 61) dJ6_numberOfLeadingZeros_51 (by decide) (fun hz4 => ?_) (fun hz4 => ?_)
        · skip
          refine w_iload_n dJ6_numberOfLeadingZeros_61 rfl ?_
          refine w_iconst dJ6_numberOfLeadingZeros_62 ic_4 ?_
          refine w_icmp_lt (t := 73) dJ6_numberOfLeadingZeros_63 (by decide) (fun hz5 => ?_) (fun hz5 => ?_)
          · skip
            refine w_iload_n dJ6_numberOfLeadingZeros_73 rfl ?_
            refine w_iload_n dJ6_numberOfLeadingZeros_74 rfl ?_
            refine w_iconst dJ6_numberOfLeadingZeros_75 ic_1 ?_
            refine w_iushr dJ6_numberOfLeadingZeros_76 ?_
            refine w_eqi (pk_ushrN (n := m) (by omega) _ 1 (by decide)) ?_
            · skip
              refine w_isub dJ6_numberOfLeadingZeros_77 ?_
              refine w_iret dJ6_numberOfLeadingZeros_78 rfl ?_
              have g22 := lt_nI (r := m) (n := 65536) (by omega) (by decide) hz2
              have g37 := lt_nI (r := m) (n := 256) (by omega) (by decide) hz3
              have g51 := lt_nI (r := m) (n := 16) (by omega) (by decide) hz4
              have g63 := lt_nI (r := m) (n := 4) (by omega) (by decide) hz5
              have hp := hm2 hz1
              by_cases h2 : m < 2
              · have e1 : m / 2 ^ 1 = 0 := by omega
                have e2 : bl m = 1 := bl_eq (by omega) (by omega)
                rw [e1, e2]
                exact ⟨by decide, rfl⟩
              · have e1 : m / 2 ^ 1 = 1 := by omega
                have e2 : bl m = 2 := bl_eq (by omega) (by omega)
                rw [e1, e2]
                exact ⟨by decide, rfl⟩
          · skip
            refine w_iinc dJ6_numberOfLeadingZeros_66 rfl rfl (by decide) rfl rfl ?_
            dsimp only [List.set]
            refine w_iload_n dJ6_numberOfLeadingZeros_69 rfl ?_
            refine w_iconst dJ6_numberOfLeadingZeros_70 ic_2 ?_
            refine w_iushr dJ6_numberOfLeadingZeros_71 ?_
            refine w_eqi (pk_ushrN (n := m) (by omega) _ 2 (by decide)) ?_
            · skip
              refine w_istore_n dJ6_numberOfLeadingZeros_72 (by decide) rfl rfl ?_
              dsimp only [List.set]
              refine w_iload_n dJ6_numberOfLeadingZeros_73 rfl ?_
              refine w_iload_n dJ6_numberOfLeadingZeros_74 rfl ?_
              refine w_iconst dJ6_numberOfLeadingZeros_75 ic_1 ?_
              refine w_iushr dJ6_numberOfLeadingZeros_76 ?_
              refine w_eqi (pk_ushrN (n := (m / 2 ^ 2)) (by omega) _ 1 (by decide)) ?_
              · skip
                refine w_isub dJ6_numberOfLeadingZeros_77 ?_
                refine w_iret dJ6_numberOfLeadingZeros_78 rfl ?_
                have g22 := lt_nI (r := m) (n := 65536) (by omega) (by decide) hz2
                have g37 := lt_nI (r := m) (n := 256) (by omega) (by decide) hz3
                have g51 := lt_nI (r := m) (n := 16) (by omega) (by decide) hz4
                have g63 := nlt_nI (r := m) (n := 4) (by omega) (by decide) hz5
                have hp := hm2 hz1
                by_cases h2 : (m / 2 ^ 2) < 2
                · have e1 : (m / 2 ^ 2) / 2 ^ 1 = 0 := by omega
                  have e2 : bl m = 3 := bl_eq (by omega) (by omega)
                  rw [e1, e2]
                  exact ⟨by decide, rfl⟩
                · have e1 : (m / 2 ^ 2) / 2 ^ 1 = 1 := by omega
                  have e2 : bl m = 4 := bl_eq (by omega) (by omega)
                  rw [e1, e2]
                  exact ⟨by decide, rfl⟩
        · skip
          refine w_iinc dJ6_numberOfLeadingZeros_54 rfl rfl (by decide) rfl rfl ?_
          dsimp only [List.set]
          refine w_iload_n dJ6_numberOfLeadingZeros_57 rfl ?_
          refine w_iconst dJ6_numberOfLeadingZeros_58 ic_4 ?_
          refine w_iushr dJ6_numberOfLeadingZeros_59 ?_
          refine w_eqi (pk_ushrN (n := m) (by omega) _ 4 (by decide)) ?_
          · skip
            refine w_istore_n dJ6_numberOfLeadingZeros_60 (by decide) rfl rfl ?_
            dsimp only [List.set]
            refine w_iload_n dJ6_numberOfLeadingZeros_61 rfl ?_
            refine w_iconst dJ6_numberOfLeadingZeros_62 ic_4 ?_
            refine w_icmp_lt (t := 73) dJ6_numberOfLeadingZeros_63 (by decide) (fun hz6 => ?_) (fun hz6 => ?_)
            · skip
              refine w_iload_n dJ6_numberOfLeadingZeros_73 rfl ?_
              refine w_iload_n dJ6_numberOfLeadingZeros_74 rfl ?_
              refine w_iconst dJ6_numberOfLeadingZeros_75 ic_1 ?_
              refine w_iushr dJ6_numberOfLeadingZeros_76 ?_
              refine w_eqi (pk_ushrN (n := (m / 2 ^ 4)) (by omega) _ 1 (by decide)) ?_
              · skip
                refine w_isub dJ6_numberOfLeadingZeros_77 ?_
                refine w_iret dJ6_numberOfLeadingZeros_78 rfl ?_
                have g22 := lt_nI (r := m) (n := 65536) (by omega) (by decide) hz2
                have g37 := lt_nI (r := m) (n := 256) (by omega) (by decide) hz3
                have g51 := nlt_nI (r := m) (n := 16) (by omega) (by decide) hz4
                have g63 := lt_nI (r := (m / 2 ^ 4)) (n := 4) (by omega) (by decide) hz6
                have hp := hm2 hz1
                by_cases h2 : (m / 2 ^ 4) < 2
                · have e1 : (m / 2 ^ 4) / 2 ^ 1 = 0 := by omega
                  have e2 : bl m = 5 := bl_eq (by omega) (by omega)
                  rw [e1, e2]
                  exact ⟨by decide, rfl⟩
                · have e1 : (m / 2 ^ 4) / 2 ^ 1 = 1 := by omega
                  have e2 : bl m = 6 := bl_eq (by omega) (by omega)
                  rw [e1, e2]
                  exact ⟨by decide, rfl⟩
            · skip
              refine w_iinc dJ6_numberOfLeadingZeros_66 rfl rfl (by decide) rfl rfl ?_
              dsimp only [List.set]
              refine w_iload_n dJ6_numberOfLeadingZeros_69 rfl ?_
              refine w_iconst dJ6_numberOfLeadingZeros_70 ic_2 ?_
              refine w_iushr dJ6_numberOfLeadingZeros_71 ?_
              refine w_eqi (pk_ushrN (n := (m / 2 ^ 4)) (by omega) _ 2 (by decide)) ?_
              · skip
                refine w_istore_n dJ6_numberOfLeadingZeros_72 (by decide) rfl rfl ?_
                dsimp only [List.set]
                refine w_iload_n dJ6_numberOfLeadingZeros_73 rfl ?_
                refine w_iload_n dJ6_numberOfLeadingZeros_74 rfl ?_
                refine w_iconst dJ6_numberOfLeadingZeros_75 ic_1 ?_
                refine w_iushr dJ6_numberOfLeadingZeros_76 ?_
                refine w_eqi (pk_ushrN (n := ((m / 2 ^ 4) / 2 ^ 2)) (by omega) _ 1 (by decide)) ?_
                · skip
                  refine w_isub dJ6_numberOfLeadingZeros_77 ?_
                  refine w_iret dJ6_numberOfLeadingZeros_78 rfl ?_
                  have g22 := lt_nI (r := m) (n := 65536) (by omega) (by decide) hz2
                  have g37 := lt_nI (r := m) (n := 256) (by omega) (by decide) hz3
                  have g51 := nlt_nI (r := m) (n := 16) (by omega) (by decide) hz4
                  have g63 := nlt_nI (r := (m / 2 ^ 4)) (n := 4) (by omega) (by decide) hz6
                  have hp := hm2 hz1
                  by_cases h2 : ((m / 2 ^ 4) / 2 ^ 2) < 2
                  · have e1 : ((m / 2 ^ 4) / 2 ^ 2) / 2 ^ 1 = 0 := by omega
                    have e2 : bl m = 7 := bl_eq (by omega) (by omega)
                    rw [e1, e2]
                    exact ⟨by decide, rfl⟩
                  · have e1 : ((m / 2 ^ 4) / 2 ^ 2) / 2 ^ 1 = 1 := by omega
                    have e2 : bl m = 8 := bl_eq (by omega) (by omega)
                    rw [e1, e2]
                    exact ⟨by decide, rfl⟩
      · skip
        refine w_iinc dJ6_numberOfLeadingZeros_40 rfl rfl (by decide) rfl rfl ?_
        dsimp only [List.set]
        refine w_iload_n dJ6_numberOfLeadingZeros_43 rfl ?_
        refine w_bipush dJ6_numberOfLeadingZeros_44 bp_8 ?_
        refine w_iushr dJ6_numberOfLeadingZeros_46 ?_
        refine w_eqi (pk_ushrN (n := m) (by omega) _ 8 (by decide)) ?_
        · skip
          refine w_istore_n dJ6_numberOfLeadingZeros_47 (by decide) rfl rfl ?_
          dsimp only [List.set]
          refine w_iload_n dJ6_numberOfLeadingZeros_48 rfl ?_
          refine w_bipush dJ6_numberOfLeadingZeros_49 bp_16 ?_
          refine w_icmp_lt (t := 61) dJ6_numberOfLeadingZeros_51 (by decide) (fun hz7 => ?_) (fun hz7 => ?_)
          · skip
            refine w_iload_n dJ6_numberOfLeadingZeros_61 rfl ?_
            refine w_iconst dJ6_numberOfLeadingZeros_62 ic_4 ?_
            refine w_icmp_lt (t := 73) dJ6_numberOfLeadingZeros_63 (by decide) (fun hz8 => ?_) (fun hz8 => ?_)
            · skip
              refine w_iload_n dJ6_numberOfLeadingZeros_73 rfl ?_
              refine w_iload_n dJ6_numberOfLeadingZeros_74 rfl ?_
              refine w_iconst dJ6_numberOfLeadingZeros_75 ic_1 ?_
              refine w_iushr dJ6_numberOfLeadingZeros_76 ?_
              refine w_eqi (pk_ushrN (n := (m / 2 ^ 8)) (by omega) _ 1 (by decide)) ?_
              · skip
                refine w_isub dJ6_numberOfLeadingZeros_77 ?_
                refine w_iret dJ6_numberOfLeadingZeros_78 rfl ?_
                have g22 := lt_nI (r := m) (n := 65536) (by omega) (by decide) hz2
                have g37 := nlt_nI (r := m) (n := 256) (by omega) (by decide) hz3
                have g51 := lt_nI (r := (m / 2 ^ 8)) (n := 16) (by omega) (by decide) hz7
                have g63 := lt_nI (r := (m / 2 ^ 8)) (n := 4) (by omega) (by decide) hz8
                have hp := hm2 hz1
                by_cases h2 : (m / 2 ^ 8) < 2
                · have e1 : (m / 2 ^ 8) / 2 ^ 1 = 0 := by omega
                  have e2 : bl m = 9 := bl_eq (by omega) (by omega)
                  rw [e1, e2]
                  exact ⟨by decide, rfl⟩
                · have e1 : (m / 2 ^ 8) / 2 ^ 1 = 1 := by omega
                  have e2 : bl m = 10 := bl_eq (by omega) (by omega)
                  rw [e1, e2]
                  exact ⟨by decide, rfl⟩
            · skip
              refine w_iinc dJ6_numberOfLeadingZeros_66 rfl rfl (by decide) rfl rfl ?_
              dsimp only [List.set]
              refine w_iload_n dJ6_numberOfLeadingZeros_69 rfl ?_
              refine w_iconst dJ6_numberOfLeadingZeros_70 ic_2 ?_
              refine w_iushr dJ6_numberOfLeadingZeros_71 ?_
              refine w_eqi (pk_ushrN (n := (m / 2 ^ 8)) (by omega) _ 2 (by decide)) ?_
              · skip
                refine w_istore_n dJ6_numberOfLeadingZeros_72 (by decide) rfl rfl ?_
                dsimp only [List.set]
                refine w_iload_n dJ6_numberOfLeadingZeros_73 rfl ?_
                refine w_iload_n dJ6_numberOfLeadingZeros_74 rfl ?_
                refine w_iconst dJ6_numberOfLeadingZeros_75 ic_1 ?_
                refine w_iushr dJ6_numberOfLeadingZeros_76 ?_
                refine w_eqi (pk_ushrN (n := ((m / 2 ^ 8) / 2 ^ 2)) (by omega) _ 1 (by decide)) ?_
                · skip
                  refine w_isub dJ6_numberOfLeadingZeros_77 ?_
                  refine w_iret dJ6_numberOfLeadingZeros_78 rfl ?_
                  have g22 := lt_nI (r := m) (n := 65536) (by omega) (by decide) hz2
                  have g37 := nlt_nI (r := m) (n := 256) (by omega) (by decide) hz3
                  have g51 := lt_nI (r := (m / 2 ^ 8)) (n := 16) (by omega) (by decide) hz7
                  have g63 := nlt_nI (r := (m / 2 ^ 8)) (n := 4) (by omega) (by decide) hz8
                  have hp := hm2 hz1
                  by_cases h2 : ((m / 2 ^ 8) / 2 ^ 2) < 2
                  · have e1 : ((m / 2 ^ 8) / 2 ^ 2) / 2 ^ 1 = 0 := by omega
                    have e2 : bl m = 11 := bl_eq (by omega) (by omega)
                    rw [e1, e2]
                    exact ⟨by decide, rfl⟩
                  · have e1 : ((m / 2 ^ 8) / 2 ^ 2) / 2 ^ 1 = 1 := by omega
                    have e2 : bl m = 12 := bl_eq (by omega) (by omega)
                    rw [e1, e2]
                    exact ⟨by decide, rfl⟩
          · skip
            refine w_iinc dJ6_numberOfLeadingZeros_54 rfl rfl (by decide) rfl rfl ?_
            dsimp only [List.set]
            refine w_iload_n dJ6_numberOfLeadingZeros_57 rfl ?_
            refine w_iconst dJ6_numberOfLeadingZeros_58 ic_4 ?_
            refine w_iushr dJ6_numberOfLeadingZeros_59 ?_
            refine w_eqi (pk_ushrN (n := (m / 2 ^ 8)) (by omega) _ 4 (by decide)) ?_
            · skip
              refine w_istore_n dJ6_numberOfLeadingZeros_60 (by decide) rfl rfl ?_
              dsimp only [List.set]
              refine w_iload_n dJ6_numberOfLeadingZeros_61 rfl ?_
              refine w_iconst dJ6_numberOfLeadingZeros_62 ic_4 ?_
              refine w_icmp_lt (t := 73) dJ6_numberOfLeadingZeros_63 (by decide) (fun hz9 => ?_) (fun hz9 => ?_)
              · skip
                refine w_iload_n dJ6_numberOfLeadingZeros_73 rfl ?_
                refine w_iload_n dJ6_numberOfLeadingZeros_74 rfl ?_
                refine w_iconst dJ6_numberOfLeadingZeros_75 ic_1 ?_
                refine w_iushr dJ6_numberOfLeadingZeros_76 ?_
                refine w_eqi (pk_ushrN (n := ((m / 2 ^ 8) / 2 ^ 4)) (by omega) _ 1 (by decide)) ?_
                · skip
                  refine w_isub dJ6_numberOfLeadingZeros_77 ?_
                  refine w_iret dJ6_numberOfLeadingZeros_78 rfl ?_
                  have g22 := lt_nI (r := m) (n := 65536) (by omega) (by decide) hz2
                  have g37 := nlt_nI (r := m) (n := 256) (by omega) (by decide) hz3
                  have g51 := nlt_nI (r := (m / 2 ^ 8)) (n := 16) (by omega) (by decide) hz7
                  have g63 := lt_nI (r := ((m / 2 ^ 8) / 2 ^ 4)) (n := 4) (by omega) (by decide) hz9
                  have hp := hm2 hz1
                  by_cases h2 : ((m / 2 ^ 8) / 2 ^ 4) < 2
                  · have e1 : ((m / 2 ^ 8) / 2 ^ 4) / 2 ^ 1 = 0 := by omega
                    have e2 : bl m = 13 := bl_eq (by omega) (by omega)
                    rw [e1, e2]
                    exact ⟨by decide, rfl⟩
                  · have e1 : ((m / 2 ^ 8) / 2 ^ 4) / 2 ^ 1 = 1 := by omega
                    have e2 : bl m = 14 := bl_eq (by omega) (by omega)
                    rw [e1, e2]
                    exact ⟨by decide, rfl⟩
              · skip
                refine w_iinc dJ6_numberOfLeadingZeros_66 rfl rfl (by decide) rfl rfl ?_
                dsimp only [List.set]
                refine w_iload_n dJ6_numberOfLeadingZeros_69 rfl ?_
                refine w_iconst dJ6_numberOfLeadingZeros_70 ic_2 ?_
                refine w_iushr dJ6_numberOfLeadingZeros_71 ?_
                refine w_eqi (pk_ushrN (n := ((m / 2 ^ 8) / 2 ^ 4)) (by omega) _ 2 (by decide)) ?_
                · skip
                  refine w_istore_n dJ6_numberOfLeadingZeros_72 (by decide) rfl rfl ?_
                  dsimp only [List.set]
                  refine w_iload_n dJ6_numberOfLeadingZeros_73 rfl ?_
                  refine w_iload_n dJ6_numberOfLeadingZeros_74 rfl ?_
                  refine w_iconst dJ6_numberOfLeadingZeros_75 ic_1 ?_
                  refine w_iushr dJ6_numberOfLeadingZeros_76 ?_
                  refine w_eqi (pk_ushrN (n := (((m / 2 ^ 8) / 2 ^ 4) / 2 ^ 2)) (by omega) _ 1 (by decide)) ?_
                  · skip
                    refine w_isub dJ6_numberOfLeadingZeros_77 ?_
                    refine w_iret dJ6_numberOfLeadingZeros_78 rfl ?_
                    have g22 := lt_nI (r := m) (n := 65536) (by omega) (by decide) hz2
                    have g37 := nlt_nI (r := m) (n := 256) (by omega) (by decide) hz3
                    have g51 := nlt_nI (r := (m / 2 ^ 8)) (n := 16) (by omega) (by decide) hz7
                    have g63 := nlt_nI (r := ((m / 2 ^ 8) / 2 ^ 4)) (n := 4) (by omega) (by decide) hz9
                    have hp := hm2 hz1
                    by_cases h2 : (((m / 2 ^ 8) / 2 ^ 4) / 2 ^ 2) < 2
                    · have e1 : (((m / 2 ^ 8) / 2 ^ 4) / 2 ^ 2) / 2 ^ 1 = 0 := by omega
                      have e2 : bl m = 15 := bl_eq (by omega) (by omega)
                      rw [e1, e2]
                      exact ⟨by decide, rfl⟩
                    · have e1 : (((m / 2 ^ 8) / 2 ^ 4) / 2 ^ 2) / 2 ^ 1 = 1 := by omega
                      have e2 : bl m = 16 := bl_eq (by omega) (by omega)
                      rw [e1, e2]
                      exact ⟨by decide, rfl⟩
    · skip
      refine w_iinc dJ6_numberOfLeadingZeros_25 rfl rfl (by decide) rfl rfl ?_
      dsimp only [List.set]
      refine w_iload_n dJ6_numberOfLeadingZeros_28 rfl ?_
      refine w_bipush dJ6_numberOfLeadingZeros_29 bp_16 ?_
      refine w_iushr dJ6_numberOfLeadingZeros_31 ?_
      refine w_eqi (pk_ushrN (n := m) (by omega) _ 16 (by decide)) ?_
      · skip
        refine w_istore_n dJ6_numberOfLeadingZeros_32 (by decide) rfl rfl ?_
        dsimp only [List.set]
        refine w_iload_n dJ6_numberOfLeadingZeros_33 rfl ?_
        refine w_sipush dJ6_numberOfLeadingZeros_34 sp_256 ?_
        refine w_icmp_lt (t := 48) dJ6_numberOfLeadingZeros_37 (by decide) (fun hz10 => ?_) (fun hz10 => ?_)
        · skip
          refine w_iload_n dJ6_numberOfLeadingZeros_48 rfl ?_
          refine w_bipush dJ6_numberOfLeadingZeros_49 bp_16 ?_
          refine w_icmp_lt (t := 61) dJ6_numberOfLeadingZeros_51 (by decide) (fun hz11 => ?_) (fun hz11 => ?_)
          · skip
            refine w_iload_n dJ6_numberOfLeadingZeros_61 rfl ?_
            refine w_iconst dJ6_numberOfLeadingZeros_62 ic_4 ?_
            refine w_icmp_lt (t := 73) dJ6_numberOfLeadingZeros_63 (by decide) (fun hz12 => ?_) (fun hz12 => ?_)
            · skip
              refine w_iload_n dJ6_numberOfLeadingZeros_73 rfl ?_
              refine w_iload_n dJ6_numberOfLeadingZeros_74 rfl ?_
              refine w_iconst dJ6_numberOfLeadingZeros_75 ic_1 ?_
              refine w_iushr dJ6_numberOfLeadingZeros_76 ?_
              refine w_eqi (pk_ushrN (n := (m / 2 ^ 16)) (by omega) _ 1 (by decide)) ?_
              · skip
                refine w_isub dJ6_numberOfLeadingZeros_77 ?_
                refine w_iret dJ6_numberOfLeadingZeros_78 rfl ?_
                have g22 := nlt_nI (r := m) (n := 65536) (by omega) (by decide) hz2
                have g37 := lt_nI (r := (m / 2 ^ 16)) (n := 256) (by omega) (by decide) hz10
                have g51 := lt_nI (r := (m / 2 ^ 16)) (n := 16) (by omega) (by decide) hz11
                have g63 := lt_nI (r := (m / 2 ^ 16)) (n := 4) (by omega) (by decide) hz12
                have hp := hm2 hz1
                by_cases h2 : (m / 2 ^ 16) < 2
                · have e1 : (m / 2 ^ 16) / 2 ^ 1 = 0 := by omega
                  have e2 : bl m = 17 := bl_eq (by omega) (by omega)
                  rw [e1, e2]
                  exact ⟨by decide, rfl⟩
                · have e1 : (m / 2 ^ 16) / 2 ^ 1 = 1 := by omega
                  have e2 : bl m = 18 := bl_eq (by omega) (by omega)
                  rw [e1, e2]
                  exact ⟨by decide, rfl⟩
            · skip
              refine w_iinc dJ6_numberOfLeadingZeros_66 rfl rfl (by decide) rfl rfl ?_
              dsimp only [List.set]
              refine w_iload_n dJ6_numberOfLeadingZeros_69 rfl ?_
              refine w_iconst dJ6_numberOfLeadingZeros_70 ic_2 ?_
              refine w_iushr dJ6_numberOfLeadingZeros_71 ?_
              refine w_eqi (pk_ushrN (n := (m / 2 ^ 16)) (by omega) _ 2 (by decide)) ?_
              · skip
                refine w_istore_n dJ6_numberOfLeadingZeros_72 (by decide) rfl rfl ?_
                dsimp only [List.set]
                refine w_iload_n dJ6_numberOfLeadingZeros_73 rfl ?_
                refine w_iload_n dJ6_numberOfLeadingZeros_74 rfl ?_
                refine w_iconst dJ6_numberOfLeadingZeros_75 ic_1 ?_
                refine w_iushr dJ6_numberOfLeadingZeros_76 ?_
                refine w_eqi (pk_ushrN (n := ((m / 2 ^ 16) / 2 ^ 2)) (by omega) _ 1 (by decide)) ?_
                · skip
                  refine w_isub dJ6_numberOfLeadingZeros_77 ?_
                  refine w_iret dJ6_numberOfLeadingZeros_78 rfl ?_
                  have g22 := nlt_nI (r := m) (n := 65536) (by omega) (by decide) hz2
                  have g37 := lt_nI (r := (m / 2 ^ 16)) (n := 256) (by omega) (by decide) hz10
                  have g51 := lt_nI (r := (m / 2 ^ 16)) (n := 16) (by omega) (by decide) hz11
                  have g63 := nlt_nI (r := (m / 2 ^ 16)) (n := 4) (by omega) (by decide) hz12
                  have hp := hm2 hz1
                  by_cases h2 : ((m / 2 ^ 16) / 2 ^ 2) < 2
                  · have e1 : ((m / 2 ^ 16) / 2 ^ 2) / 2 ^ 1 = 0 := by omega
                    have e2 : bl m = 19 := bl_eq (by omega) (by omega)
                    rw [e1, e2]
                    exact ⟨by decide, rfl⟩
                  · have e1 : ((m / 2 ^ 16) / 2 ^ 2) / 2 ^ 1 = 1 := by omega
                    have e2 : bl m = 20 := bl_eq (by omega) (by omega)
                    rw [e1, e2]
                    exact ⟨by decide, rfl⟩
          · skip
            refine w_iinc dJ6_numberOfLeadingZeros_54 rfl rfl (by decide) rfl rfl ?_
            dsimp only [List.set]
            refine w_iload_n dJ6_numberOfLeadingZeros_57 rfl ?_
            refine w_iconst dJ6_numberOfLeadingZeros_58 ic_4 ?_
            refine w_iushr dJ6_numberOfLeadingZeros_59 ?_
            refine w_eqi (pk_ushrN (n := (m / 2 ^ 16)) (by omega) _ 4 (by decide)) ?_
            · skip
              refine w_istore_n dJ6_numberOfLeadingZeros_60 (by decide) rfl rfl ?_
              dsimp only [List.set]
              refine w_iload_n dJ6_numberOfLeadingZeros_61 rfl ?_
              refine w_iconst dJ6_numberOfLeadingZeros_62 ic_4 ?_
              refine w_icmp_lt (t := 73) dJ6_numberOfLeadingZeros_63 (by decide) (fun hz13 => ?_) (fun hz13 => ?_)
              · skip
                refine w_iload_n dJ6_numberOfLeadingZeros_73 rfl ?_
                refine w_iload_n dJ6_numberOfLeadingZeros_74 rfl ?_
                refine w_iconst dJ6_numberOfLeadingZeros_75 ic_1 ?_
                refine w_iushr dJ6_numberOfLeadingZeros_76 ?_
                refine w_eqi (pk_ushrN (n := ((m / 2 ^ 16) / 2 ^ 4)) (by omega) _ 1 (by decide)) ?_
                · skip
                  refine w_isub dJ6_numberOfLeadingZeros_77 ?_
                  refine w_iret dJ6_numberOfLeadingZeros_78 rfl ?_
                  have g22 := nlt_nI (r := m) (n := 65536) (by omega) (by decide) hz2
                  have g37 := lt_nI (r := (m / 2 ^ 16)) (n := 256) (by omega) (by decide) hz10
                  have g51 := nlt_nI (r := (m / 2 ^ 16)) (n := 16) (by omega) (by decide) hz11
                  have g63 := lt_nI (r := ((m / 2 ^ 16) / 2 ^ 4)) (n := 4) (by omega) (by decide) hz13
                  have hp := hm2 hz1
                  by_cases h2 : ((m / 2 ^ 16) / 2 ^ 4) < 2
                  · have e1 : ((m / 2 ^ 16) / 2 ^ 4) / 2 ^ 1 = 0 := by omega
                    have e2 : bl m = 21 := bl_eq (by omega) (by omega)
                    rw [e1, e2]
                    exact ⟨by decide, rfl⟩
                  · have e1 : ((m / 2 ^ 16) / 2 ^ 4) / 2 ^ 1 = 1 := by omega
                    have e2 : bl m = 22 := bl_eq (by omega) (by omega)
                    rw [e1, e2]
                    exact ⟨by decide, rfl⟩
              · skip
                refine w_iinc dJ6_numberOfLeadingZeros_66 rfl rfl (by decide) rfl rfl ?_
                dsimp only [List.set]
                refine w_iload_n dJ6_numberOfLeadingZeros_69 rfl ?_
                refine w_iconst dJ6_numberOfLeadingZeros_70 ic_2 ?_
                refine w_iushr dJ6_numberOfLeadingZeros_71 ?_
                refine w_eqi (pk_ushrN (n := ((m / 2 ^ 16) / 2 ^ 4)) (by omega) _ 2 (by decide)) ?_
                · skip
                  refine w_istore_n dJ6_numberOfLeadingZeros_72 (by decide) rfl rfl ?_
                  dsimp only [List.set]
                  refine w_iload_n dJ6_numberOfLeadingZeros_73 rfl ?_
                  refine w_iload_n dJ6_numberOfLeadingZeros_74 rfl ?_
                  refine w_iconst dJ6_numberOfLeadingZeros_75 ic_1 ?_
                  refine w_iushr dJ6_numberOfLeadingZeros_76 ?_
                  refine w_eqi (pk_ushrN (n := (((m / 2 ^ 16) / 2 ^ 4) / 2 ^ 2)) (by omega) _ 1 (by decide)) ?_
                  · skip
                    refine w_isub dJ6_numberOfLeadingZeros_77 ?_
                    refine w_iret dJ6_numberOfLeadingZeros_78 rfl ?_
                    have g22 := nlt_nI (r := m) (n := 65536) (by omega) (by decide) hz2
                    have g37 := lt_nI (r := (m / 2 ^ 16)) (n := 256) (by omega) (by decide) hz10
                    have g51 := nlt_nI (r := (m / 2 ^ 16)) (n := 16) (by omega) (by decide) hz11
                    have g63 := nlt_nI (r := ((m / 2 ^ 16) / 2 ^ 4)) (n := 4) (by omega) (by decide) hz13
                    have hp := hm2 hz1
                    by_cases h2 : (((m / 2 ^ 16) / 2 ^ 4) / 2 ^ 2) < 2
                    · have e1 : (((m / 2 ^ 16) / 2 ^ 4) / 2 ^ 2) / 2 ^ 1 = 0 := by omega
                      have e2 : bl m = 23 := bl_eq (by omega) (by omega)
                      rw [e1, e2]
                      exact ⟨by decide, rfl⟩
                    · have e1 : (((m / 2 ^ 16) / 2 ^ 4) / 2 ^ 2) / 2 ^ 1 = 1 := by omega
                      have e2 : bl m = 24 := bl_eq (by omega) (by omega)
                      rw [e1, e2]
                      exact ⟨by decide, rfl⟩
        · skip
          refine w_iinc dJ6_numberOfLeadingZeros_40 rfl rfl (by decide) rfl rfl ?_
          dsimp only [List.set]
          refine w_iload_n dJ6_numberOfLeadingZeros_43 rfl ?_
          refine w_bipush dJ6_numberOfLeadingZeros_44 bp_8 ?_
          refine w_iushr dJ6_numberOfLeadingZeros_46 ?_
          refine w_eqi (pk_ushrN (n := (m / 2 ^ 16)) (by omega) _ 8 (by decide)) ?_
          · skip
            refine w_istore_n dJ6_numberOfLeadingZeros_47 (by decide) rfl rfl ?_
            dsimp only [List.set]
            refine w_iload_n dJ6_numberOfLeadingZeros_48 rfl ?_
            refine w_bipush dJ6_numberOfLeadingZeros_49 bp_16 ?_
            refine w_icmp_lt (t := 61) dJ6_numberOfLeadingZeros_51 (by decide) (fun hz14 => ?_) (fun hz14 => ?_)
            · skip
              refine w_iload_n dJ6_numberOfLeadingZeros_61 rfl ?_
              refine w_iconst dJ6_numberOfLeadingZeros_62 ic_4 ?_
              refine w_icmp_lt (t := 73) dJ6_numberOfLeadingZeros_63 (by decide) (fun hz15 => ?_) (fun hz15 => ?_)
              · skip
                refine w_iload_n dJ6_numberOfLeadingZeros_73 rfl ?_
                refine w_iload_n dJ6_numberOfLeadingZeros_74 rfl ?_
                refine w_iconst dJ6_numberOfLeadingZeros_75 ic_1 ?_
                refine w_iushr dJ6_numberOfLeadingZeros_76 ?_
                refine w_eqi (pk_ushrN (n := ((m / 2 ^ 16) / 2 ^ 8)) (by omega) _ 1 (by decide)) ?_
                · skip
                  refine w_isub dJ6_numberOfLeadingZeros_77 ?_
                  refine w_iret dJ6_numberOfLeadingZeros_78 rfl ?_
                  have g22 := nlt_nI (r := m) (n := 65536) (by omega) (by decide) hz2
                  have g37 := nlt_nI (r := (m / 2 ^ 16)) (n := 256) (by omega) (by decide) hz10
                  have g51 := lt_nI (r := ((m / 2 ^ 16) / 2 ^ 8)) (n := 16) (by omega) (by decide) hz14
                  have g63 := lt_nI (r := ((m / 2 ^ 16) / 2 ^ 8)) (n := 4) (by omega) (by decide) hz15
                  have hp := hm2 hz1
                  by_cases h2 : ((m / 2 ^ 16) / 2 ^ 8) < 2
                  · have e1 : ((m / 2 ^ 16) / 2 ^ 8) / 2 ^ 1 = 0 := by omega
                    have e2 : bl m = 25 := bl_eq (by omega) (by omega)
                    rw [e1, e2]
                    exact ⟨by decide, rfl⟩
                  · have e1 : ((m / 2 ^ 16) / 2 ^ 8) / 2 ^ 1 = 1 := by omega
                    have e2 : bl m = 26 := bl_eq (by omega) (by omega)
                    rw [e1, e2]
                    exact ⟨by decide, rfl⟩
              · skip
                refine w_iinc dJ6_numberOfLeadingZeros_66 rfl rfl (by decide) rfl rfl ?_
                dsimp only [List.set]
                refine w_iload_n dJ6_numberOfLeadingZeros_69 rfl ?_
                refine w_iconst dJ6_numberOfLeadingZeros_70 ic_2 ?_
                refine w_iushr dJ6_numberOfLeadingZeros_71 ?_
                refine w_eqi (pk_ushrN (n := ((m / 2 ^ 16) / 2 ^ 8)) (by omega) _ 2 (by decide)) ?_
                · skip
                  refine w_istore_n dJ6_numberOfLeadingZeros_72 (by decide) rfl rfl ?_
                  dsimp only [List.set]
                  refine w_iload_n dJ6_numberOfLeadingZeros_73 rfl ?_
                  refine w_iload_n dJ6_numberOfLeadingZeros_74 rfl ?_
                  refine w_iconst dJ6_numberOfLeadingZeros_75 ic_1 ?_
                  refine w_iushr dJ6_numberOfLeadingZeros_76 ?_
                  refine w_eqi (pk_ushrN (n := (((m / 2 ^ 16) / 2 ^ 8) / 2 ^ 2)) (by omega) _ 1 (by decide)) ?_
                  · skip
                    refine w_isub dJ6_numberOfLeadingZeros_77 ?_
                    refine w_iret dJ6_numberOfLeadingZeros_78 rfl ?_
                    have g22 := nlt_nI (r := m) (n := 65536) (by omega) (by decide) hz2
                    have g37 := nlt_nI (r := (m / 2 ^ 16)) (n := 256) (by omega) (by decide) hz10
                    have g51 := lt_nI (r := ((m / 2 ^ 16) / 2 ^ 8)) (n := 16) (by omega) (by decide) hz14
                    have g63 := nlt_nI (r := ((m / 2 ^ 16) / 2 ^ 8)) (n := 4) (by omega) (by decide) hz15
                    have hp := hm2 hz1
                    by_cases h2 : (((m / 2 ^ 16) / 2 ^ 8) / 2 ^ 2) < 2
                    · have e1 : (((m / 2 ^ 16) / 2 ^ 8) / 2 ^ 2) / 2 ^ 1 = 0 := by omega
                      have e2 : bl m = 27 := bl_eq (by omega) (by omega)
                      rw [e1, e2]
                      exact ⟨by decide, rfl⟩
                    · have e1 : (((m / 2 ^ 16) / 2 ^ 8) / 2 ^ 2) / 2 ^ 1 = 1 := by omega
                      have e2 : bl m = 28 := bl_eq (by omega) (by omega)
                      rw [e1, e2]
                      exact ⟨by decide, rfl⟩
            · skip
              refine w_iinc dJ6_numberOfLeadingZeros_54 rfl rfl (by decide) rfl rfl ?_
              dsimp only [List.set]
              refine w_iload_n dJ6_numberOfLeadingZeros_57 rfl ?_
              refine w_iconst dJ6_numberOfLeadingZeros_58 ic_4 ?_
              refine w_iushr dJ6_numberOfLeadingZeros_59 ?_
              refine w_eqi (pk_ushrN (n := ((m / 2 ^ 16) / 2 ^ 8)) (by omega) _ 4 (by decide)) ?_
              · skip
                refine w_istore_n dJ6_numberOfLeadingZeros_60 (by decide) rfl rfl ?_
                dsimp only [List.set]
                refine w_iload_n dJ6_numberOfLeadingZeros_61 rfl ?_
                refine w_iconst dJ6_numberOfLeadingZeros_62 ic_4 ?_
                refine w_icmp_lt (t := 73) dJ6_numberOfLeadingZeros_63 (by decide) (fun hz16 => ?_) (fun hz16 => ?_)
                · skip
                  refine w_iload_n dJ6_numberOfLeadingZeros_73 rfl ?_
                  refine w_iload_n dJ6_numberOfLeadingZeros_74 rfl ?_
                  refine w_iconst dJ6_numberOfLeadingZeros_75 ic_1 ?_
                  refine w_iushr dJ6_numberOfLeadingZeros_76 ?_
                  refine w_eqi (pk_ushrN (n := (((m / 2 ^ 16) / 2 ^ 8) / 2 ^ 4)) (by omega) _ 1 (by decide)) ?_
                  · skip
                    refine w_isub dJ6_numberOfLeadingZeros_77 ?_
                    refine w_iret dJ6_numberOfLeadingZeros_78 rfl ?_
                    have g22 := nlt_nI (r := m) (n := 65536) (by omega) (by decide) hz2
                    have g37 := nlt_nI (r := (m / 2 ^ 16)) (n := 256) (by omega) (by decide) hz10
                    have g51 := nlt_nI (r := ((m / 2 ^ 16) / 2 ^ 8)) (n := 16) (by omega) (by decide) hz14
                    have g63 := lt_nI (r := (((m / 2 ^ 16) / 2 ^ 8) / 2 ^ 4)) (n := 4) (by omega) (by decide) hz16
                    have hp := hm2 hz1
                    by_cases h2 : (((m / 2 ^ 16) / 2 ^ 8) / 2 ^ 4) < 2
                    · have e1 : (((m / 2 ^ 16) / 2 ^ 8) / 2 ^ 4) / 2 ^ 1 = 0 := by omega
                      have e2 : bl m = 29 := bl_eq (by omega) (by omega)
                      rw [e1, e2]
                      exact ⟨by decide, rfl⟩
                    · have e1 : (((m / 2 ^ 16) / 2 ^ 8) / 2 ^ 4) / 2 ^ 1 = 1 := by omega
                      have e2 : bl m = 30 := bl_eq (by omega) (by omega)
                      rw [e1, e2]
                      exact ⟨by decide, rfl⟩
                · skip
                  refine w_iinc dJ6_numberOfLeadingZeros_66 rfl rfl (by decide) rfl rfl ?_
                  dsimp only [List.set]
                  refine w_iload_n dJ6_numberOfLeadingZeros_69 rfl ?_
                  refine w_iconst dJ6_numberOfLeadingZeros_70 ic_2 ?_
                  refine w_iushr dJ6_numberOfLeadingZeros_71 ?_
                  refine w_eqi (pk_ushrN (n := (((m / 2 ^ 16) / 2 ^ 8) / 2 ^ 4)) (by omega) _ 2 (by decide)) ?_
                  · skip
                    refine w_istore_n dJ6_numberOfLeadingZeros_72 (by decide) rfl rfl ?_
                    dsimp only [List.set]
                    refine w_iload_n dJ6_numberOfLeadingZeros_73 rfl ?_
                    refine w_iload_n dJ6_numberOfLeadingZeros_74 rfl ?_
                    refine w_iconst dJ6_numberOfLeadingZeros_75 ic_1 ?_
                    refine w_iushr dJ6_numberOfLeadingZeros_76 ?_
                    refine w_eqi (pk_ushrN (n := ((((m / 2 ^ 16) / 2 ^ 8) / 2 ^ 4) / 2 ^ 2)) (by omega) _ 1 (by decide)) ?_
                    · skip
                      refine w_isub dJ6_numberOfLeadingZeros_77 ?_
                      refine w_iret dJ6_numberOfLeadingZeros_78 rfl ?_
                      have g22 := nlt_nI (r := m) (n := 65536) (by omega) (by decide) hz2
                      have g37 := nlt_nI (r := (m / 2 ^ 16)) (n := 256) (by omega) (by decide) hz10
                      have g51 := nlt_nI (r := ((m / 2 ^ 16) / 2 ^ 8)) (n := 16) (by omega) (by decide) hz14
                      have g63 := nlt_nI (r := (((m / 2 ^ 16) / 2 ^ 8) / 2 ^ 4)) (n := 4) (by omega) (by decide) hz16
                      have hp := hm2 hz1
                      by_cases h2 : ((((m / 2 ^ 16) / 2 ^ 8) / 2 ^ 4) / 2 ^ 2) < 2
                      · have e1 : ((((m / 2 ^ 16) / 2 ^ 8) / 2 ^ 4) / 2 ^ 2) / 2 ^ 1 = 0 := by omega
                        have e2 : bl m = 31 := bl_eq (by omega) (by omega)
                        rw [e1, e2]
                        exact ⟨by decide, rfl⟩
                      · have e1 : ((((m / 2 ^ 16) / 2 ^ 8) / 2 ^ 4) / 2 ^ 2) / 2 ^ 1 = 1 := by omega
                        have e2 : bl m = 32 := bl_eq (by omega) (by omega)
                        rw [e1, e2]
                        exact ⟨by decide, rfl⟩
  · skip
    refine w_iload_n dJ6_numberOfLeadingZeros_4 rfl ?_
    refine w_if_ne (t := 13) dJ6_numberOfLeadingZeros_5 (by decide) (fun hz17 => ?_) (fun hz17 => ?_)
    · skip
      refine w_iconst dJ6_numberOfLeadingZeros_13 ic_0 ?_
      refine w_iret dJ6_numberOfLeadingZeros_14 rfl ?_
      exfalso
      exact hm1 hz1 hz17
    · skip
      refine w_bipush dJ6_numberOfLeadingZeros_8 bp_32 ?_
      refine w_goto (t := 14) dJ6_numberOfLeadingZeros_10 (by decide) ?_
      refine w_iret dJ6_numberOfLeadingZeros_14 rfl ?_
      exact ⟨by rw [show m = 0 from hm0 hz17]; rfl, rfl⟩
theorem bl_32 {m : Nat} (h : m < 2 ^ 24) : 32 - nI (32 - bl m) = nI (bl m) := by
  have h1 := bl_le.mpr h
  have h2 : ∀ b, b < 25 → 32 - nI (32 - b) = nI b := by decide
  exact h2 _ (by omega)
theorem shl24 {S a : Nat} (ha : a < 24) : (nI S <<< ((24 - nI a) &&& 31)).toBitVec.toNat = S <<< (24 - a) % 2 ^ 32 := by
  have hs : ∀ a, a < 24 → (((24 - nI a) &&& 31).toBitVec.smod 32).toNat = 24 - a := by decide
  rw [pk_shl _ _ (24 - a) (hs a ha), Nat.shiftLeft_eq]
  have e : (nI S).toBitVec.toNat = S % 2 ^ 32 := rfl
  rw [e, Nat.mod_mul_mod]
theorem tn_eq {S a : Nat} (hS : S < 2 ^ 24) (ha : a < 24) : ((((nI S).toUInt32 >>> ((nI a).toUInt32 &&& Int32.toUInt32 31)).toInt32 ||| (nI S <<< ((24 - nI a) &&& 31))) &&& 16777215) = nI (tn S a) := by
  have hs : ∀ a, a < 24 → (((nI a).toUInt32 &&& Int32.toUInt32 31).toBitVec % 32).toNat = a := by decide
  rw [pk_and _ 24 (by decide), Int32.toBitVec_or, BitVec.toNat_or, shl24 ha, pk_ushr _ _ a (hs a ha), pk_tn (by omega), ← Nat.shiftRight_eq_div_pow]
  rfl
set_option maxRecDepth 100000 in
set_option maxHeartbeats 800000 in
theorem c_hoursToCover (G : GT) (σ : Sg) (S a : Nat) (hS : S < 2 ^ 24) (ha : a < 24) : Evi G mX6_hoursToCover [.int (nI S), .int (nI a)] σ (nI (hcN S a)) (σ) := by
  refine Ev.ofL (m := 1) (L := [some (.int (nI S)), some (.int (nI a)), none]) rfl (Nat.le_of_ble_eq_true rfl) rfl rfl ?_
  refine w_iload_n dX6_hoursToCover_0 rfl ?_
  refine w_iload_n dX6_hoursToCover_1 rfl ?_
  refine w_iushr dX6_hoursToCover_2 ?_
  refine w_iload_n dX6_hoursToCover_3 rfl ?_
  refine w_bipush dX6_hoursToCover_4 bp_24 ?_
  refine w_iload_n dX6_hoursToCover_6 rfl ?_
  refine w_isub dX6_hoursToCover_7 ?_
  refine w_ishl dX6_hoursToCover_8 ?_
  refine w_ior dX6_hoursToCover_9 ?_
  refine w_ldcw dX6_hoursToCover_10 kc_X6_301 ?_
  refine w_iand dX6_hoursToCover_13 ?_
  refine w_eqi (tn_eq hS ha) ?_
  · skip
    refine w_istore_n dX6_hoursToCover_14 (by decide) rfl rfl ?_
    dsimp only [List.set]
    refine w_bipush dX6_hoursToCover_15 bp_32 ?_
    refine w_iload_n dX6_hoursToCover_17 rfl ?_
    refine w_callSi dX6_hoursToCover_18 ml_X6_302 ms_J6_numberOfLeadingZeros rfl (j6_nlz G _ (tn S a) (tn_lt S a)) rfl rfl (Nat.le_of_ble_eq_true rfl) ?_
    refine w_isub dX6_hoursToCover_21 ?_
    refine w_iret dX6_hoursToCover_22 rfl ?_
    exact ⟨by rw [bl_32 (tn_lt S a)]; rfl, rfl⟩
set_option maxRecDepth 100000 in
set_option maxHeartbeats 800000 in
theorem c_bestFrom (G : GT) (σ : Sg) (S : Nat) (hS : S < 2 ^ 24) : Evi G mX6_bestFrom [.int (nI S)] σ (nI (bf S 23)) (σ) := by
  refine Ev.ofL (m := 2) (L := [some (.int (nI S)), none, none]) rfl (Nat.le_of_ble_eq_true rfl) rfl rfl ?_
  refine w_iconst dX6_bestFrom_0 ic_0 ?_
  refine w_istore_n dX6_bestFrom_1 (by decide) rfl rfl ?_
  dsimp only [List.set]
  refine w_iconst dX6_bestFrom_2 ic_1 ?_
  refine w_istore_n dX6_bestFrom_3 (by decide) rfl rfl ?_
  dsimp only [List.set]
  have lp : ∀ (m : Nat) (i : Nat), 24 - i < m → i + 1 ≤ 24 → WP G mX6_bestFrom 4 [some (.int (nI S)), some (.int (nI (bf S i))), some (.int (nI (i + 1)))] [] (σ) (fun v σ' => v = some (.int (nI (bf S 23))) ∧ σ' = (σ)) := by
    intro m
    induction m with
    | zero => intro i hmz; exact absurd hmz (Nat.not_lt_zero _)
    | succ m ih =>
      intro i hmz hi
      refine w_iload_n dX6_bestFrom_4 rfl ?_
      refine w_bipush dX6_bestFrom_5 bp_24 ?_
      refine w2_icmp_ge (t := 31) dX6_bestFrom_7 (by decide) (fun hz1 => ?_) (fun hz1 => ?_)
      · skip
        have hge := nlt_nI (n := 24) (by omega) (by decide) hz1
        have hen : i = 23 := by omega
        subst hen
        refine w_iload_n dX6_bestFrom_31 rfl ?_
        refine w_iret dX6_bestFrom_32 rfl ?_
        exact ⟨rfl, rfl⟩
      · skip
        have hlt := lt_nI (n := 24) (by omega) (by decide) hz1
        refine w_iload_n dX6_bestFrom_10 rfl ?_
        refine w_iload_n dX6_bestFrom_11 rfl ?_
        refine w_callSi dX6_bestFrom_12 ml_X6_197 ms_X6_hoursToCover rfl (c_hoursToCover G _ S (i + 1) hS (by omega)) rfl rfl (Nat.le_of_ble_eq_true rfl) ?_
        refine w_iload_n dX6_bestFrom_15 rfl ?_
        refine w_iload_n dX6_bestFrom_16 rfl ?_
        refine w_callSi dX6_bestFrom_17 ml_X6_197 ms_X6_hoursToCover rfl (c_hoursToCover G _ S (bf S i) hS (by have := (bf_ok S i).1; omega)) rfl rfl (Nat.le_of_ble_eq_true rfl) ?_
        refine w2_icmp_ge (t := 25) dX6_bestFrom_20 (by decide) (fun hz2 => ?_) (fun hz2 => ?_)
        · skip
          have hb : ¬ hcN S (i + 1) < hcN S (bf S i) := fun z => hz2 ((nI_ltI (by have := hcN_le S (i + 1); omega) (by have := hcN_le S (bf S i); omega)).mpr z)
          have cc : (if hcN S (i + 1) < hcN S (bf S i) then i + 1 else bf S i) = bf S i := if_neg hb
          refine w_iincN (a := i + 1) (b := 1) dX6_bestFrom_25 rfl ic_1 (by decide) rfl rfl ?_
          dsimp only [List.set]
          refine w_goto (t := 4) dX6_bestFrom_28 (by decide) ?_
          have q0 := ih (i + 1) (by omega) (by omega)
          rw [bf_s, cc] at q0
          exact q0
        · skip
          have hb := (nI_ltI (by have := hcN_le S (i + 1); omega) (by have := hcN_le S (bf S i); omega)).mp hz2
          have cc : (if hcN S (i + 1) < hcN S (bf S i) then i + 1 else bf S i) = i + 1 := if_pos hb
          refine w_iload_n dX6_bestFrom_23 rfl ?_
          refine w_istore_n dX6_bestFrom_24 (by decide) rfl rfl ?_
          dsimp only [List.set]
          
          refine w_iincN (a := i + 1) (b := 1) dX6_bestFrom_25 rfl ic_1 (by decide) rfl rfl ?_
          dsimp only [List.set]
          refine w_goto (t := 4) dX6_bestFrom_28 (by decide) ?_
          have q0 := ih (i + 1) (by omega) (by omega)
          rw [bf_s, cc] at q0
          exact q0
  exact lp 25 0 (by omega) (by omega)
set_option maxRecDepth 100000 in
set_option maxHeartbeats 800000 in
theorem k_covers (G : GT) (σ : Sg) (μ : MO) (n : Nat) (hC : RC σ μ n) (r q : Int32) : Ev G mX6_covers [.ref 0, .int r, .int q] σ (CQ σ (M_covers μ r q)) := by
  have h8 := hC.rv.le
  have hn := hC.rv.n
  have hnR := hC.nn
  have hr1 : ∀ j, j < 8 → kd (σ.2.2 12 j) = 3 := hC.p1.kd pp1
  refine Ev.ofL (m := 1) (L := [some (.ref 0), some (.int r), some (.int q), none]) rfl (Nat.le_of_ble_eq_true rfl) rfl rfl ?_
  refine w_aload_n dX6_covers_0 rfl ?_
  refine w_iload_n dX6_covers_1 rfl ?_
  refine w_callVi dX6_covers_2 ml_X6_90 mv_X6_isRod rfl rfl (by decide) rfl (k_isRod G _ μ n hC _) rfl rfl (Nat.le_of_ble_eq_true rfl) ?_
  refine w_if_eq (t := 18) dX6_covers_5 (by decide) (fun hz1 => ?_) (fun hz1 => ?_)
  · skip
    refine w_aload_n dX6_covers_18 rfl ?_
    refine w_ldc dX6_covers_19 kc_X6_50 ?_
    refine w_callVi dX6_covers_21 ml_X6_51 mv_X6_tell rfl rfl (by decide) rfl (c_tell G _ _ 0 (by decide) (by decide)) rfl rfl (Nat.le_of_ble_eq_true rfl) ?_
    refine w_iret dX6_covers_24 rfl ?_
    first
    | exact CQ.fnd hC Mo.rfl (by decide) (by simp only [M_covers, hnR, if_true, if_false, eq_true hz1])
    | exact CQ.same hC Mo.rfl (by simp only [M_covers, hnR, if_true, if_false, eq_true hz1])
  · skip
    refine w_iload_n dX6_covers_8 rfl ?_
    refine w_iconst dX6_covers_9 ic_0 ?_
    refine w_bipush dX6_covers_10 bp_100 ?_
    refine w_callSi dX6_covers_12 ml_X6_66 ms_X6_isWithin rfl (c_isWithin G _ _ _ _) rfl rfl (Nat.le_of_ble_eq_true rfl) ?_
    refine w_if_ne (t := 25) dX6_covers_15 (by decide) (fun hz2 => ?_) (fun hz2 => ?_)
    · skip
      obtain ⟨k, hk, rfl⟩ := rod_of hz1 hn h8
      have hck : (nI k).toNatClampNeg = k := nI_clamp (by omega)
      obtain ⟨j, hj, rfl⟩ := in_0 (m := 100) hz2 rfl (by decide)
      have hcj : (nI j).toNatClampNeg = j := nI_clamp (by omega)
      · skip
        refine w_aload_n dX6_covers_25 rfl ?_
        refine w_iload_n dX6_covers_26 rfl ?_
        refine w_iload_n dX6_covers_27 rfl ?_
        refine w_callVqi dX6_covers_28 ml_X6_191 mv_X6_clocksOfBolts rfl rfl (by decide) rfl (k_clocksOf G _ μ n hC k j hk hj) rfl rfl (Nat.le_of_ble_eq_true rfl) (fun τ hg => ?_)
        obtain ⟨S, hS, eS⟩ := clk_nat (n := n) (k := k) hC.h5 j hj
        have hfe := few_eq hS
        have hbf := (bf_ok S 23).1
        have ed : (24 * hcN S (bf S 23) + bf S 23) / 24 = hcN S (bf S 23) := by omega
        have em : (24 * hcN S (bf S 23) + bf S 23) % 24 = bf S 23 := by omega
        refine w_eqi eS ?_
        · skip
          refine w_istore_n dX6_covers_31 (by decide) rfl rfl ?_
          dsimp only [List.set]
          refine w_iload_n dX6_covers_32 rfl ?_
          refine w_iload_n dX6_covers_33 rfl ?_
          refine w_callSi dX6_covers_34 ml_X6_194 ms_X6_bestFrom rfl (c_bestFrom G _ S hS) rfl rfl (Nat.le_of_ble_eq_true rfl) ?_
          refine w_callSi dX6_covers_37 ml_X6_197 ms_X6_hoursToCover rfl (c_hoursToCover G _ S (bf S 23) hS (by omega)) rfl rfl (Nat.le_of_ble_eq_true rfl) ?_
          refine w_iret dX6_covers_40 rfl ?_
          first
          | exact CQ.same (hC.gh hg) hg.mo (by simp only [M_covers, hnR, if_true, if_false, eq_false hz1, eq_false hz2, hck, hcj, eS, hfe, ed])
    · skip
      refine w_aload_n dX6_covers_18 rfl ?_
      refine w_ldc dX6_covers_19 kc_X6_50 ?_
      refine w_callVi dX6_covers_21 ml_X6_51 mv_X6_tell rfl rfl (by decide) rfl (c_tell G _ _ 0 (by decide) (by decide)) rfl rfl (Nat.le_of_ble_eq_true rfl) ?_
      refine w_iret dX6_covers_24 rfl ?_
      first
      | exact CQ.fnd hC Mo.rfl (by decide) (by simp only [M_covers, hnR, if_true, if_false, eq_false hz1, eq_true hz2])
      | exact CQ.same hC Mo.rfl (by simp only [M_covers, hnR, if_true, if_false, eq_false hz1, eq_true hz2])
set_option maxRecDepth 100000 in
set_option maxHeartbeats 800000 in
theorem k_from (G : GT) (σ : Sg) (μ : MO) (n : Nat) (hC : RC σ μ n) (r q : Int32) : Ev G mX6_from [.ref 0, .int r, .int q] σ (CQ σ (M_from μ r q)) := by
  have h8 := hC.rv.le
  have hn := hC.rv.n
  have hnR := hC.nn
  have hr1 : ∀ j, j < 8 → kd (σ.2.2 12 j) = 3 := hC.p1.kd pp1
  refine Ev.ofL (m := 0) (L := [some (.ref 0), some (.int r), some (.int q)]) rfl (Nat.le_of_ble_eq_true rfl) rfl rfl ?_
  refine w_aload_n dX6_from_0 rfl ?_
  refine w_iload_n dX6_from_1 rfl ?_
  refine w_callVi dX6_from_2 ml_X6_90 mv_X6_isRod rfl rfl (by decide) rfl (k_isRod G _ μ n hC _) rfl rfl (Nat.le_of_ble_eq_true rfl) ?_
  refine w_if_eq (t := 18) dX6_from_5 (by decide) (fun hz1 => ?_) (fun hz1 => ?_)
  · skip
    refine w_aload_n dX6_from_18 rfl ?_
    refine w_ldc dX6_from_19 kc_X6_50 ?_
    refine w_callVi dX6_from_21 ml_X6_51 mv_X6_tell rfl rfl (by decide) rfl (c_tell G _ _ 0 (by decide) (by decide)) rfl rfl (Nat.le_of_ble_eq_true rfl) ?_
    refine w_iret dX6_from_24 rfl ?_
    first
    | exact CQ.fnd hC Mo.rfl (by decide) (by simp only [M_from, hnR, if_true, if_false, eq_true hz1])
    | exact CQ.same hC Mo.rfl (by simp only [M_from, hnR, if_true, if_false, eq_true hz1])
  · skip
    refine w_iload_n dX6_from_8 rfl ?_
    refine w_iconst dX6_from_9 ic_0 ?_
    refine w_bipush dX6_from_10 bp_100 ?_
    refine w_callSi dX6_from_12 ml_X6_66 ms_X6_isWithin rfl (c_isWithin G _ _ _ _) rfl rfl (Nat.le_of_ble_eq_true rfl) ?_
    refine w_if_ne (t := 25) dX6_from_15 (by decide) (fun hz2 => ?_) (fun hz2 => ?_)
    · skip
      obtain ⟨k, hk, rfl⟩ := rod_of hz1 hn h8
      have hck : (nI k).toNatClampNeg = k := nI_clamp (by omega)
      obtain ⟨j, hj, rfl⟩ := in_0 (m := 100) hz2 rfl (by decide)
      have hcj : (nI j).toNatClampNeg = j := nI_clamp (by omega)
      · skip
        refine w_aload_n dX6_from_25 rfl ?_
        refine w_iload_n dX6_from_26 rfl ?_
        refine w_iload_n dX6_from_27 rfl ?_
        refine w_callVqi dX6_from_28 ml_X6_191 mv_X6_clocksOfBolts rfl rfl (by decide) rfl (k_clocksOf G _ μ n hC k j hk hj) rfl rfl (Nat.le_of_ble_eq_true rfl) (fun τ hg => ?_)
        obtain ⟨S, hS, eS⟩ := clk_nat (n := n) (k := k) hC.h5 j hj
        have hfe := few_eq hS
        have hbf := (bf_ok S 23).1
        have ed : (24 * hcN S (bf S 23) + bf S 23) / 24 = hcN S (bf S 23) := by omega
        have em : (24 * hcN S (bf S 23) + bf S 23) % 24 = bf S 23 := by omega
        refine w_eqi eS ?_
        · skip
          refine w_callSi dX6_from_31 ml_X6_194 ms_X6_bestFrom rfl (c_bestFrom G _ S hS) rfl rfl (Nat.le_of_ble_eq_true rfl) ?_
          refine w_iret dX6_from_34 rfl ?_
          first
          | exact CQ.same (hC.gh hg) hg.mo (by simp only [M_from, hnR, if_true, if_false, eq_false hz1, eq_false hz2, hck, hcj, eS, hfe, em])
    · skip
      refine w_aload_n dX6_from_18 rfl ?_
      refine w_ldc dX6_from_19 kc_X6_50 ?_
      refine w_callVi dX6_from_21 ml_X6_51 mv_X6_tell rfl rfl (by decide) rfl (c_tell G _ _ 0 (by decide) (by decide)) rfl rfl (Nat.le_of_ble_eq_true rfl) ?_
      refine w_iret dX6_from_24 rfl ?_
      first
      | exact CQ.fnd hC Mo.rfl (by decide) (by simp only [M_from, hnR, if_true, if_false, eq_false hz1, eq_true hz2])
      | exact CQ.same hC Mo.rfl (by simp only [M_from, hnR, if_true, if_false, eq_false hz1, eq_true hz2])
/-! a common divisor within a hundred steps -/
def GcI (x y i : Nat) : Prop := (∃ k, y < 2 ^ k ∧ 2 * k ≤ 100 - i) ∨ ∃ k, x < 2 ^ (k + 1) ∧ y < x ∧ 2 * k + 1 ≤ 100 - i
theorem GcI.step {x y i : Nat} (h : GcI x y i) (hy : 0 < y) : GcI y (x % y) (i + 1) := by
  rcases h with ⟨k, h1, h2⟩ | ⟨k, h1, h2, h3⟩
  · rcases k with _ | k
    · omega
    · exact Or.inr ⟨k, h1, Nat.mod_lt _ hy, by omega⟩
  · refine Or.inl ⟨k, ?_, by omega⟩
    rw [Nat.pow_succ] at h1
    have hm := Nat.mod_lt x hy
    have hd := Nat.div_add_mod x y
    have hq : 1 ≤ x / y := (Nat.one_le_div_iff hy).mpr (Nat.le_of_lt h2)
    have hyq : y * 1 ≤ y * (x / y) := Nat.mul_le_mul_left y hq
    omega
theorem GcI.end {x y i : Nat} (h : GcI x y i) (hi : 100 ≤ i) : y = 0 := by
  rcases h with ⟨k, h1, h2⟩ | ⟨k, h1, h2, h3⟩
  · have : k = 0 := by omega
    subst this
    omega
  · omega
theorem gcd_step (x y : Nat) : Nat.gcd y (x % y) = Nat.gcd x y := by
  rw [Nat.gcd_comm x y, Nat.gcd_rec y x, Nat.gcd_comm]
set_option maxRecDepth 100000 in
set_option maxHeartbeats 800000 in
theorem c_gcd (G : GT) (σ : Sg) (A B : Nat) (hA : A < 2 ^ 31) (hB : B < 2 ^ 31) : Evi G mX6_commonDivisor [.int (nI A), .int (nI B)] σ (nI (Nat.gcd A B)) (σ) := by
  refine Ev.ofL (m := 4) (L := [some (.int (nI A)), some (.int (nI B)), none, none, none, none]) rfl (Nat.le_of_ble_eq_true rfl) rfl rfl ?_
  refine w_iload_n dX6_commonDivisor_0 rfl ?_
  refine w_istore_n dX6_commonDivisor_1 (by decide) rfl rfl ?_
  dsimp only [List.set]
  refine w_iload_n dX6_commonDivisor_2 rfl ?_
  refine w_istore_n dX6_commonDivisor_3 (by decide) rfl rfl ?_
  dsimp only [List.set]
  refine w_iconst dX6_commonDivisor_4 ic_0 ?_
  refine w_istore dX6_commonDivisor_5 (by decide) rfl rfl ?_
  dsimp only [List.set]
  have lp : ∀ (m : Nat) (i x y : Nat) (w5 : Option Value), 100 - i < m → i ≤ 100 → GcI x y i → x < 2 ^ 31 → y < 2 ^ 31 → Nat.gcd x y = Nat.gcd A B → WP G mX6_commonDivisor 7 [some (.int (nI A)), some (.int (nI B)), some (.int (nI x)), some (.int (nI y)), some (.int (nI i)), w5] [] (σ) (fun v σ' => v = some (.int (nI (Nat.gcd A B))) ∧ σ' = (σ)) := by
    intro m
    induction m with
    | zero => intro i x y w5 hmz; exact absurd hmz (Nat.not_lt_zero _)
    | succ m ih =>
      intro i x y w5 hmz hi hg hx hy he
      refine w_iload dX6_commonDivisor_7 rfl ?_
      refine w_bipush dX6_commonDivisor_9 bp_100 ?_
      refine w2_icmp_ge (t := 34) dX6_commonDivisor_11 (by decide) (fun hz1 => ?_) (fun hz1 => ?_)
      · skip
        have hge := nlt_nI (n := 100) (by omega) (by decide) hz1
        have hy0 : y = 0 := hg.end hge
        refine w_iload_n dX6_commonDivisor_34 rfl ?_
        refine w_iret dX6_commonDivisor_35 rfl ?_
        subst hy0
        rw [Nat.gcd_zero_right] at he
        exact ⟨by rw [he], rfl⟩
      · skip
        have hlt := lt_nI (n := 100) (by omega) (by decide) hz1
        refine w_iload_n dX6_commonDivisor_14 rfl ?_
        refine w_if_eq (t := 34) dX6_commonDivisor_15 (by decide) (fun hz2 => ?_) (fun hz2 => ?_)
        · skip
          have hy0 : y = 0 := (nI_eq (b := 0) hy (by decide)).mp hz2
          refine w_iload_n dX6_commonDivisor_34 rfl ?_
          refine w_iret dX6_commonDivisor_35 rfl ?_
          subst hy0
          rw [Nat.gcd_zero_right] at he
          exact ⟨by rw [he], rfl⟩
        · skip
          have hyn := hz2
          have hy0 : 0 < y := Nat.pos_of_ne_zero (fun z => hyn (by rw [z]; rfl))
          have hml := Nat.mod_lt x hy0
          refine w_iload_n dX6_commonDivisor_18 rfl ?_
          refine w_iload_n dX6_commonDivisor_19 rfl ?_
          refine w_irem dX6_commonDivisor_20 hyn ?_
          refine w_eqi (pk_rem hx hy0 hy) ?_
          · skip
            refine w_istore dX6_commonDivisor_21 (by decide) rfl rfl ?_
            dsimp only [List.set]
            refine w_iload_n dX6_commonDivisor_23 rfl ?_
            refine w_istore_n dX6_commonDivisor_24 (by decide) rfl rfl ?_
            dsimp only [List.set]
            refine w_iload dX6_commonDivisor_25 rfl ?_
            refine w_istore_n dX6_commonDivisor_27 (by decide) rfl rfl ?_
            dsimp only [List.set]
            refine w_iincN (a := i) (b := 1) dX6_commonDivisor_28 rfl ic_1 (by decide) rfl rfl ?_
            dsimp only [List.set]
            refine w_goto (t := 7) dX6_commonDivisor_31 (by decide) ?_
            exact ih (i + 1) y (x % y) _ (by omega) (by omega) (hg.step hy0) hy (by omega) ((gcd_step x y).trans he)
  exact lp 101 0 A B none (by omega) (by omega) (Or.inl ⟨31, hB, by decide⟩) hA hB rfl
theorem draws_B {f : Nat → Int32} {r : Nat} {c : Int32} (h : RVg (rg f r)) (hc : iB c 0 15) : iB (p_draws f r c) 0 120 := by
  obtain ⟨b, hb, rfl⟩ := hc.nat (b := 15)
  obtain ⟨-, h1, h2, -⟩ := h
  obtain ⟨a, ha, e1⟩ := h1.nat (b := 15)
  obtain ⟨x, hx, e2⟩ := h2.nat (b := 60)
  have e1' : f (9 + 7 * r + 1) = nI a := e1
  have e2' : f (9 + 7 * r + 2) = nI x := e2
  unfold p_draws
  rw [e1', e2', (dw_ax a (by omega) b (by omega)).2]
  have hd : (if a < b then b - a else a - b) < 16 := by split <;> omega
  generalize (if a < b then b - a else a - b) = d at hd ⊢
  simp only []
  rw [(dw_pl x (by omega) d hd).2]
  have ad : ∀ u v : Nat, u + v ≤ 120 → iB (nI u + nI v) 0 120 := fun u v huv => by
    rw [nI_add]
    exact iB.of (b := 120) huv (by decide)
  split
  · exact ad (x - 4 * d) 8 (by omega)
  · split
    · exact ad (x - 4 * d) x (by omega)
    · split
      · split
        · exact iB_0 (b := 120) (by decide)
        · rename_i z
          have z2 : 3 ≤ x - 4 * d := nlt_nI (n := 3) (by omega) (by decide) z
          rw [show (3 : Int32) = nI 3 from rfl, pk_sub z2]
          exact iB.of (b := 120) (by omega) (by decide)
      · split
        · exact ad (x - 4 * d) 28 (by omega)
        · split
          · split
            · exact iB_0 (b := 120) (by decide)
            · rename_i z
              rw [nI_add] at z ⊢
              have z2 : 10 ≤ x - 4 * d + x := nlt_nI (n := 10) (by omega) (by decide) z
              rw [show (10 : Int32) = nI 10 from rfl, pk_sub z2]
              exact iB.of (b := 120) (by omega) (by decide)
          · exact iB.of (b := 120) (by omega) (by decide)
theorem drawSum_N {f : Nat → Int32} {n : Nat} (hv : RV f n) : ∀ m, m ≤ n → ∃ s, s ≤ 120 * m ∧ p_drawSum f (f 0) m = nI s ∧ ∀ k, k < m → ∃ d, d ≤ s ∧ d ≤ 120 ∧ p_draws f k (f 0) = nI d
  | 0, _ => ⟨0, by omega, rfl, fun k hk => absurd hk (Nat.not_lt_zero k)⟩
  | m + 1, hm => by
    obtain ⟨s, h1, h2, h3⟩ := drawSum_N hv m (by omega)
    obtain ⟨d, hd, e⟩ := (draws_B (hv.rod (show m < n by omega)) hv.at).nat (b := 120)
    refine ⟨s + d, by omega, by rw [p_drawSum, h2, e, nI_add], fun k hk => ?_⟩
    by_cases z : k = m
    · subst z
      exact ⟨d, by omega, hd, e⟩
    · obtain ⟨d', q1, q2, q3⟩ := h3 k (by omega)
      exact ⟨d', by omega, q2, q3⟩
theorem FkV_of {f : Nat → Int32} {n : Nat} (hv : RV f n) : FkV f n := by
  have h8 := hv.le
  obtain ⟨s, h1, h2, h3⟩ := drawSum_N hv n (Nat.le_refl _)
  obtain ⟨c, hc, ec⟩ := hv.ch.nat (b := 99)
  refine ⟨fun k hk => ?_, s, by omega, h2, fun k hk => ?_⟩
  · obtain ⟨d, q1, q2, q3⟩ := h3 k hk
    have := Nat.mul_le_mul q2 hc
    exact ⟨d * c, by omega, by rw [q3, ec, pk_mul]⟩
  · obtain ⟨d, q1, q2, q3⟩ := h3 k hk
    intro z
    rcases Nat.eq_zero_or_pos s with e | e
    · refine absurd ?_ z
      have : d = 0 := by omega
      subst this
      rw [q3, ec, pk_mul, Nat.zero_mul]
      rfl
    · exact e
theorem fork_N {f : Nat → Int32} {n k : Nat} (hv : RV f n) (hk : k < n) : ∃ A B : Nat, A < 2 ^ 31 ∧ B < 2 ^ 31 ∧ p_draws f k (f 0) * f 1 = nI A ∧ p_drawSum f (f 0) n = nI B ∧ p_forkA f k = A ∧ p_forkB f n k = if A = 0 then 1 else B := by
  have h8 := hv.le
  obtain ⟨s, h1, h2, h3⟩ := drawSum_N hv n (Nat.le_refl _)
  obtain ⟨c, hc, ec⟩ := hv.ch.nat (b := 99)
  obtain ⟨d, q1, q2, q3⟩ := h3 k hk
  have hm := Nat.mul_le_mul q2 hc
  have eA : p_draws f k (f 0) * f 1 = nI (d * c) := by rw [q3, ec, pk_mul]
  have eA2 : p_forkA f k = d * c := by
    unfold p_forkA
    rw [eA]
    exact nI_clamp (by omega)
  refine ⟨d * c, s, by omega, by omega, eA, h2, eA2, ?_⟩
  unfold p_forkB
  rw [eA2, h2, nI_clamp (by omega)]
set_option maxRecDepth 100000 in
set_option maxHeartbeats 800000 in
theorem k_fork (G : GT) (σ : Sg) (μ : MO) (n : Nat) (hC : RC σ μ n) (r part : Int32) : Ev G mX6_fork [.ref 0, .int r, .int part] σ (CQ σ (M_fork μ r part)) := by
  have h8 := hC.rv.le
  have hn := hC.rv.n
  have hnR := hC.nn
  have hr1 : ∀ j, j < 8 → kd (σ.2.2 12 j) = 3 := hC.p1.kd pp1
  refine Ev.ofL (m := 3) (L := [some (.ref 0), some (.int r), some (.int part), none, none, none]) rfl (Nat.le_of_ble_eq_true rfl) rfl rfl ?_
  refine w_aload_n dX6_fork_0 rfl ?_
  refine w_iload_n dX6_fork_1 rfl ?_
  refine w_callVi dX6_fork_2 ml_X6_90 mv_X6_isRod rfl rfl (by decide) rfl (k_isRod G _ μ n hC _) rfl rfl (Nat.le_of_ble_eq_true rfl) ?_
  refine w_if_eq (t := 17) dX6_fork_5 (by decide) (fun hz1 => ?_) (fun hz1 => ?_)
  · skip
    refine w_aload_n dX6_fork_17 rfl ?_
    refine w_ldc dX6_fork_18 kc_X6_50 ?_
    refine w_callVi dX6_fork_20 ml_X6_51 mv_X6_tell rfl rfl (by decide) rfl (c_tell G _ _ 0 (by decide) (by decide)) rfl rfl (Nat.le_of_ble_eq_true rfl) ?_
    refine w_iret dX6_fork_23 rfl ?_
    first
    | exact CQ.fnd hC Mo.rfl (by decide) (by simp only [M_fork, hnR, if_true, if_false, eq_true hz1])
    | exact CQ.same hC Mo.rfl (by simp only [M_fork, hnR, if_true, if_false, eq_true hz1])
  · skip
    refine w_iload_n dX6_fork_8 rfl ?_
    refine w_iconst dX6_fork_9 ic_0 ?_
    refine w_iconst dX6_fork_10 ic_1 ?_
    refine w_callSi dX6_fork_11 ml_X6_66 ms_X6_isWithin rfl (c_isWithin G _ _ _ _) rfl rfl (Nat.le_of_ble_eq_true rfl) ?_
    refine w_if_ne (t := 24) dX6_fork_14 (by decide) (fun hz2 => ?_) (fun hz2 => ?_)
    · skip
      obtain ⟨k, hk, rfl⟩ := rod_of hz1 hn h8
      have hck : (nI k).toNatClampNeg = k := nI_clamp (by omega)
      obtain ⟨A, B, hA, hB, eA, eB, fA, fB⟩ := fork_N hC.rv hk
      · skip
        refine w_aload_n dX6_fork_24 rfl ?_
        refine w_getR (t := 1) dX6_fork_25 fl_X6_10 rfl (by decide) (by decide) rfl ?_
        refine w_callVi dX6_fork_28 ml_X6_200 mv_X1_drawsOfAll rfl rfl (by decide) rfl (q1_drawsAll G _ 1 pp1 hC.rp hC.rv hC.p1) rfl rfl (Nat.le_of_ble_eq_true rfl) ?_
        refine w_eqi eB ?_
        · skip
          refine w_istore_n dX6_fork_31 (by decide) rfl rfl ?_
          dsimp only [List.set]
          refine w_aload_n dX6_fork_32 rfl ?_
          refine w_getR (t := 1) dX6_fork_33 fl_X6_10 rfl (by decide) (by decide) rfl ?_
          refine w_iload_n dX6_fork_36 rfl ?_
          refine w_callVi dX6_fork_37 ml_X6_203 mv_X1_forked rfl rfl (by decide) rfl (q1_forked G _ 1 pp1 hC.rp hC.rv hC.p1 k hk) rfl rfl (Nat.le_of_ble_eq_true rfl) ?_
          refine w_eqi eA ?_
          · skip
            refine w_istore dX6_fork_40 (by decide) rfl rfl ?_
            dsimp only [List.set]
            refine w_iload dX6_fork_42 rfl ?_
            refine w_iload_n dX6_fork_44 rfl ?_
            refine w_callSi dX6_fork_45 ml_X6_206 ms_X6_commonDivisor rfl (c_gcd G _ A B hA hB) rfl rfl (Nat.le_of_ble_eq_true rfl) ?_
            refine w_istore dX6_fork_48 (by decide) rfl rfl ?_
            dsimp only [List.set]
            refine w_iload dX6_fork_50 rfl ?_
            refine w_if_eq (t := 60) dX6_fork_52 (by decide) (fun hz3 => ?_) (fun hz3 => ?_)
            · skip
              refine w_iload_n dX6_fork_60 rfl ?_
              refine w_if_ne (t := 68) dX6_fork_61 (by decide) (fun hz4 => ?_) (fun hz4 => ?_)
              · skip
                refine w_iconst dX6_fork_68 ic_1 ?_
                refine w_iret dX6_fork_69 rfl ?_
                have zA : A = 0 := (nI_eq (b := 0) hA (by decide)).mp hz3
                rw [if_pos zA] at fB
                subst zA
                exact CQ.same hC Mo.rfl (by simp only [M_fork, hnR, hck, fA, fB, if_true, if_false, eq_false hz1, eq_false hz2, eq_false hz4]; rfl)
              · skip
                refine w_iconst dX6_fork_64 ic_0 ?_
                refine w_goto (t := 69) dX6_fork_65 (by decide) ?_
                refine w_iret dX6_fork_69 rfl ?_
                have zA : A = 0 := (nI_eq (b := 0) hA (by decide)).mp hz3
                rw [if_pos zA] at fB
                subst zA
                exact CQ.same hC Mo.rfl (by simp only [M_fork, hnR, hck, fA, fB, if_true, if_false, eq_false hz1, eq_false hz2, eq_true hz4]; rfl)
            · skip
              refine w_iload dX6_fork_55 rfl ?_
              refine w_if_ne (t := 70) dX6_fork_57 (by decide) (fun hz5 => ?_) (fun hz5 => ?_)
              · skip
                have zA : ¬ A = 0 := fun z => hz3 (by rw [z]; rfl)
                rw [if_neg zA] at fB
                have hgz := hz5
                have hg0 : 0 < Nat.gcd A B := Nat.gcd_pos_of_pos_left _ (Nat.pos_of_ne_zero zA)
                have hg1 : Nat.gcd A B < 2 ^ 31 := Nat.lt_of_le_of_lt (Nat.gcd_le_left _ (Nat.pos_of_ne_zero zA)) hA
                refine w_iload_n dX6_fork_70 rfl ?_
                refine w_if_ne (t := 82) dX6_fork_71 (by decide) (fun hz6 => ?_) (fun hz6 => ?_)
                · skip
                  refine w_iload_n dX6_fork_82 rfl ?_
                  refine w_iload dX6_fork_83 rfl ?_
                  refine w_idiv dX6_fork_85 hgz ?_
                  refine w_eqi (pk_div hB hg0 hg1) ?_
                  · skip
                    refine w_iret dX6_fork_86 rfl ?_
                    exact CQ.same hC Mo.rfl (by simp only [M_fork, hnR, hck, fA, fB, if_true, if_false, eq_false hz1, eq_false hz2, eq_false hz6])
                · skip
                  refine w_iload dX6_fork_74 rfl ?_
                  refine w_iload dX6_fork_76 rfl ?_
                  refine w_idiv dX6_fork_78 hgz ?_
                  refine w_eqi (pk_div hA hg0 hg1) ?_
                  · skip
                    refine w_goto (t := 86) dX6_fork_79 (by decide) ?_
                    refine w_iret dX6_fork_86 rfl ?_
                    exact CQ.same hC Mo.rfl (by simp only [M_fork, hnR, hck, fA, fB, if_true, if_false, eq_false hz1, eq_false hz2, eq_true hz6])
              · skip
                refine w_iload_n dX6_fork_60 rfl ?_
                refine w_if_ne (t := 68) dX6_fork_61 (by decide) (fun hz7 => ?_) (fun hz7 => ?_)
                · skip
                  refine w_iconst dX6_fork_68 ic_1 ?_
                  refine w_iret dX6_fork_69 rfl ?_
                  have zA : ¬ A = 0 := fun z => hz3 (by rw [z]; rfl)
                  exact absurd hz5 (nI_ne0 (Nat.gcd_pos_of_pos_left _ (Nat.pos_of_ne_zero zA)) (Nat.lt_of_le_of_lt (Nat.gcd_le_left _ (Nat.pos_of_ne_zero zA)) hA))
                · skip
                  refine w_iconst dX6_fork_64 ic_0 ?_
                  refine w_goto (t := 69) dX6_fork_65 (by decide) ?_
                  refine w_iret dX6_fork_69 rfl ?_
                  have zA : ¬ A = 0 := fun z => hz3 (by rw [z]; rfl)
                  exact absurd hz5 (nI_ne0 (Nat.gcd_pos_of_pos_left _ (Nat.pos_of_ne_zero zA)) (Nat.lt_of_le_of_lt (Nat.gcd_le_left _ (Nat.pos_of_ne_zero zA)) hA))
    · skip
      refine w_aload_n dX6_fork_17 rfl ?_
      refine w_ldc dX6_fork_18 kc_X6_50 ?_
      refine w_callVi dX6_fork_20 ml_X6_51 mv_X6_tell rfl rfl (by decide) rfl (c_tell G _ _ 0 (by decide) (by decide)) rfl rfl (Nat.le_of_ble_eq_true rfl) ?_
      refine w_iret dX6_fork_23 rfl ?_
      first
      | exact CQ.fnd hC Mo.rfl (by decide) (by simp only [M_fork, hnR, if_true, if_false, eq_false hz1, eq_true hz2])
      | exact CQ.same hC Mo.rfl (by simp only [M_fork, hnR, if_true, if_false, eq_false hz1, eq_true hz2])
set_option maxRecDepth 100000 in
set_option maxHeartbeats 800000 in
theorem k_share (G : GT) (σ : Sg) (μ : MO) (n : Nat) (hC : RC σ μ n) (r : Int32) : Ev G mX6_share [.ref 0, .int r] σ (CQ σ (M_share μ r)) := by
  have h8 := hC.rv.le
  have hn := hC.rv.n
  have hnR := hC.nn
  have hr1 : ∀ j, j < 8 → kd (σ.2.2 12 j) = 3 := hC.p1.kd pp1
  refine Ev.ofL (m := 6) (L := [some (.ref 0), some (.int r), none, none, none, none, none, none]) rfl (Nat.le_of_ble_eq_true rfl) rfl rfl ?_
  refine w_aload_n dX6_share_0 rfl ?_
  refine w_iload_n dX6_share_1 rfl ?_
  refine w_callVi dX6_share_2 ml_X6_90 mv_X6_isRod rfl rfl (by decide) rfl (k_isRod G _ μ n hC _) rfl rfl (Nat.le_of_ble_eq_true rfl) ?_
  refine w_if_ne (t := 15) dX6_share_5 (by decide) (fun hz1 => ?_) (fun hz1 => ?_)
  · skip
    obtain ⟨k, hk, rfl⟩ := rod_of hz1 hn h8
    have hck : (nI k).toNatClampNeg = k := nI_clamp (by omega)
    · skip
      refine w_aload_n dX6_share_15 rfl ?_
      refine w_getR (t := 1) dX6_share_16 fl_X6_10 rfl (by decide) (by decide) rfl ?_
      refine w_callVi dX6_share_19 ml_X6_200 mv_X1_drawsOfAll rfl rfl (by decide) rfl (q1_drawsAll G _ 1 pp1 hC.rp hC.rv hC.p1) rfl rfl (Nat.le_of_ble_eq_true rfl) ?_
      refine w_istore_n dX6_share_22 (by decide) rfl rfl ?_
      dsimp only [List.set]
      refine w_iload_n dX6_share_23 rfl ?_
      refine w_if_ne (t := 29) dX6_share_24 (by decide) (fun hz2 => ?_) (fun hz2 => ?_)
      · skip
        refine w_aload_n dX6_share_29 rfl ?_
        refine w_getR (t := 1) dX6_share_30 fl_X6_10 rfl (by decide) (by decide) rfl ?_
        refine w_getR (t := 9) dX6_share_33 fl_X6_55 rfl (by decide) (by decide) rfl ?_
        refine w_getI dX6_share_36 fl_X6_105 rfl rfl ?_
        refine w_eqi (hC.cl1 (by decide)) ?_
        refine w_istore_n dX6_share_39 (by decide) rfl rfl ?_
        dsimp only [List.set]
        refine w_iconst dX6_share_40 ic_0 ?_
        refine w_istore dX6_share_41 (by decide) rfl rfl ?_
        dsimp only [List.set]
        refine w_aload_n dX6_share_43 rfl ?_
        refine w_getR (t := 1) dX6_share_44 fl_X6_10 rfl (by decide) (by decide) rfl ?_
        refine w_iload_n dX6_share_47 rfl ?_
        refine w_callVi dX6_share_48 ml_X6_203 mv_X1_forked rfl rfl (by decide) rfl (q1_forked G _ 1 pp1 hC.rp hC.rv hC.p1 k hk) rfl rfl (Nat.le_of_ble_eq_true rfl) ?_
        refine w_iload_n dX6_share_51 rfl ?_
        refine w_irem dX6_share_52 hz2 ?_
        refine w_istore dX6_share_53 (by decide) rfl rfl ?_
        dsimp only [List.set]
        refine w_iconst dX6_share_55 ic_0 ?_
        refine w_istore dX6_share_56 (by decide) rfl rfl ?_
        dsimp only [List.set]
        have lp : ∀ (m : Nat) (i : Nat) (w7 : Option Value), n - i < m → i ≤ n → WP G mX6_share 58 [some (.ref 0), some (.int (nI k)), some (.int (p_drawSum μ.1 (μ.1 0) n)), some (.int (p_lft μ.1 (p_drawSum μ.1 (μ.1 0) n) i)), some (.int (p_ahd μ.1 (p_drawSum μ.1 (μ.1 0) n) (p_draws μ.1 k (μ.1 0) * μ.1 1) k i)), some (.int (p_rem (p_draws μ.1 k (μ.1 0) * μ.1 1) (p_drawSum μ.1 (μ.1 0) n))), some (.int (nI i)), w7] [] (σ) (CQ σ (M_share μ (nI k))) := by
          intro m
          induction m with
          | zero => intro i w7 hmz; exact absurd hmz (Nat.not_lt_zero _)
          | succ m ih =>
            intro i w7 hmz hi
            refine w_iload dX6_share_58 rfl ?_
            refine w_aload_n dX6_share_60 rfl ?_
            refine w_getR (t := 1) dX6_share_61 fl_X6_10 rfl (by decide) (by decide) rfl ?_
            refine w_getI dX6_share_64 fl_X6_86 rfl rfl ?_
            refine w_eqi hC.rp.n ?_
            refine w2_icmp_ge (t := 126) dX6_share_67 (by decide) (fun hz3 => ?_) (fun hz3 => ?_)
            · skip
              have hge := nlt_nI (by omega) (by omega) hz3
              have hen : i = n := by omega
              subst hen
              refine w_aload_n dX6_share_126 rfl ?_
              refine w_getR (t := 1) dX6_share_127 fl_X6_10 rfl (by decide) (by decide) rfl ?_
              refine w_iload_n dX6_share_130 rfl ?_
              refine w_callVi dX6_share_131 ml_X6_203 mv_X1_forked rfl rfl (by decide) rfl (q1_forked G _ 1 pp1 hC.rp hC.rv hC.p1 k hk) rfl rfl (Nat.le_of_ble_eq_true rfl) ?_
              refine w_iload_n dX6_share_134 rfl ?_
              refine w_idiv dX6_share_135 hz2 ?_
              refine w_iload dX6_share_136 rfl ?_
              refine w_iload_n dX6_share_138 rfl ?_
              refine w2_icmp_ge (t := 146) dX6_share_139 (by decide) (fun hz4 => ?_) (fun hz4 => ?_)
              · skip
                refine w_iconst dX6_share_146 ic_0 ?_
                refine w_iadd dX6_share_147 ?_
                refine w_iret dX6_share_148 rfl ?_
                exact CQ.same hC Mo.rfl (by simp only [M_share, p_share, hnR, hck, eq_false hz1, eq_false hz2, eq_false hz4, if_true, if_false])
              · skip
                refine w_iconst dX6_share_142 ic_1 ?_
                refine w_goto (t := 147) dX6_share_143 (by decide) ?_
                refine w_iadd dX6_share_147 ?_
                refine w_iret dX6_share_148 rfl ?_
                exact CQ.same hC Mo.rfl (by simp only [M_share, p_share, hnR, hck, eq_false hz1, eq_false hz2, eq_true hz4, if_true, if_false])
            · skip
              have hlt := lt_nI (by omega) (by omega) hz3
              refine w_iload_n dX6_share_70 rfl ?_
              refine w_aload_n dX6_share_71 rfl ?_
              refine w_getR (t := 1) dX6_share_72 fl_X6_10 rfl (by decide) (by decide) rfl ?_
              refine w_iload dX6_share_75 rfl ?_
              refine w_callVi dX6_share_77 ml_X6_203 mv_X1_forked rfl rfl (by decide) rfl (q1_forked G _ 1 pp1 hC.rp hC.rv hC.p1 i hlt) rfl rfl (Nat.le_of_ble_eq_true rfl) ?_
              refine w_iload_n dX6_share_80 rfl ?_
              refine w_idiv dX6_share_81 hz2 ?_
              refine w_isub dX6_share_82 ?_
              refine w_istore_n dX6_share_83 (by decide) rfl rfl ?_
              dsimp only [List.set]
              refine w_aload_n dX6_share_84 rfl ?_
              refine w_getR (t := 1) dX6_share_85 fl_X6_10 rfl (by decide) (by decide) rfl ?_
              refine w_iload dX6_share_88 rfl ?_
              refine w_callVi dX6_share_90 ml_X6_203 mv_X1_forked rfl rfl (by decide) rfl (q1_forked G _ 1 pp1 hC.rp hC.rv hC.p1 i hlt) rfl rfl (Nat.le_of_ble_eq_true rfl) ?_
              refine w_iload_n dX6_share_93 rfl ?_
              refine w_irem dX6_share_94 hz2 ?_
              refine w_istore dX6_share_95 (by decide) rfl rfl ?_
              dsimp only [List.set]
              refine w_iload dX6_share_97 rfl ?_
              refine w_iload dX6_share_99 rfl ?_
              refine w_icmp_gt (t := 117) dX6_share_101 (by decide) (fun hz5 => ?_) (fun hz5 => ?_)
              · skip
                have cc := eq_true (show p_rem (p_draws μ.1 k (μ.1 0) * μ.1 1) (p_drawSum μ.1 (μ.1 0) n) < p_rem (p_draws μ.1 i (μ.1 0) * μ.1 1) (p_drawSum μ.1 (μ.1 0) n) ∨ (p_rem (p_draws μ.1 i (μ.1 0) * μ.1 1) (p_drawSum μ.1 (μ.1 0) n) = p_rem (p_draws μ.1 k (μ.1 0) * μ.1 1) (p_drawSum μ.1 (μ.1 0) n) ∧ nI i < nI k) from Or.inl hz5)
                refine w_iinc dX6_share_117 rfl rfl (by decide) rfl rfl ?_
                dsimp only [List.set]
                
                refine w_iincN (a := i) (b := 1) dX6_share_120 rfl ic_1 (by decide) rfl rfl ?_
                dsimp only [List.set]
                refine w_goto (t := 58) dX6_share_123 (by decide) ?_
                have q0 := ih (i + 1) (some (.int (p_rem (p_draws μ.1 i (μ.1 0) * μ.1 1) (p_drawSum μ.1 (μ.1 0) n)))) (by omega) (by omega)
                simp only [p_lft, p_ahd, cc, if_true, if_false, Int32.add_zero] at q0
                exact q0
              · skip
                refine w_iload dX6_share_104 rfl ?_
                refine w_iload dX6_share_106 rfl ?_
                refine w_icmp_ne (t := 120) dX6_share_108 (by decide) (fun hz6 => ?_) (fun hz6 => ?_)
                · skip
                  have cc := eq_false (show ¬ (p_rem (p_draws μ.1 k (μ.1 0) * μ.1 1) (p_drawSum μ.1 (μ.1 0) n) < p_rem (p_draws μ.1 i (μ.1 0) * μ.1 1) (p_drawSum μ.1 (μ.1 0) n) ∨ (p_rem (p_draws μ.1 i (μ.1 0) * μ.1 1) (p_drawSum μ.1 (μ.1 0) n) = p_rem (p_draws μ.1 k (μ.1 0) * μ.1 1) (p_drawSum μ.1 (μ.1 0) n) ∧ nI i < nI k)) from fun z => z.elim hz5 (fun y => hz6 y.1))
                  refine w_iincN (a := i) (b := 1) dX6_share_120 rfl ic_1 (by decide) rfl rfl ?_
                  dsimp only [List.set]
                  refine w_goto (t := 58) dX6_share_123 (by decide) ?_
                  have q0 := ih (i + 1) (some (.int (p_rem (p_draws μ.1 i (μ.1 0) * μ.1 1) (p_drawSum μ.1 (μ.1 0) n)))) (by omega) (by omega)
                  simp only [p_lft, p_ahd, cc, if_true, if_false, Int32.add_zero] at q0
                  exact q0
                · skip
                  refine w_iload dX6_share_111 rfl ?_
                  refine w_iload_n dX6_share_113 rfl ?_
                  refine w2_icmp_ge (t := 120) dX6_share_114 (by decide) (fun hz7 => ?_) (fun hz7 => ?_)
                  · skip
                    have cc := eq_false (show ¬ (p_rem (p_draws μ.1 k (μ.1 0) * μ.1 1) (p_drawSum μ.1 (μ.1 0) n) < p_rem (p_draws μ.1 i (μ.1 0) * μ.1 1) (p_drawSum μ.1 (μ.1 0) n) ∨ (p_rem (p_draws μ.1 i (μ.1 0) * μ.1 1) (p_drawSum μ.1 (μ.1 0) n) = p_rem (p_draws μ.1 k (μ.1 0) * μ.1 1) (p_drawSum μ.1 (μ.1 0) n) ∧ nI i < nI k)) from fun z => z.elim hz5 (fun y => hz7 y.2))
                    refine w_iincN (a := i) (b := 1) dX6_share_120 rfl ic_1 (by decide) rfl rfl ?_
                    dsimp only [List.set]
                    refine w_goto (t := 58) dX6_share_123 (by decide) ?_
                    have q0 := ih (i + 1) (some (.int (p_rem (p_draws μ.1 i (μ.1 0) * μ.1 1) (p_drawSum μ.1 (μ.1 0) n)))) (by omega) (by omega)
                    simp only [p_lft, p_ahd, cc, if_true, if_false, Int32.add_zero] at q0
                    exact q0
                  · skip
                    have cc := eq_true (show p_rem (p_draws μ.1 k (μ.1 0) * μ.1 1) (p_drawSum μ.1 (μ.1 0) n) < p_rem (p_draws μ.1 i (μ.1 0) * μ.1 1) (p_drawSum μ.1 (μ.1 0) n) ∨ (p_rem (p_draws μ.1 i (μ.1 0) * μ.1 1) (p_drawSum μ.1 (μ.1 0) n) = p_rem (p_draws μ.1 k (μ.1 0) * μ.1 1) (p_drawSum μ.1 (μ.1 0) n) ∧ nI i < nI k) from Or.inr ⟨hz6, hz7⟩)
                    refine w_iinc dX6_share_117 rfl rfl (by decide) rfl rfl ?_
                    dsimp only [List.set]
                    
                    refine w_iincN (a := i) (b := 1) dX6_share_120 rfl ic_1 (by decide) rfl rfl ?_
                    dsimp only [List.set]
                    refine w_goto (t := 58) dX6_share_123 (by decide) ?_
                    have q0 := ih (i + 1) (some (.int (p_rem (p_draws μ.1 i (μ.1 0) * μ.1 1) (p_drawSum μ.1 (μ.1 0) n)))) (by omega) (by omega)
                    simp only [p_lft, p_ahd, cc, if_true, if_false, Int32.add_zero] at q0
                    exact q0
        exact lp (n + 1) 0 none (by omega) (by omega)
      · skip
        refine w_iconst dX6_share_27 ic_0 ?_
        refine w_iret dX6_share_28 rfl ?_
        exact CQ.same hC Mo.rfl (by simp only [M_share, p_share, hnR, hck, eq_false hz1, eq_true hz2, if_true, if_false])
  · skip
    refine w_aload_n dX6_share_8 rfl ?_
    refine w_ldc dX6_share_9 kc_X6_50 ?_
    refine w_callVi dX6_share_11 ml_X6_51 mv_X6_tell rfl rfl (by decide) rfl (c_tell G _ _ 0 (by decide) (by decide)) rfl rfl (Nat.le_of_ble_eq_true rfl) ?_
    refine w_iret dX6_share_14 rfl ?_
    first
    | exact CQ.fnd hC Mo.rfl (by decide) (by simp only [M_share, hnR, if_true, if_false, eq_true hz1])
    | exact CQ.same hC Mo.rfl (by simp only [M_share, hnR, if_true, if_false, eq_true hz1])
