/-! contracts whose answer and world are functions; calls of them; Math, statics, texts, arraycopy -/
abbrev Evi (G : GT) (M : MT) (as : List Value) (σ : Sg) (x : Int32) (σ1 : Sg) : Prop := Ev G M as σ (fun v σ' => v = some (.int x) ∧ σ' = σ1)
abbrev Evl (G : GT) (M : MT) (as : List Value) (σ : Sg) (x : Int64) (σ1 : Sg) : Prop := Ev G M as σ (fun v σ' => v = some (.long x) ∧ σ' = σ1)
abbrev Evv (G : GT) (M : MT) (as : List Value) (σ : Sg) (σ1 : Sg) : Prop := Ev G M as σ (fun v σ' => v = none ∧ σ' = σ1)
abbrev Evr (G : GT) (M : MT) (as : List Value) (σ : Sg) (x : Nat) (σ1 : Sg) : Prop := Ev G M as σ (fun v σ' => v = some (.ref x) ∧ σ' = σ1)
theorem cat_map {G : GT} {st : List Value} : ((st.map (cv G)).map fun v => v.category) = st.map fun v => v.category := by
  simp [List.map_map, Function.comp_def, cv_cat]
section MORE
variable {G : GT} {M : MT} {pc : Nat} {L : List (Option Value)} {st : List Value} {σ σ1 : Sg} {P : Option Value → Sg → Prop} {M' : MT} {idx n c ci : Nat} {as rest : List Value}
theorem w_callVi {x : Int32} (d : decode M.2.2.1 pc = .ok (.invokevirtual idx, 3)) (ml : Cond.methodLink M.1 idx M'.2.1 ∈ gt) (mv : MV M' n) (hR : fitR M M' = true) (hc : kd c = ci) (h8 : ci < 8) (hC : (clC ci).1 = M'.1) (ev : Evi G M' (.ref c :: as) σ x σ1) (hn : as.length = n) (hst : st = as.reverse ++ .ref c :: rest) (hw : (rest.map fun v => v.category).sum ≤ 8) (k : WP G M (pc + 3) L (.int x :: rest) σ1 P) : WP G M pc L st σ P :=
  w_callV0 d ml mv hR (rec_obj hc h8 hC) ev hn hst hw (fun v σ' h => by obtain ⟨rfl, rfl⟩ := h; exact k)
theorem w_callSi {x : Int32} (d : decode M.2.2.1 pc = .ok (.invokestatic idx, 3)) (ml : Cond.methodLink M.1 idx M'.2.1 ∈ gt) (mv : MS M' n) (hR : fitR M M' = true) (ev : Evi G M' as σ x σ1) (hn : as.length = n) (hst : st = as.reverse ++ rest) (hw : (rest.map fun v => v.category).sum ≤ 8) (k : WP G M (pc + 3) L (.int x :: rest) σ1 P) : WP G M pc L st σ P :=
  w_callS0 d ml mv hR ev hn hst hw (fun v σ' h => by obtain ⟨rfl, rfl⟩ := h; exact k)
theorem w_callNi {x : Int32} {host : String} (d : decode M.2.2.1 pc = .ok (.invokestatic idx, 3)) (ml : (M.1, idx, M'.2.1, host) ∈ nstL) (mv : MS M' n) (hR : fitR M M' = true) (ev : Evi G M' as σ x σ1) (hn : as.length = n) (hst : st = as.reverse ++ rest) (hw : (rest.map fun v => v.category).sum ≤ 8) (k : WP G M (pc + 3) L (.int x :: rest) σ1 P) : WP G M pc L st σ P :=
  w_callN0 d ml mv hR ev hn hst hw (fun v σ' h => by obtain ⟨rfl, rfl⟩ := h; exact k)
theorem w_callVl {x : Int64} (d : decode M.2.2.1 pc = .ok (.invokevirtual idx, 3)) (ml : Cond.methodLink M.1 idx M'.2.1 ∈ gt) (mv : MV M' n) (hR : fitR M M' = true) (hc : kd c = ci) (h8 : ci < 8) (hC : (clC ci).1 = M'.1) (ev : Evl G M' (.ref c :: as) σ x σ1) (hn : as.length = n) (hst : st = as.reverse ++ .ref c :: rest) (hw : (rest.map fun v => v.category).sum ≤ 8) (k : WP G M (pc + 3) L (.long x :: rest) σ1 P) : WP G M pc L st σ P :=
  w_callV0 d ml mv hR (rec_obj hc h8 hC) ev hn hst hw (fun v σ' h => by obtain ⟨rfl, rfl⟩ := h; exact k)
theorem w_callSl {x : Int64} (d : decode M.2.2.1 pc = .ok (.invokestatic idx, 3)) (ml : Cond.methodLink M.1 idx M'.2.1 ∈ gt) (mv : MS M' n) (hR : fitR M M' = true) (ev : Evl G M' as σ x σ1) (hn : as.length = n) (hst : st = as.reverse ++ rest) (hw : (rest.map fun v => v.category).sum ≤ 8) (k : WP G M (pc + 3) L (.long x :: rest) σ1 P) : WP G M pc L st σ P :=
  w_callS0 d ml mv hR ev hn hst hw (fun v σ' h => by obtain ⟨rfl, rfl⟩ := h; exact k)
theorem w_callNl {x : Int64} {host : String} (d : decode M.2.2.1 pc = .ok (.invokestatic idx, 3)) (ml : (M.1, idx, M'.2.1, host) ∈ nstL) (mv : MS M' n) (hR : fitR M M' = true) (ev : Evl G M' as σ x σ1) (hn : as.length = n) (hst : st = as.reverse ++ rest) (hw : (rest.map fun v => v.category).sum ≤ 8) (k : WP G M (pc + 3) L (.long x :: rest) σ1 P) : WP G M pc L st σ P :=
  w_callN0 d ml mv hR ev hn hst hw (fun v σ' h => by obtain ⟨rfl, rfl⟩ := h; exact k)
theorem w_callVr {x : Nat} (d : decode M.2.2.1 pc = .ok (.invokevirtual idx, 3)) (ml : Cond.methodLink M.1 idx M'.2.1 ∈ gt) (mv : MV M' n) (hR : fitR M M' = true) (hc : kd c = ci) (h8 : ci < 8) (hC : (clC ci).1 = M'.1) (ev : Evr G M' (.ref c :: as) σ x σ1) (hn : as.length = n) (hst : st = as.reverse ++ .ref c :: rest) (hw : (rest.map fun v => v.category).sum ≤ 8) (k : WP G M (pc + 3) L (.ref x :: rest) σ1 P) : WP G M pc L st σ P :=
  w_callV0 d ml mv hR (rec_obj hc h8 hC) ev hn hst hw (fun v σ' h => by obtain ⟨rfl, rfl⟩ := h; exact k)
theorem w_callSr {x : Nat} (d : decode M.2.2.1 pc = .ok (.invokestatic idx, 3)) (ml : Cond.methodLink M.1 idx M'.2.1 ∈ gt) (mv : MS M' n) (hR : fitR M M' = true) (ev : Evr G M' as σ x σ1) (hn : as.length = n) (hst : st = as.reverse ++ rest) (hw : (rest.map fun v => v.category).sum ≤ 8) (k : WP G M (pc + 3) L (.ref x :: rest) σ1 P) : WP G M pc L st σ P :=
  w_callS0 d ml mv hR ev hn hst hw (fun v σ' h => by obtain ⟨rfl, rfl⟩ := h; exact k)
theorem w_callNr {x : Nat} {host : String} (d : decode M.2.2.1 pc = .ok (.invokestatic idx, 3)) (ml : (M.1, idx, M'.2.1, host) ∈ nstL) (mv : MS M' n) (hR : fitR M M' = true) (ev : Evr G M' as σ x σ1) (hn : as.length = n) (hst : st = as.reverse ++ rest) (hw : (rest.map fun v => v.category).sum ≤ 8) (k : WP G M (pc + 3) L (.ref x :: rest) σ1 P) : WP G M pc L st σ P :=
  w_callN0 d ml mv hR ev hn hst hw (fun v σ' h => by obtain ⟨rfl, rfl⟩ := h; exact k)
theorem w_callVv (d : decode M.2.2.1 pc = .ok (.invokevirtual idx, 3)) (ml : Cond.methodLink M.1 idx M'.2.1 ∈ gt) (mv : MV M' n) (hR : fitR M M' = true) (hc : kd c = ci) (h8 : ci < 8) (hC : (clC ci).1 = M'.1) (ev : Evv G M' (.ref c :: as) σ σ1) (hn : as.length = n) (hst : st = as.reverse ++ .ref c :: rest) (hw : (rest.map fun v => v.category).sum ≤ 8) (k : WP G M (pc + 3) L rest σ1 P) : WP G M pc L st σ P :=
  w_callV0 d ml mv hR (rec_obj hc h8 hC) ev hn hst hw (fun v σ' h => by obtain ⟨rfl, rfl⟩ := h; exact k)
theorem w_callSv (d : decode M.2.2.1 pc = .ok (.invokestatic idx, 3)) (ml : Cond.methodLink M.1 idx M'.2.1 ∈ gt) (mv : MS M' n) (hR : fitR M M' = true) (ev : Evv G M' as σ σ1) (hn : as.length = n) (hst : st = as.reverse ++ rest) (hw : (rest.map fun v => v.category).sum ≤ 8) (k : WP G M (pc + 3) L rest σ1 P) : WP G M pc L st σ P :=
  w_callS0 d ml mv hR ev hn hst hw (fun v σ' h => by obtain ⟨rfl, rfl⟩ := h; exact k)
theorem w_callVp {P' : Option Value → Sg → Prop} (d : decode M.2.2.1 pc = .ok (.invokevirtual idx, 3)) (ml : Cond.methodLink M.1 idx M'.2.1 ∈ gt) (mv : MV M' n) (hR : fitR M M' = true) (hc : kd c = ci) (h8 : ci < 8) (hC : (clC ci).1 = M'.1) (ev : Ev G M' (.ref c :: as) σ P') (hn : as.length = n) (hst : st = as.reverse ++ .ref c :: rest) (hw : (rest.map fun v => v.category).sum ≤ 8) (k : ∀ v σ', P' v σ' → WP G M (pc + 3) L (v.toList ++ rest) σ' P) : WP G M pc L st σ P :=
  w_callV0 d ml mv hR (rec_obj hc h8 hC) ev hn hst hw k
-- Math
theorem w_max {x y : Int32} (d : decode M.2.2.1 pc = .ok (.invokestatic idx, 3)) (ml : Cond.methodLink M.1 idx Lib.Math.max.name ∈ gt) (mm : Cond.static Lib.Math.max.name ∈ gt ∧ Cond.initialized "java/lang/Math" ∈ gt ∧ Cond.code Lib.Math.max.name Lib.Math.max.code 2 (some .int) ∈ gt) (hR : (decide (1 ≤ M.2.2.2.2.2.1) && decide ((st.map fun v => v.category).sum + 13 ≤ M.2.2.2.2.2.2)) = true)
    (k : WP G M (pc + 3) L (.int (if x < y then y else x) :: st) σ P) : WP G M pc L (.int y :: .int x :: st) σ P := by
  intro l p e s m args below meth cd H locs ls C hW hS hl
  simp only [Bool.and_eq_true, decide_eq_true_eq] at hR
  exact va_mmax C.1 C.2.1 (C.2.2.2.1.trans hl.1.symm) C.2.2.2.2.1 (hts_gt C _ ml) (hts_gt C _ mm.1) (hts_gt C _ mm.2.1) (hts_gt C _ mm.2.2) hR.1 (by rw [cat_map]; exact hR.2) (Nat.zero_le _) (Nat.zero_le _) d (k l p e s m args below meth cd H locs ls C hW hS hl)
theorem w_min {x y : Int32} (d : decode M.2.2.1 pc = .ok (.invokestatic idx, 3)) (ml : Cond.methodLink M.1 idx Lib.Math.min.name ∈ gt) (mm : Cond.static Lib.Math.min.name ∈ gt ∧ Cond.initialized "java/lang/Math" ∈ gt ∧ Cond.code Lib.Math.min.name Lib.Math.min.code 2 (some .int) ∈ gt) (hR : (decide (1 ≤ M.2.2.2.2.2.1) && decide ((st.map fun v => v.category).sum + 13 ≤ M.2.2.2.2.2.2)) = true)
    (k : WP G M (pc + 3) L (.int (if y < x then y else x) :: st) σ P) : WP G M pc L (.int y :: .int x :: st) σ P := by
  intro l p e s m args below meth cd H locs ls C hW hS hl
  simp only [Bool.and_eq_true, decide_eq_true_eq] at hR
  exact va_mmin C.1 C.2.1 (C.2.2.2.1.trans hl.1.symm) C.2.2.2.2.1 (hts_gt C _ ml) (hts_gt C _ mm.1) (hts_gt C _ mm.2.1) (hts_gt C _ mm.2.2) hR.1 (by rw [cat_map]; exact hR.2) (Nat.zero_le _) (Nat.zero_le _) d (k l p e s m args below meth cd H locs ls C hW hS hl)
theorem w_abs {x : Int32} (d : decode M.2.2.1 pc = .ok (.invokestatic idx, 3)) (ml : Cond.methodLink M.1 idx Lib.Math.abs.name ∈ gt) (mm : Cond.static Lib.Math.abs.name ∈ gt ∧ Cond.initialized "java/lang/Math" ∈ gt ∧ Cond.code Lib.Math.abs.name Lib.Math.abs.code 1 (some .int) ∈ gt) (hR : (decide (1 ≤ M.2.2.2.2.2.1) && decide ((st.map fun v => v.category).sum + 13 ≤ M.2.2.2.2.2.2)) = true)
    (k : WP G M (pc + 3) L (.int (if 0 ≤ x then x else 0 - x) :: st) σ P) : WP G M pc L (.int x :: st) σ P := by
  intro l p e s m args below meth cd H locs ls C hW hS hl
  simp only [Bool.and_eq_true, decide_eq_true_eq] at hR
  exact va_mabs C.1 C.2.1 (C.2.2.2.1.trans hl.1.symm) C.2.2.2.2.1 (hts_gt C _ ml) (hts_gt C _ mm.1) (hts_gt C _ mm.2.1) (hts_gt C _ mm.2.2) hR.1 (by rw [cat_map]; exact hR.2) (Nat.zero_le _) (Nat.zero_le _) d (k l p e s m args below meth cd H locs ls C hW hS hl)
-- the tables LEAST (98) and MOST (99)
theorem w_gets98 (d : decode M.2.2.1 pc = .ok (.getstatic idx, 3)) (f : Cond.fieldLink M.1 idx RX0 "LEAST" "[I" ∈ gt) (k : WP G M (pc + 3) L (.ref 98 :: st) σ P) : WP G M pc L st σ P :=
  fun l p e s m args below meth cd H locs ls C hW hS hl => va_gets C.1 C.2.1 C.2.2.2.2.2.2.2.2.2.1.1 hS C.2.2.2.2.1 (hts_gt C _ f) (fun _ h => h) d (k l p e s m args below meth cd H locs ls C hW hS hl)
theorem w_gets99 (d : decode M.2.2.1 pc = .ok (.getstatic idx, 3)) (f : Cond.fieldLink M.1 idx RX0 "MOST" "[I" ∈ gt) (k : WP G M (pc + 3) L (.ref 99 :: st) σ P) : WP G M pc L st σ P :=
  fun l p e s m args below meth cd H locs ls C hW hS hl => va_gets C.1 C.2.1 C.2.2.2.2.2.2.2.2.2.2.1.1 hS C.2.2.2.2.1 (hts_gt C _ f) (fun _ h => h) d (k l p e s m args below meth cd H locs ls C hW hS hl)
theorem w_ild98 {i : Int32} {j : Nat} (d : decode M.2.2.1 pc = .ok (.iaload, 1)) (hi : i = nI j) (hj : j < 5) (k : WP G M (pc + 1) L (.int (lstF j) :: st) σ P) : WP G M pc L (.int i :: .ref 98 :: st) σ P := by
  intro l p e s m args below meth cd H locs ls C hW hS hl
  exact va_ti C.1 C.2.1 C.2.2.2.2.2.2.2.2.2.1.2 hS (by rw [hi]; exact vp_in_nI hj (by decide)) (by rw [nI_cl hi (by omega)]; rfl) d (k l p e s m args below meth cd H locs ls C hW hS hl)
theorem w_ild99 {i : Int32} {j : Nat} (d : decode M.2.2.1 pc = .ok (.iaload, 1)) (hi : i = nI j) (hj : j < 5) (k : WP G M (pc + 1) L (.int (mstF j) :: st) σ P) : WP G M pc L (.int i :: .ref 99 :: st) σ P := by
  intro l p e s m args below meth cd H locs ls C hW hS hl
  exact va_ti C.1 C.2.1 C.2.2.2.2.2.2.2.2.2.2.1.2 hS (by rw [hi]; exact vp_in_nI hj (by decide)) (by rw [nI_cl hi (by omega)]; rfl) d (k l p e s m args below meth cd H locs ls C hW hS hl)
-- texts: string i is 100 + i, its bytes 200 + i
theorem stS {p : Program} {s : State} {m : MethodId} {args : Array Value} {meth : Method} {c : Code} (C : Cx G M p s m args meth c) : vk_S 17 sLen sByt (fun i => G.2.1 (100 + i)) (fun i => G.2.1 (200 + i)) (AG G) s s.heap := C.2.2.2.2.2.2.2.2.2.2.2.2.1
theorem w_ldcS {i : Nat} (hi : i < 17) (d : decode M.2.2.1 pc = .ok (.ldc (sIx.getD i 0), 2)) (hM : M.1 = RX2) (k : WP G M (pc + 2) L (.ref (100 + i) :: st) σ P) : WP G M pc L st σ P := by
  intro l p e s m args below meth cd H locs ls C hW hS hl
  have h := C.2.2.2.2.2.2.2.2.2.2.2.2.2.1 i hi
  exact va_ldcS C.1 C.2.1 (hM ▸ C.2.2.2.2.1) h d (k l p e s m args below meth cd H locs ls C hW hS hl)
theorem w_strV {i : Nat} (hi : i < 17) (d : decode M.2.2.1 pc = .ok (.getfield idx, 3)) (f : Cond.fieldLink M.1 idx "java/lang/String" "value" "[B" ∈ gt) (k : WP G M (pc + 3) L (.ref (200 + i) :: st) σ P) : WP G M pc L (.ref (100 + i) :: st) σ P :=
  fun l p e s m args below meth cd H locs ls C hW hS hl => vk_getf C.1 C.2.1 ((stS C).1 i hi).2.2.1 hS C.2.2.2.2.1 (hts_gt C _ f) (fun _ h => h) d (k l p e s m args below meth cd H locs ls C hW hS hl)
theorem w_strC {i : Nat} (hi : i < 17) (d : decode M.2.2.1 pc = .ok (.getfield idx, 3)) (f : Cond.fieldLink M.1 idx "java/lang/String" "coder" "B" ∈ gt) (k : WP G M (pc + 3) L (.int 0 :: st) σ P) : WP G M pc L (.ref (100 + i) :: st) σ P :=
  fun l p e s m args below meth cd H locs ls C hW hS hl => vk_getf C.1 C.2.1 ((stS C).1 i hi).2.1 hS C.2.2.2.2.1 (hts_gt C _ f) (fun _ h => h) d (k l p e s m args below meth cd H locs ls C hW hS hl)
theorem w_strLen {i : Nat} (hi : i < 17) (d : decode M.2.2.1 pc = .ok (.arraylength, 1)) (k : WP G M (pc + 1) L (.int (nI (sLen.getD i 0)) :: st) σ P) : WP G M pc L (.ref (200 + i) :: st) σ P :=
  fun l p e s m args below meth cd H locs ls C hW hS hl => va_tlen C.1 C.2.1 ((stS C).1 i hi).2.2.2 hS rfl d (k l p e s m args below meth cd H locs ls C hW hS hl)
theorem sLen_lt : ∀ i, i < 17 → sLen.getD i 0 < 2 ^ 31 := by decide +kernel
theorem w_bald {i j : Nat} {x : Int32} (hi : i < 17) (d : decode M.2.2.1 pc = .ok (.baload, 1)) (hx : x = nI j) (hj : j < sLen.getD i 0) (k : WP G M (pc + 1) L (.int ((sByt.getD i []).getD j 0) :: st) σ P) : WP G M pc L (.int x :: .ref (200 + i) :: st) σ P := by
  intro l p e s m args below meth cd H locs ls C hW hS hl
  have := sLen_lt i hi
  exact va_tb C.1 C.2.1 ((stS C).1 i hi).2.2.2 hS (by rw [hx]; exact vp_in_nI hj this) (by rw [nI_cl hx (by omega)]; rfl) d (k l p e s m args below meth cd H locs ls C hW hS hl)
theorem w_getsCS (d : decode M.2.2.1 pc = .ok (.getstatic idx, 3)) (f : Cond.fieldLink M.1 idx RJ0 "COMPACT_STRINGS" "Z" ∈ gt) (k : WP G M (pc + 3) L (.int 1 :: st) σ P) : WP G M pc L st σ P :=
  fun l p e s m args below meth cd H locs ls C hW hS hl => va_gets C.1 C.2.1 C.2.2.2.2.2.2.2.2.2.2.2.2.2.2.1 hS C.2.2.2.2.1 (hts_gt C _ f) (fun _ h => h) d (k l p e s m args below meth cd H locs ls C hW hS hl)
theorem w_getsSF (d : decode M.2.2.1 pc = .ok (.getstatic idx, 3)) (f : Cond.fieldLink M.1 idx RJ3 "SIOOBE_FORMATTER" "Ljava/util/function/BiFunction;" ∈ gt) (k : ∀ v, v = .null ∨ v = .ref 97 → WP G M (pc + 3) L (v :: st) σ P) : WP G M pc L st σ P := by
  intro l p e s m args below meth cd H locs ls C hW hS hl
  rcases C.2.2.2.2.2.2.2.2.2.2.2.2.2.2.2 with h | h
  · exact va_gets C.1 C.2.1 h hS C.2.2.2.2.1 (hts_gt C _ f) (fun _ h => h) d (k .null (Or.inl rfl) l p e s m args below meth cd H locs ls C hW hS hl)
  · exact va_gets C.1 C.2.1 h hS C.2.2.2.2.1 (hts_gt C _ f) (fun _ h => h) d (k (.ref 97) (Or.inr rfl) l p e s m args below meth cd H locs ls C hW hS hl)
theorem w_strCall {i : Nat} {x : Int32} (hi : i < 17) (d : decode M.2.2.1 pc = .ok (.invokevirtual idx, 3)) (ml : Cond.methodLink M.1 idx M'.2.1 ∈ gt) (mv : MV M' n) (hR : fitR M M' = true) (hM : M'.1 = "java/lang/String") (ev : Evi G M' (.ref (100 + i) :: as) σ x σ1) (hn : as.length = n) (hst : st = as.reverse ++ .ref (100 + i) :: rest) (hw : (rest.map fun v => v.category).sum ≤ 8) (k : WP G M (pc + 3) L (.int x :: rest) σ1 P) : WP G M pc L st σ P :=
  w_callV0 d ml mv hR (fun C _ hS => by rw [hM]; exact vk_recv (adK := fun i => G.2.1 (100 + i)) (i := i) (stS C) hi hS) ev hn hst hw (fun v σ' h => by obtain ⟨rfl, rfl⟩ := h; exact k)
-- arraycopy of longs
def cpL (σ : Sg) (a sp b dp n : Nat) : Sg := (σ.1, fun c' k' => if c' = b then va_cpy (σ.2.1 a) (σ.2.1 b) sp dp n k' else σ.2.1 c' k', σ.2.2)
theorem w_copy {a b sp dp m0 : Nat} {isp idp im : Int32} (d : decode M.2.2.1 pc = .ok (.invokestatic idx, 3)) (ml : Cond.methodLink M.1 idx arraycopyName ∈ gt) (mm : Cond.native arraycopyName ∈ gt ∧ Cond.static arraycopyName ∈ gt ∧ Cond.initialized "java/lang/System" ∈ gt) (ha : kd a = 9) (hb : kd b = 9) (h1 : isp = nI sp) (h2 : idp = nI dp) (h3 : im = nI m0) (h4 : sp + m0 ≤ ln a) (h5 : dp + m0 ≤ ln b) (hR : (decide (1 ≤ M.2.2.2.2.2.1) && decide ((st.map fun v => v.category).sum + (nativeFrameWords "java/lang/System" "arraycopy" 5 + 11) ≤ M.2.2.2.2.2.2)) = true)
    (k : WP G M (pc + 3) L st (cpL σ a sp b dp m0) P) : WP G M pc L (.int im :: .int idp :: .ref b :: .int isp :: .ref a :: st) σ P := by
  intro l p e s m args below meth cd H locs ls C hW hS hl
  simp only [Bool.and_eq_true, decide_eq_true_eq] at hR
  have hA := kd_lt ha (by omega)
  have hB := kd_lt hb (by omega)
  have l1 := ln_lt a
  have l2 := ln_lt b
  have c1 := nI_cl h1 (by omega)
  have c2 := nI_cl h2 (by omega)
  have c3 := nI_cl h3 (by omega)
  refine va_copyl (D := G.1) (A := AG G) (ws := wsW G σ) (f := σ.2.1 a) (g := σ.2.1 b) (c0 := G.2.2 1) (c1 := G.2.2 1) (n0 := ln a) (n1 := ln b) (ty := .long) C.1 C.2.1 (C.2.2.2.1.trans hl.1.symm) C.2.2.2.2.1 (hts_gt C _ ml) (hts_gt C _ mm.1) (hts_gt C _ mm.2.1) (hts_gt C _ mm.2.2) C.2.2.2.2.2.2.2.2.1 hW (wsW_D C.2.2.2.2.2.2.2.1) hS a b 1 1 (by rw [wsW_at hA, cell_L ha]) (by rw [wsW_at hB, cell_L hb]) rfl rfl rfl (by rw [h1]; exact nI_pos (by omega)) (by rw [h2]; exact nI_pos (by omega)) (by rw [h3]; exact nI_pos (by omega)) (by rw [c1, c3]; exact h4) (by rw [c2, c3]; exact h5) (fun _ _ => rfl) hR.1 (by rw [cat_map]; exact hR.2) d (fun H1 locs1 hP hD hS1 => ?_)
  rw [c1, c2, c3] at hP
  rw [wsW_set (G := G) (σ := σ) (σ' := cpL σ a sp b dp m0) hB ?_ (fun d hd => cellOf_cong (fun _ => rfl) (fun k => by show (if d = b then _ else _) = _; rw [if_neg hd]) (fun _ => rfl))] at hP
  · exact k l p e s m args below meth cd H1 locs1 ls C hP hS1 hl
  · rw [cell_L hb]
    have e1 : (cpL σ a sp b dp m0).2.1 b = va_cpy (σ.2.1 a) (σ.2.1 b) sp dp m0 := by
      funext z
      show (if b = b then _ else _) = _
      rw [if_pos rfl]
    rw [e1]
end MORE
set_option maxRecDepth 100000 in
theorem mm_max : Cond.static Lib.Math.max.name ∈ gt ∧ Cond.initialized "java/lang/Math" ∈ gt ∧ Cond.code Lib.Math.max.name Lib.Math.max.code 2 (some .int) ∈ gt := ⟨gt_at 342 (by decide +kernel) (by decide +kernel), gt_at 69 (by decide +kernel) (by decide +kernel), gt_at 343 rfl rfl⟩
set_option maxRecDepth 100000 in
theorem mm_min : Cond.static Lib.Math.min.name ∈ gt ∧ Cond.initialized "java/lang/Math" ∈ gt ∧ Cond.code Lib.Math.min.name Lib.Math.min.code 2 (some .int) ∈ gt := ⟨gt_at 443 (by decide +kernel) (by decide +kernel), gt_at 69 (by decide +kernel) (by decide +kernel), gt_at 444 rfl rfl⟩
set_option maxRecDepth 100000 in
theorem mm_abs : Cond.static Lib.Math.abs.name ∈ gt ∧ Cond.initialized "java/lang/Math" ∈ gt ∧ Cond.code Lib.Math.abs.name Lib.Math.abs.code 1 (some .int) ∈ gt := ⟨gt_at 339 (by decide +kernel) (by decide +kernel), gt_at 69 (by decide +kernel) (by decide +kernel), gt_at 340 rfl rfl⟩
theorem mm_copy : Cond.native arraycopyName ∈ gt ∧ Cond.static arraycopyName ∈ gt ∧ Cond.initialized "java/lang/System" ∈ gt := ⟨gt_at 784 (by decide +kernel) (by decide +kernel), gt_at 783 (by decide +kernel) (by decide +kernel), gt_at 75 (by decide +kernel) (by decide +kernel)⟩
theorem mi_X3_33 : Cond.methodLink RX3 33 Lib.Math.abs.name ∈ gt := gt_at 338 (by decide +kernel) (by decide +kernel)
theorem mi_X3_39 : Cond.methodLink RX3 39 Lib.Math.max.name ∈ gt := gt_at 341 (by decide +kernel) (by decide +kernel)
theorem mi_X6_266 : Cond.methodLink RX6 266 Lib.Math.min.name ∈ gt := gt_at 442 (by decide +kernel) (by decide +kernel)
theorem mi_X0_49 : Cond.methodLink RX0 49 Lib.Math.min.name ∈ gt := gt_at 455 (by decide +kernel) (by decide +kernel)
theorem mi_X6_260 : Cond.methodLink RX6 260 arraycopyName ∈ gt := gt_at 782 (by decide +kernel) (by decide +kernel)
theorem fs_X0_31 : Cond.fieldLink RX0 31 RX0 "LEAST" "[I" ∈ gt := gt_at 281 (by decide +kernel) (by decide +kernel)
theorem fs_X0_35 : Cond.fieldLink RX0 35 RX0 "MOST" "[I" ∈ gt := gt_at 283 (by decide +kernel) (by decide +kernel)
theorem fs_J0_38 : Cond.fieldLink RJ0 38 RJ0 "COMPACT_STRINGS" "Z" ∈ gt := gt_at 655 (by decide +kernel) (by decide +kernel)
theorem fs_J0_1053 : Cond.fieldLink RJ0 1053 RJ3 "SIOOBE_FORMATTER" "Ljava/util/function/BiFunction;" ∈ gt := gt_at 671 (by decide +kernel) (by decide +kernel)
theorem fs_J0_9 : Cond.fieldLink RJ0 9 "java/lang/String" "value" "[B" ∈ gt := gt_at 1302 (by decide +kernel) (by decide +kernel)
theorem fs_J0_15 : Cond.fieldLink RJ0 15 "java/lang/String" "coder" "B" ∈ gt := gt_at 1303 (by decide +kernel) (by decide +kernel)
