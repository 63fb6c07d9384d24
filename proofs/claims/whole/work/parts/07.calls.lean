/-! calls -/
def cdW (M : MT) : Cond := .code M.2.1 M.2.2.1 M.2.2.2.1 M.2.2.2.2.1
def nmOK (M : MT) (n : Nat) : Prop := M.2.1.cls = M.1 ∧ M.2.1.cls ≠ "java/lang/invoke/MethodHandle" ∧ M.2.1.cls ≠ "java/lang/invoke/VarHandle" ∧ (parseMethodDescriptor M.2.1.desc).map (fun d => d.parameters.length) = some n
def MV (M : MT) (n : Nat) : Prop := Cond.instanceMethod M.2.1 ∈ gt ∧ Cond.selects M.1 M.2.1 M.2.1 ∈ gt ∧ Cond.initialized M.1 ∈ gt ∧ cdW M ∈ gt ∧ nmOK M n
def MS (M : MT) (n : Nat) : Prop := Cond.static M.2.1 ∈ gt ∧ Cond.initialized M.2.1.cls ∈ gt ∧ cdW M ∈ gt ∧ nmOK M n
/-- a callee's room fits a caller's -/
def fitR (M M' : MT) : Bool := decide (M'.2.2.2.2.2.1 + 1 ≤ M.2.2.2.2.2.1) && decide (8 + (M'.2.2.2.1 + 11) + M'.2.2.2.2.2.2 ≤ M.2.2.2.2.2.2)
theorem fitR_of {M M' : MT} (h : fitR M M' = true) : (rmOf M').frames + 1 ≤ (rmOf M).frames ∧ 8 + (M'.2.2.2.1 + 11) + (rmOf M').locals ≤ (rmOf M).locals := by
  simp only [fitR, Bool.and_eq_true, decide_eq_true_eq] at h
  exact h
theorem in_gt {M : MT} {w : Cond} (h : w ∈ gt) : w ∈ wsOf M := List.mem_cons_of_mem _ h
theorem gi_cons {M : MT} : ∀ w ∈ gt, w ∈ wsOf M ∧ ((w.onTables && w.keeps) = true ∨ ∃ ty, w = .arrayClass ty) := fun _ h => ⟨in_gt h, gt_good h⟩
theorem gi_ws {M M' : MT} (hc : cdW M' ∈ gt) : GoodIn (wsOf M) (wsOf M') := fun w h => by
  rcases List.mem_cons.mp h with rfl | h
  · exact gi_cons _ hc
  · exact gi_cons _ h
section CALLS
variable {G : GT} {M : MT} {pc : Nat} {L : List (Option Value)} {st : List Value} {σ : Sg} {P : Option Value → Sg → Prop}
theorem pcE_blind {as : List Value} : FrameBlind (PcE G as σ) := fun a U g mk h => ⟨h.1, h.2.1, h.2.2.blind⟩
theorem pcE_at {as : List Value} {p : Program} {s : State} {m : MethodId} {args : Array Value} {meth : Method} {c : Code} {H : Heap} {locs : List Loc} (C : Cx G M p s m args meth c) (hW : Wd G σ H) (hS : va_S (AG G) s.heap H locs) : ∀ U : State, U.heap = H → s.WarmedH U.vm → PcE G as σ (as.map (cv G)).toArray U := fun U hU hw => ⟨rfl, by rw [hU]; exact hW, C.2.2.2.2.2.2.2.to hw (fun a h1 h2 => by rw [hU]; exact hS.2.1 a h1 h2)⟩
/-- behind a call -/
theorem run_go {M' : MT} {as rest : List Value} {P' : Option Value → Sg → Prop} {l : Launch} {p : Program} {e : Env} {s : State} {m : MethodId} {args : Array Value} {below : List Frame} {meth : Method} {c : Code} {H : Heap} {locs : List Loc} {ls : Array Slot} {a : Array Value}
    (C : Cx G M p s m args meth c) (hS : va_S (AG G) s.heap H locs) (hl : LR G ls M.2.2.2.1 L)
    (hr : va_Run p l e (rmOf M) s m args below meth c H locs 0 0 0 0 (F0 m pc ls (st.map (cv G))) (rest.map (cv G)) (Qc G P' a) (AG G))
    (k : ∀ v σ', P' v σ' → WP G M (pc + 3) L (v.toList ++ rest) σ' P) : W p l e (rmOf M) s m args below meth c H locs 0 0 (MQ below (Qc G P) args s 0 0 (AG G)) (F0 m pc ls (st.map (cv G))) := by
  intro T hT X
  obtain ⟨v, st₀, t, T', L2, h0, X', hL2, e1, e2, ⟨⟨v', σ', hv, hp, hw⟩, hz, hk⟩, go⟩ := hr T hT X
  cases hv
  rw [h0] at hz hk
  have hS2 : va_S (AG G) s.heap t.heap (locs ++ L2) := ⟨Nat.le_trans hS.1 hz, fun q h1 h2 => by rw [hk q (Nat.lt_of_lt_of_le h1 hS.1) h2]; exact hS.2.1 q h1 h2, fun q hq => by
    rcases List.mem_append.mp hq with h | h
    · exact hS.2.2 q h
    · exact hL2 q h⟩
  obtain ⟨t2, a1, b1⟩ := k v' σ' hp l p e s m args below meth c t.heap (locs ++ L2) ls C hw hS2 hl T' e1 X'
  have es : (v'.toList ++ rest).map (cv G) = (v'.map (cv G)).toList ++ rest.map (cv G) := by cases v' <;> simp
  rw [es] at a1
  exact ⟨t2, go t2 a1, b1⟩
theorem rec_obj {c ci : Nat} {C0 : String} (hc : kd c = ci) (h8 : ci < 8) (hC : (clC ci).1 = C0) : ∀ {p : Program} {s : State} {m : MethodId} {args : Array Value} {meth : Method} {cd : Code} {H : Heap} {locs : List Loc}, Cx G M p s m args meth cd → Wd G σ H → va_S (AG G) s.heap H locs → ∃ cell : Cell, H[G.2.1 c]? = some cell ∧ cell.vm.isStatics = false ∧ s.vm.findClass C0 = some cell.cls := by
  intro p s m args meth cd H locs C hW hS
  subst hC
  exact va_recv (q0 := c) (ci := ci) (fs := fsK G σ c ci) C.2.2.2.2.2.2.2.2.1 hW (cl_all h8).1 (by rw [wsW_at (kd_lt hc (by omega)), cell_obj hc h8])
theorem w_callV0 {M' : MT} {idx n c : Nat} {as rest : List Value} {P' : Option Value → Sg → Prop} (d : decode M.2.2.1 pc = .ok (.invokevirtual idx, 3)) (ml : Cond.methodLink M.1 idx M'.2.1 ∈ gt) (mv : MV M' n) (hR : fitR M M' = true)
    (hrc : ∀ {p : Program} {s : State} {m : MethodId} {args : Array Value} {meth : Method} {cd : Code} {H : Heap} {locs : List Loc}, Cx G M p s m args meth cd → Wd G σ H → va_S (AG G) s.heap H locs → ∃ cell : Cell, H[G.2.1 c]? = some cell ∧ cell.vm.isStatics = false ∧ s.vm.findClass M'.1 = some cell.cls)
    (ev : Ev G M' (.ref c :: as) σ P') (hn : as.length = n) (hst : st = as.reverse ++ .ref c :: rest) (hw : (rest.map fun v => v.category).sum ≤ 8)
    (k : ∀ v σ', P' v σ' → WP G M (pc + 3) L (v.toList ++ rest) σ' P) : WP G M pc L st σ P := by
  intro l p e s m args below meth cd H locs ls C hW hS hl
  have hg : GoodIn (wsOf M) (wsV M.1 idx M'.1 M'.2.1 (wsOf M')) := by
    intro w h
    rcases List.mem_append.mp h with h | h
    · simp only [List.mem_cons, List.not_mem_nil, or_false] at h
      rcases h with rfl | rfl | rfl | rfl
      · exact gi_cons _ ml
      · exact gi_cons _ mv.1
      · exact gi_cons _ mv.2.1
      · exact gi_cons _ mv.2.2.1
    · exact gi_ws mv.2.2.2.1 w h
  have hr := va_runV (S := ⟨C.1, C.2.1, C.2.2.2.1, C.2.2.2.2.1, C.2.2.2.2.2.1⟩) (below := below) (e := e) (locs := locs) (meth := meth) (ev l) (cwV (C := M'.1) n C.2.2.2.2.2.1 hg (hw := rfl) rfl rfl mv.2.2.2.2 (fitR_of hR)) (hp := ⟨pcE_blind, hrc C hW hS, pcE_at C hW hS⟩) (g := F0 m pc ls (st.map (cv G))) (rest := rest.map (cv G)) rfl (by simp [hn]) hl.1 (by rw [hst]; simp [cv]) (lv_room (by simpa [List.map_map, Function.comp_def, cv_cat] using hw)) d ⟨Nat.zero_le _, Nat.zero_le _⟩
  exact run_go (M' := M') (as := as) (rest := rest) C hS hl hr k
theorem w_callS0 {M' : MT} {idx n : Nat} {as rest : List Value} {P' : Option Value → Sg → Prop} (d : decode M.2.2.1 pc = .ok (.invokestatic idx, 3)) (ml : Cond.methodLink M.1 idx M'.2.1 ∈ gt) (mv : MS M' n) (hR : fitR M M' = true)
    (ev : Ev G M' as σ P') (hn : as.length = n) (hst : st = as.reverse ++ rest) (hw : (rest.map fun v => v.category).sum ≤ 8)
    (k : ∀ v σ', P' v σ' → WP G M (pc + 3) L (v.toList ++ rest) σ' P) : WP G M pc L st σ P := by
  intro l p e s m args below meth cd H locs ls C hW hS hl
  have hg : GoodIn (wsOf M) (va_wsS M.1 idx M'.2.1 (wsOf M')) := by
    intro w h
    rcases List.mem_append.mp h with h | h
    · simp only [List.mem_cons, List.not_mem_nil, or_false] at h
      rcases h with rfl | rfl | rfl
      · exact gi_cons _ ml
      · exact gi_cons _ mv.1
      · exact gi_cons _ mv.2.1
    · exact gi_ws mv.2.2.1 w h
  have hr := va_runS (S := ⟨C.1, C.2.1, C.2.2.2.1, C.2.2.2.2.1, C.2.2.2.2.2.1⟩) (below := below) (e := e) (locs := locs) (meth := meth) (ev l) (va_cwS n C.2.2.2.2.2.1 hg (hw := rfl) rfl rfl mv.2.2.2.2 (fitR_of hR)) (hp := ⟨pcE_blind, pcE_at C hW hS⟩) (g := F0 m pc ls (st.map (cv G))) (rest := rest.map (cv G)) rfl (by simp [hn]) hl.1 (by rw [hst]; simp) (lv_room (by simpa [List.map_map, Function.comp_def, cv_cat] using hw)) d ⟨Nat.zero_le _, Nat.zero_le _⟩
  exact run_go (M' := M') (as := as) (rest := rest) C hS hl hr k
theorem w_callN0 {M' : MT} {idx n : Nat} {host : String} {as rest : List Value} {P' : Option Value → Sg → Prop} (d : decode M.2.2.1 pc = .ok (.invokestatic idx, 3)) (ml : (M.1, idx, M'.2.1, host) ∈ nstL) (mv : MS M' n) (hR : fitR M M' = true)
    (ev : Ev G M' as σ P') (hn : as.length = n) (hst : st = as.reverse ++ rest) (hw : (rest.map fun v => v.category).sum ≤ 8)
    (k : ∀ v σ', P' v σ' → WP G M (pc + 3) L (v.toList ++ rest) σ' P) : WP G M pc L st σ P := by
  intro l p e s m args below meth cd H locs ls C hW hS hl
  have hN := C.2.2.2.2.2.2.2.2.2.2.2.1 _ ml
  have hr := va_runSN (S := ⟨C.1, C.2.1, C.2.2.2.1, C.2.2.2.2.1, C.2.2.2.2.2.1⟩) (below := below) (e := e) (locs := locs) (meth := meth) (ev l) ⟨va_cnB n C.2.2.2.2.2.1 (gi_ws mv.2.2.1) (hw := rfl) rfl rfl hN (C.2.2.2.2.2.1 _ (in_gt mv.2.1)) mv.2.2.2.2 (fitR_of hR), C.2.2.2.2.2.1 _ (in_gt mv.1), trivial⟩ (hp := ⟨pcE_blind, pcE_at C hW hS⟩) (g := F0 m pc ls (st.map (cv G))) (rest := rest.map (cv G)) rfl (by simp [hn]) hl.1 (by rw [hst]; simp) (lv_room (by simpa [List.map_map, Function.comp_def, cv_cat] using hw)) d ⟨Nat.zero_le _, Nat.zero_le _⟩
  exact run_go (M' := M') (as := as) (rest := rest) C hS hl hr k
/-- a method's contract out of the walk of its body -/
theorem Ev.of {as : List Value} (hy : plainName M.2.1.cls = true) (hl : (lg_sl (as.map (cv G))).length ≤ M.2.2.2.1) (hn : M.2.1.cls = M.1) (hL : ∀ i v, L[i]? = some (some v) → (i, cv G v) ∈ lv_args 0 (as.map (cv G))) (k : WP G M 0 L [] σ P) : Ev G M as σ P := by
  intro l
  refine Met.ofW (cc := M.2.2.1) (maxL := M.2.2.2.1) (ret := M.2.2.2.2.1) hy rfl ?_
  intro p e s m args below meth c s₁ B hml hv
  obtain ⟨rfl, hW, hK⟩ := hv
  rw [lg_entry_eq]
  have h := lv_entry (as.map (cv G)) (n := M.2.2.2.1) hl
  have hts := atoms_spec (ws := wsOf M) B.pre
  have hown : s.vm.findClass M.1 = some m.cls := by
    have := findClass_of_methodNamed B.named
    rw [hn] at this
    exact this
  exact k l p e s m _ below meth c s.heap [] _ ⟨B.exec, B.bytes, B.returns, hml, hown, hts, B.notSynchronized, hK⟩ hW va_S.rf ⟨h.1, h.2.1, fun i v hi => h.2.2 _ (hL i v hi)⟩
theorem Ev.mono {as : List Value} {P' : Option Value → Sg → Prop} (h : Ev G M as σ P) (hq : ∀ v σ', P v σ' → P' v σ') : Ev G M as σ P' := by
  intro l p e ha hc hk s m args below hf happ hP hK
  obtain ⟨k, o, h1, h2, h3, ⟨⟨⟨v, σ', a1, a2, a3⟩, a4⟩, a5⟩⟩ := h l p e ha hc hk s m args below hf happ hP hK
  exact ⟨k, o, h1, h2, h3, ⟨⟨v, σ', a1, hq _ _ a2, a3⟩, a4⟩, a5⟩
end CALLS
