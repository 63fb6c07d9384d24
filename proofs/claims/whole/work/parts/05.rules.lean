section RULES
variable {G : GT} {M : MT} {pc : Nat} {L : List (Option Value)} {st : List Value} {σ : Sg} {P : Option Value → Sg → Prop}
theorem LR.at {ls : Array Slot} {n : Nat} (h : LR G ls n L) {i : Nat} {v : Value} (hv : L[i]? = some (some v)) : ls[i]? = some (.val (cv G v)) := h.2.2 i v hv
def asc (G : GT) (L : List (Option Value)) : List (Nat × Value) := (List.range L.length).filterMap (fun i => match L[i]? with | some (some v) => some (i, cv G v) | _ => none)
theorem asc_mem {i : Nat} {w : Value} (h : (i, w) ∈ asc G L) : ∃ v, L[i]? = some (some v) ∧ w = cv G v := by
  obtain ⟨j, -, hj⟩ := List.mem_filterMap.mp h
  split at hj
  · rename_i v hv
    cases hj
    exact ⟨v, hv, rfl⟩
  · cases hj
theorem mem_asc {i : Nat} {v : Value} (h : L[i]? = some (some v)) : (i, cv G v) ∈ asc G L := by
  refine List.mem_filterMap.mpr ⟨i, List.mem_range.mpr (List.getElem?_eq_some_iff.mp h).1, ?_⟩
  rw [h]
theorem LR.has {ls : Array Slot} {n : Nat} (h : LR G ls n L) : lv_has ls n (asc G L) := ⟨h.1, h.2.1, fun q hq => by
  obtain ⟨v, h1, h2⟩ := asc_mem (i := q.1) (w := q.2) hq
  rw [h2]
  exact h.2.2 _ _ h1⟩
/-- no long stands just ahead of place i -/
def okS (L : List (Option Value)) : Nat → Bool
  | 0 => true
  | i + 1 => match L[i]? with | some (some v) => v.category == 1 | _ => true
theorem LR.set1 {ls : Array Slot} {n i : Nat} {v : Value} (hok : okS L i = true) (h : lv_has ls n ((i, cv G v) :: (asc G L).filter (fun q => !(q.1 == i) && !(q.1 + 1 == i && q.2.category == 2)))) : LR G ls n (L.set i (some v)) := by
  refine ⟨h.1, h.2.1, fun j w hj => ?_⟩
  rw [List.getElem?_set] at hj
  by_cases hi : i = j
  · subst hi
    rw [if_pos rfl] at hj
    split at hj
    · cases hj
      exact h.2.2 (i, cv G v) List.mem_cons_self
    · cases hj
  · rw [if_neg hi] at hj
    refine h.2.2 (j, cv G w) (List.mem_cons_of_mem _ (List.mem_filter.mpr ⟨mem_asc hj, ?_⟩))
    have n1 : ¬ j = i := fun e => hi e.symm
    rw [cv_cat]
    by_cases h2 : j + 1 = i
    · subst h2
      simp only [okS, hj, beq_iff_eq] at hok
      simp [hok]
    · simp [n1, h2]
theorem LR.set2 {ls : Array Slot} {n i : Nat} {v : Value} (hok : okS L i = true) (h : lv_has ls n ((i, cv G v) :: (asc G L).filter (fun q => !(q.1 == i) && (!(q.1 == i + 1) && !(q.1 + 1 == i && q.2.category == 2))))) : LR G ls n ((L.set i (some v)).set (i + 1) none) := by
  refine ⟨h.1, h.2.1, fun j w hj => ?_⟩
  rw [List.getElem?_set] at hj
  by_cases hj1 : i + 1 = j
  · rw [if_pos hj1] at hj
    split at hj <;> cases hj
  rw [if_neg hj1, List.getElem?_set] at hj
  by_cases hi : i = j
  · subst hi
    rw [if_pos rfl] at hj
    split at hj
    · cases hj
      exact h.2.2 (i, cv G v) List.mem_cons_self
    · cases hj
  · rw [if_neg hi] at hj
    refine h.2.2 (j, cv G w) (List.mem_cons_of_mem _ (List.mem_filter.mpr ⟨mem_asc hj, ?_⟩))
    have n1 : ¬ j = i := fun e => hi e.symm
    have n3 : ¬ j = i + 1 := fun e => hj1 e.symm
    rw [cv_cat]
    by_cases h2 : j + 1 = i
    · subst h2
      simp only [okS, hj, beq_iff_eq] at hok
      simp [hok]
      omega
    · simp [n1, h2, n3]
-- constants
theorem w_iconst {n : Int} {v : Int32} (d : decode M.2.2.1 pc = .ok (.iconst n, 1)) (hv : Int32.ofInt n = v) (k : WP G M (pc + 1) L (.int v :: st) σ P) : WP G M pc L st σ P :=
  fun l p e s m args below meth c H locs ls C hW hS hl => lv_iconst C.1 C.2.1 d hv (k l p e s m args below meth c H locs ls C hW hS hl)
theorem w_bipush {n : Int} {v : Int32} (d : decode M.2.2.1 pc = .ok (.bipush n, 2)) (hv : (Int8.ofInt n).toInt32 = v) (k : WP G M (pc + 2) L (.int v :: st) σ P) : WP G M pc L st σ P :=
  fun l p e s m args below meth c H locs ls C hW hS hl => lv_bipush C.1 C.2.1 d hv (k l p e s m args below meth c H locs ls C hW hS hl)
theorem w_sipush {n : Int} {v : Int32} (d : decode M.2.2.1 pc = .ok (.sipush n, 3)) (hv : (Int16.ofInt n).toInt32 = v) (k : WP G M (pc + 3) L (.int v :: st) σ P) : WP G M pc L st σ P :=
  fun l p e s m args below meth c H locs ls C hW hS hl => lv_sipush C.1 C.2.1 d hv (k l p e s m args below meth c H locs ls C hW hS hl)
theorem w_lconst {n : Fin 2} {v : Int64} (d : decode M.2.2.1 pc = .ok (.lconst n, 1)) (hv : Int64.ofNat (n : Nat) = v) (k : WP G M (pc + 1) L (.long v :: st) σ P) : WP G M pc L st σ P :=
  fun l p e s m args below meth c H locs ls C hW hS hl => lv_lconst C.1 C.2.1 d hv (k l p e s m args below meth c H locs ls C hW hS hl)
theorem w_ldc {idx : Nat} {v : Int32} (d : decode M.2.2.1 pc = .ok (.ldc idx, 2)) (h : Cond.constant M.1 idx v ∈ gt) (k : WP G M (pc + 2) L (.int v :: st) σ P) : WP G M pc L st σ P :=
  fun l p e s m args below meth c H locs ls C hW hS hl => lv_ldc C.1 C.2.1 C.2.2.2.2.1 (C.2.2.2.2.2.1 _ (List.mem_cons_of_mem _ h)) d (k l p e s m args below meth c H locs ls C hW hS hl)
theorem w_ldcw {idx : Nat} {v : Int32} (d : decode M.2.2.1 pc = .ok (.ldc_w idx, 3)) (h : Cond.constant M.1 idx v ∈ gt) (k : WP G M (pc + 3) L (.int v :: st) σ P) : WP G M pc L st σ P :=
  fun l p e s m args below meth c H locs ls C hW hS hl => lv_ldcw C.1 C.2.1 C.2.2.2.2.1 (C.2.2.2.2.2.1 _ (List.mem_cons_of_mem _ h)) d (k l p e s m args below meth c H locs ls C hW hS hl)
theorem w_ldc2 {idx : Nat} {v : Int64} (d : decode M.2.2.1 pc = .ok (.ldc2_w idx, 3)) (h : Cond.constantLong M.1 idx v ∈ gt) (k : WP G M (pc + 3) L (.long v :: st) σ P) : WP G M pc L st σ P :=
  fun l p e s m args below meth c H locs ls C hW hS hl => lv_ldc2 C.1 C.2.1 C.2.2.2.2.1 (C.2.2.2.2.2.1 _ (List.mem_cons_of_mem _ h)) d (k l p e s m args below meth c H locs ls C hW hS hl)
-- loads
theorem w_iload_n {n : Fin 4} {x : Int32} (d : decode M.2.2.1 pc = .ok (.iload_n n, 1)) (h : L[(n : Nat)]? = some (some (.int x))) (k : WP G M (pc + 1) L (.int x :: st) σ P) : WP G M pc L st σ P :=
  fun l p e s m args below meth c H locs ls C hW hS hl => lv_iload_n C.1 C.2.1 d rfl (hl.at h) (k l p e s m args below meth c H locs ls C hW hS hl)
theorem w_iload {n : Nat} {x : Int32} (d : decode M.2.2.1 pc = .ok (.iload n, 2)) (h : L[n]? = some (some (.int x))) (k : WP G M (pc + 2) L (.int x :: st) σ P) : WP G M pc L st σ P :=
  fun l p e s m args below meth c H locs ls C hW hS hl => lv_iload C.1 C.2.1 d (hl.at h) (k l p e s m args below meth c H locs ls C hW hS hl)
theorem w_lload_n {n : Fin 4} {x : Int64} (d : decode M.2.2.1 pc = .ok (.lload_n n, 1)) (h : L[(n : Nat)]? = some (some (.long x))) (k : WP G M (pc + 1) L (.long x :: st) σ P) : WP G M pc L st σ P :=
  fun l p e s m args below meth c H locs ls C hW hS hl => lv_lload_n C.1 C.2.1 d rfl (hl.at h) (k l p e s m args below meth c H locs ls C hW hS hl)
theorem w_lload {n : Nat} {x : Int64} (d : decode M.2.2.1 pc = .ok (.lload n, 2)) (h : L[n]? = some (some (.long x))) (k : WP G M (pc + 2) L (.long x :: st) σ P) : WP G M pc L st σ P :=
  fun l p e s m args below meth c H locs ls C hW hS hl => lv_lload C.1 C.2.1 d (hl.at h) (k l p e s m args below meth c H locs ls C hW hS hl)
theorem w_aload_n {n : Fin 4} {x : Nat} (d : decode M.2.2.1 pc = .ok (.aload_n n, 1)) (h : L[(n : Nat)]? = some (some (.ref x))) (k : WP G M (pc + 1) L (.ref x :: st) σ P) : WP G M pc L st σ P :=
  fun l p e s m args below meth c H locs ls C hW hS hl => lv_aload_n C.1 C.2.1 d rfl (hl.at h) (k l p e s m args below meth c H locs ls C hW hS hl)
theorem w_aload {n : Nat} {x : Nat} (d : decode M.2.2.1 pc = .ok (.aload n, 2)) (h : L[n]? = some (some (.ref x))) (k : WP G M (pc + 2) L (.ref x :: st) σ P) : WP G M pc L st σ P :=
  fun l p e s m args below meth c H locs ls C hW hS hl => lv_aload C.1 C.2.1 d (hl.at h) (k l p e s m args below meth c H locs ls C hW hS hl)
-- stores: L' is the new row of locals
theorem w_istore_n {n : Fin 4} {x : Int32} {L' : List (Option Value)} (d : decode M.2.2.1 pc = .ok (.istore_n n, 1)) (hn : (n : Nat) < M.2.2.2.1) (ho : okS L n = true) (hL : L.set n (some (.int x)) = L') (k : WP G M (pc + 1) L' st σ P) : WP G M pc L (.int x :: st) σ P :=
  fun l p e s m args below meth c H locs ls C hW hS hl => lv_istore_n C.1 C.2.1 d rfl hl.has hn rfl (fun ls' h' => k l p e s m args below meth c H locs ls' C hW hS (hL ▸ LR.set1 (v := .int x) ho h'))
theorem w_istore {n : Nat} {x : Int32} {L' : List (Option Value)} (d : decode M.2.2.1 pc = .ok (.istore n, 2)) (hn : n < M.2.2.2.1) (ho : okS L n = true) (hL : L.set n (some (.int x)) = L') (k : WP G M (pc + 2) L' st σ P) : WP G M pc L (.int x :: st) σ P :=
  fun l p e s m args below meth c H locs ls C hW hS hl => lv_istore C.1 C.2.1 d hl.has hn rfl (fun ls' h' => k l p e s m args below meth c H locs ls' C hW hS (hL ▸ LR.set1 (v := .int x) ho h'))
theorem w_astore_n {n : Fin 4} {x : Nat} {L' : List (Option Value)} (d : decode M.2.2.1 pc = .ok (.astore_n n, 1)) (hn : (n : Nat) < M.2.2.2.1) (ho : okS L n = true) (hL : L.set n (some (.ref x)) = L') (k : WP G M (pc + 1) L' st σ P) : WP G M pc L (.ref x :: st) σ P :=
  fun l p e s m args below meth c H locs ls C hW hS hl => lv_astore_n C.1 C.2.1 d rfl hl.has hn rfl (fun ls' h' => k l p e s m args below meth c H locs ls' C hW hS (hL ▸ LR.set1 (v := .ref x) ho h'))
theorem w_astore {n : Nat} {x : Nat} {L' : List (Option Value)} (d : decode M.2.2.1 pc = .ok (.astore n, 2)) (hn : n < M.2.2.2.1) (ho : okS L n = true) (hL : L.set n (some (.ref x)) = L') (k : WP G M (pc + 2) L' st σ P) : WP G M pc L (.ref x :: st) σ P :=
  fun l p e s m args below meth c H locs ls C hW hS hl => lv_astore C.1 C.2.1 d hl.has hn rfl (fun ls' h' => k l p e s m args below meth c H locs ls' C hW hS (hL ▸ LR.set1 (v := .ref x) ho h'))
theorem w_lstore {n : Nat} {x : Int64} {L' : List (Option Value)} (d : decode M.2.2.1 pc = .ok (.lstore n, 2)) (hn : n + 1 < M.2.2.2.1) (ho : okS L n = true) (hL : (L.set n (some (.long x))).set (n + 1) none = L') (k : WP G M (pc + 2) L' st σ P) : WP G M pc L (.long x :: st) σ P :=
  fun l p e s m args below meth c H locs ls C hW hS hl => lv_lstore C.1 C.2.1 d hl.has hn rfl (fun ls' h' => k l p e s m args below meth c H locs ls' C hW hS (hL ▸ LR.set2 (v := .long x) ho h'))
theorem w_iinc {i : Nat} {n : Int} {x v : Int32} {L' : List (Option Value)} (d : decode M.2.2.1 pc = .ok (.iinc i n, 3)) (h : L[i]? = some (some (.int x))) (hv : x + Int32.ofInt n = v) (hn : i < M.2.2.2.1) (ho : okS L i = true) (hL : L.set i (some (.int v)) = L') (k : WP G M (pc + 3) L' st σ P) : WP G M pc L st σ P := by
  intro l p e s m args below meth c H locs ls C hW hS hl
  obtain ⟨j, hj⟩ := List.getElem?_of_mem (mem_asc (G := G) h)
  exact lv_iinc C.1 C.2.1 d hl.has hj hv hn rfl (fun ls' h' => k l p e s m args below meth c H locs ls' C hW hS (hL ▸ LR.set1 (v := .int v) ho h'))
theorem w_topi {x : Int32} (k : ∀ y : Int32, y = x → WP G M pc L (.int y :: st) σ P) : WP G M pc L (.int x :: st) σ P := k x rfl
theorem w_topl {x : Int64} (k : ∀ y : Int64, y = x → WP G M pc L (.long y :: st) σ P) : WP G M pc L (.long x :: st) σ P := k x rfl
theorem w_eqi {x y : Int32} (h : x = y) (k : WP G M pc L (.int y :: st) σ P) : WP G M pc L (.int x :: st) σ P := h ▸ k
theorem w_iadd {x y : Int32} (d : decode M.2.2.1 pc = .ok (.iadd, 1)) (k : WP G M (pc + 1) L (.int (x + y) :: st) σ P) : WP G M pc L (.int y :: .int x :: st) σ P :=
  fun l p e s m args below meth c H locs ls C hW hS hl => lv_iadd C.1 C.2.1 d (k l p e s m args below meth c H locs ls C hW hS hl)
theorem w_isub {x y : Int32} (d : decode M.2.2.1 pc = .ok (.isub, 1)) (k : WP G M (pc + 1) L (.int (x - y) :: st) σ P) : WP G M pc L (.int y :: .int x :: st) σ P :=
  fun l p e s m args below meth c H locs ls C hW hS hl => lv_isub C.1 C.2.1 d (k l p e s m args below meth c H locs ls C hW hS hl)
theorem w_imul {x y : Int32} (d : decode M.2.2.1 pc = .ok (.imul, 1)) (k : WP G M (pc + 1) L (.int (x * y) :: st) σ P) : WP G M pc L (.int y :: .int x :: st) σ P :=
  fun l p e s m args below meth c H locs ls C hW hS hl => lv_imul C.1 C.2.1 d (k l p e s m args below meth c H locs ls C hW hS hl)
theorem w_iand {x y : Int32} (d : decode M.2.2.1 pc = .ok (.iand, 1)) (k : WP G M (pc + 1) L (.int (x &&& y) :: st) σ P) : WP G M pc L (.int y :: .int x :: st) σ P :=
  fun l p e s m args below meth c H locs ls C hW hS hl => lv_iand C.1 C.2.1 d (k l p e s m args below meth c H locs ls C hW hS hl)
theorem w_ior {x y : Int32} (d : decode M.2.2.1 pc = .ok (.ior, 1)) (k : WP G M (pc + 1) L (.int (x ||| y) :: st) σ P) : WP G M pc L (.int y :: .int x :: st) σ P :=
  fun l p e s m args below meth c H locs ls C hW hS hl => lv_ior C.1 C.2.1 d (k l p e s m args below meth c H locs ls C hW hS hl)
theorem w_ishl {x y : Int32} (d : decode M.2.2.1 pc = .ok (.ishl, 1)) (k : WP G M (pc + 1) L (.int (x <<< (y &&& 31)) :: st) σ P) : WP G M pc L (.int y :: .int x :: st) σ P :=
  fun l p e s m args below meth c H locs ls C hW hS hl => lv_ishl C.1 C.2.1 d (k l p e s m args below meth c H locs ls C hW hS hl)
theorem w_ishr {x y : Int32} (d : decode M.2.2.1 pc = .ok (.ishr, 1)) (k : WP G M (pc + 1) L (.int (x >>> (y &&& 31)) :: st) σ P) : WP G M pc L (.int y :: .int x :: st) σ P :=
  fun l p e s m args below meth c H locs ls C hW hS hl => lv_ishr C.1 C.2.1 d (k l p e s m args below meth c H locs ls C hW hS hl)
theorem w_idiv {x y : Int32} (d : decode M.2.2.1 pc = .ok (.idiv, 1)) (h : ¬ y = 0) (k : WP G M (pc + 1) L (.int (x / y) :: st) σ P) : WP G M pc L (.int y :: .int x :: st) σ P :=
  fun l p e s m args below meth c H locs ls C hW hS hl => lv_idiv C.1 C.2.1 d h (k l p e s m args below meth c H locs ls C hW hS hl)
theorem w_irem {x y : Int32} (d : decode M.2.2.1 pc = .ok (.irem, 1)) (h : ¬ y = 0) (k : WP G M (pc + 1) L (.int (x - x / y * y) :: st) σ P) : WP G M pc L (.int y :: .int x :: st) σ P :=
  fun l p e s m args below meth c H locs ls C hW hS hl => lv_irem C.1 C.2.1 d h (k l p e s m args below meth c H locs ls C hW hS hl)
theorem w_ladd {x y : Int64} (d : decode M.2.2.1 pc = .ok (.ladd, 1)) (k : WP G M (pc + 1) L (.long (x + y) :: st) σ P) : WP G M pc L (.long y :: .long x :: st) σ P :=
  fun l p e s m args below meth c H locs ls C hW hS hl => lv_ladd C.1 C.2.1 d (k l p e s m args below meth c H locs ls C hW hS hl)
theorem w_lsub {x y : Int64} (d : decode M.2.2.1 pc = .ok (.lsub, 1)) (k : WP G M (pc + 1) L (.long (x - y) :: st) σ P) : WP G M pc L (.long y :: .long x :: st) σ P :=
  fun l p e s m args below meth c H locs ls C hW hS hl => lv_lsub C.1 C.2.1 d (k l p e s m args below meth c H locs ls C hW hS hl)
theorem w_lmul {x y : Int64} (d : decode M.2.2.1 pc = .ok (.lmul, 1)) (k : WP G M (pc + 1) L (.long (x * y) :: st) σ P) : WP G M pc L (.long y :: .long x :: st) σ P :=
  fun l p e s m args below meth c H locs ls C hW hS hl => lv_lmul C.1 C.2.1 d (k l p e s m args below meth c H locs ls C hW hS hl)
theorem w_land {x y : Int64} (d : decode M.2.2.1 pc = .ok (.land, 1)) (k : WP G M (pc + 1) L (.long (x &&& y) :: st) σ P) : WP G M pc L (.long y :: .long x :: st) σ P :=
  fun l p e s m args below meth c H locs ls C hW hS hl => lv_land C.1 C.2.1 d (k l p e s m args below meth c H locs ls C hW hS hl)
theorem w_lor {x y : Int64} (d : decode M.2.2.1 pc = .ok (.lor, 1)) (k : WP G M (pc + 1) L (.long (x ||| y) :: st) σ P) : WP G M pc L (.long y :: .long x :: st) σ P :=
  fun l p e s m args below meth c H locs ls C hW hS hl => lv_lor C.1 C.2.1 d (k l p e s m args below meth c H locs ls C hW hS hl)
theorem w_iushr {x y : Int32} (d : decode M.2.2.1 pc = .ok (.iushr, 1)) (k : WP G M (pc + 1) L (.int ((x.toUInt32 >>> (y.toUInt32 &&& Int32.toUInt32 31)).toInt32) :: st) σ P) : WP G M pc L (.int y :: .int x :: st) σ P :=
  fun l p e s m args below meth c H locs ls C hW hS hl => lv_iushr C.1 C.2.1 d rfl (k l p e s m args below meth c H locs ls C hW hS hl)
theorem w_lshl {x : Int64} {y : Int32} (d : decode M.2.2.1 pc = .ok (.lshl, 1)) (k : WP G M (pc + 1) L (.long (x <<< (y.toInt64 &&& 63)) :: st) σ P) : WP G M pc L (.int y :: .long x :: st) σ P :=
  fun l p e s m args below meth c H locs ls C hW hS hl => lv_lshl C.1 C.2.1 d rfl (k l p e s m args below meth c H locs ls C hW hS hl)
theorem w_lshr {x : Int64} {y : Int32} (d : decode M.2.2.1 pc = .ok (.lshr, 1)) (k : WP G M (pc + 1) L (.long (x >>> (y.toInt64 &&& 63)) :: st) σ P) : WP G M pc L (.int y :: .long x :: st) σ P :=
  fun l p e s m args below meth c H locs ls C hW hS hl => lv_lshr C.1 C.2.1 d rfl (k l p e s m args below meth c H locs ls C hW hS hl)
theorem w_lcmp {x y : Int64} (d : decode M.2.2.1 pc = .ok (.lcmp, 1)) (k : WP G M (pc + 1) L (.int (lg_cmp x y) :: st) σ P) : WP G M pc L (.long y :: .long x :: st) σ P :=
  fun l p e s m args below meth c H locs ls C hW hS hl => W.lcmp C.1 C.2.1 d (k l p e s m args below meth c H locs ls C hW hS hl)
theorem w_ineg {x : Int32} (d : decode M.2.2.1 pc = .ok (.ineg, 1)) (k : WP G M (pc + 1) L (.int (-x) :: st) σ P) : WP G M pc L (.int x :: st) σ P :=
  fun l p e s m args below meth c H locs ls C hW hS hl => lv_ineg C.1 C.2.1 d (k l p e s m args below meth c H locs ls C hW hS hl)
theorem w_i2l {x : Int32} (d : decode M.2.2.1 pc = .ok (.i2l, 1)) (k : WP G M (pc + 1) L (.long (x.toInt64) :: st) σ P) : WP G M pc L (.int x :: st) σ P :=
  fun l p e s m args below meth c H locs ls C hW hS hl => lv_i2l C.1 C.2.1 d rfl (k l p e s m args below meth c H locs ls C hW hS hl)
theorem w_l2i {x : Int64} (d : decode M.2.2.1 pc = .ok (.l2i, 1)) (k : WP G M (pc + 1) L (.int (x.toInt32) :: st) σ P) : WP G M pc L (.long x :: st) σ P :=
  fun l p e s m args below meth c H locs ls C hW hS hl => lv_l2i C.1 C.2.1 d rfl (k l p e s m args below meth c H locs ls C hW hS hl)
theorem w_i2b {x : Int32} (d : decode M.2.2.1 pc = .ok (.i2b, 1)) (k : WP G M (pc + 1) L (.int (x.toInt8.toInt32) :: st) σ P) : WP G M pc L (.int x :: st) σ P :=
  fun l p e s m args below meth c H locs ls C hW hS hl => lv_i2b C.1 C.2.1 d rfl (k l p e s m args below meth c H locs ls C hW hS hl)
theorem w_i2s {x : Int32} (d : decode M.2.2.1 pc = .ok (.i2s, 1)) (k : WP G M (pc + 1) L (.int (x.toInt16.toInt32) :: st) σ P) : WP G M pc L (.int x :: st) σ P :=
  fun l p e s m args below meth c H locs ls C hW hS hl => lv_i2s C.1 C.2.1 d rfl (k l p e s m args below meth c H locs ls C hW hS hl)
theorem w_i2c {x : Int32} (d : decode M.2.2.1 pc = .ok (.i2c, 1)) (k : WP G M (pc + 1) L (.int ((x.toUInt32 % 65536).toInt32) :: st) σ P) : WP G M pc L (.int x :: st) σ P :=
  fun l p e s m args below meth c H locs ls C hW hS hl => lv_i2c C.1 C.2.1 d rfl (k l p e s m args below meth c H locs ls C hW hS hl)
theorem w_dup {a : Value} (d : decode M.2.2.1 pc = .ok (.dup, 1)) (ha : a.category = 1) (k : WP G M (pc + 1) L (a :: a :: st) σ P) : WP G M pc L (a :: st) σ P :=
  fun l p e s m args below meth c H locs ls C hW hS hl => lv_dup C.1 C.2.1 d ((cv_cat G a).trans ha) (k l p e s m args below meth c H locs ls C hW hS hl)
theorem w_pop {a : Value} (d : decode M.2.2.1 pc = .ok (.pop, 1)) (ha : a.category = 1) (k : WP G M (pc + 1) L st σ P) : WP G M pc L (a :: st) σ P :=
  fun l p e s m args below meth c H locs ls C hW hS hl => lv_pop C.1 C.2.1 d ((cv_cat G a).trans ha) (k l p e s m args below meth c H locs ls C hW hS hl)
theorem w_dup2 {a b : Value} (d : decode M.2.2.1 pc = .ok (.dup2, 1)) (ha : a.category = 1) (hb : b.category = 1) (k : WP G M (pc + 1) L (a :: b :: a :: b :: st) σ P) : WP G M pc L (a :: b :: st) σ P :=
  fun l p e s m args below meth c H locs ls C hW hS hl => lv_dup2_11 C.1 C.2.1 d ((cv_cat G a).trans ha) ((cv_cat G b).trans hb) (k l p e s m args below meth c H locs ls C hW hS hl)
theorem w_goto {off : Int} {t : Nat} (d : decode M.2.2.1 pc = .ok (.goto off, 3)) (ht : (pc : Int) + off = (t : Int)) (k : WP G M t L st σ P) : WP G M pc L st σ P :=
  fun l p e s m args below meth c H locs ls C hW hS hl => lv_goto C.1 C.2.1 d ht (k l p e s m args below meth c H locs ls C hW hS hl)
theorem w_if_eq {x : Int32} {off : Int} {t : Nat} (d : decode M.2.2.1 pc = .ok (.ifCond .eq off, 3)) (ht : (pc : Int) + off = (t : Int)) (kt : x = 0 → WP G M t L st σ P) (kf : ¬ (x = 0) → WP G M (pc + 3) L st σ P) : WP G M pc L (.int x :: st) σ P :=
  fun l p e s m args below meth c H locs ls C hW hS hl => lv_if_eq C.1 C.2.1 d ht (fun q => kt q l p e s m args below meth c H locs ls C hW hS hl) (fun q => kf q l p e s m args below meth c H locs ls C hW hS hl)
theorem w_icmp_eq {x y : Int32} {off : Int} {t : Nat} (d : decode M.2.2.1 pc = .ok (.if_icmp .eq off, 3)) (ht : (pc : Int) + off = (t : Int)) (kt : x = y → WP G M t L st σ P) (kf : ¬ (x = y) → WP G M (pc + 3) L st σ P) : WP G M pc L (.int y :: .int x :: st) σ P :=
  fun l p e s m args below meth c H locs ls C hW hS hl => lv_icmp_eq C.1 C.2.1 d ht (fun q => kt q l p e s m args below meth c H locs ls C hW hS hl) (fun q => kf q l p e s m args below meth c H locs ls C hW hS hl)
theorem w_if_ne {x : Int32} {off : Int} {t : Nat} (d : decode M.2.2.1 pc = .ok (.ifCond .ne off, 3)) (ht : (pc : Int) + off = (t : Int)) (kt : ¬ x = 0 → WP G M t L st σ P) (kf : x = 0 → WP G M (pc + 3) L st σ P) : WP G M pc L (.int x :: st) σ P :=
  fun l p e s m args below meth c H locs ls C hW hS hl => lv_if_ne C.1 C.2.1 d ht (fun q => kt q l p e s m args below meth c H locs ls C hW hS hl) (fun q => kf q l p e s m args below meth c H locs ls C hW hS hl)
theorem w_icmp_ne {x y : Int32} {off : Int} {t : Nat} (d : decode M.2.2.1 pc = .ok (.if_icmp .ne off, 3)) (ht : (pc : Int) + off = (t : Int)) (kt : ¬ x = y → WP G M t L st σ P) (kf : x = y → WP G M (pc + 3) L st σ P) : WP G M pc L (.int y :: .int x :: st) σ P :=
  fun l p e s m args below meth c H locs ls C hW hS hl => lv_icmp_ne C.1 C.2.1 d ht (fun q => kt q l p e s m args below meth c H locs ls C hW hS hl) (fun q => kf q l p e s m args below meth c H locs ls C hW hS hl)
theorem w_if_lt {x : Int32} {off : Int} {t : Nat} (d : decode M.2.2.1 pc = .ok (.ifCond .lt off, 3)) (ht : (pc : Int) + off = (t : Int)) (kt : x < 0 → WP G M t L st σ P) (kf : ¬ (x < 0) → WP G M (pc + 3) L st σ P) : WP G M pc L (.int x :: st) σ P :=
  fun l p e s m args below meth c H locs ls C hW hS hl => lv_if_lt C.1 C.2.1 d ht (fun q => kt q l p e s m args below meth c H locs ls C hW hS hl) (fun q => kf q l p e s m args below meth c H locs ls C hW hS hl)
theorem w_icmp_lt {x y : Int32} {off : Int} {t : Nat} (d : decode M.2.2.1 pc = .ok (.if_icmp .lt off, 3)) (ht : (pc : Int) + off = (t : Int)) (kt : x < y → WP G M t L st σ P) (kf : ¬ (x < y) → WP G M (pc + 3) L st σ P) : WP G M pc L (.int y :: .int x :: st) σ P :=
  fun l p e s m args below meth c H locs ls C hW hS hl => lv_icmp_lt C.1 C.2.1 d ht (fun q => kt q l p e s m args below meth c H locs ls C hW hS hl) (fun q => kf q l p e s m args below meth c H locs ls C hW hS hl)
theorem w_if_ge {x : Int32} {off : Int} {t : Nat} (d : decode M.2.2.1 pc = .ok (.ifCond .ge off, 3)) (ht : (pc : Int) + off = (t : Int)) (kt : 0 ≤ x → WP G M t L st σ P) (kf : ¬ (0 ≤ x) → WP G M (pc + 3) L st σ P) : WP G M pc L (.int x :: st) σ P :=
  fun l p e s m args below meth c H locs ls C hW hS hl => lv_if_ge C.1 C.2.1 d ht (fun q => kt q l p e s m args below meth c H locs ls C hW hS hl) (fun q => kf q l p e s m args below meth c H locs ls C hW hS hl)
theorem w_icmp_ge {x y : Int32} {off : Int} {t : Nat} (d : decode M.2.2.1 pc = .ok (.if_icmp .ge off, 3)) (ht : (pc : Int) + off = (t : Int)) (kt : y ≤ x → WP G M t L st σ P) (kf : ¬ (y ≤ x) → WP G M (pc + 3) L st σ P) : WP G M pc L (.int y :: .int x :: st) σ P :=
  fun l p e s m args below meth c H locs ls C hW hS hl => lv_icmp_ge C.1 C.2.1 d ht (fun q => kt q l p e s m args below meth c H locs ls C hW hS hl) (fun q => kf q l p e s m args below meth c H locs ls C hW hS hl)
theorem w_if_gt {x : Int32} {off : Int} {t : Nat} (d : decode M.2.2.1 pc = .ok (.ifCond .gt off, 3)) (ht : (pc : Int) + off = (t : Int)) (kt : 0 < x → WP G M t L st σ P) (kf : ¬ (0 < x) → WP G M (pc + 3) L st σ P) : WP G M pc L (.int x :: st) σ P :=
  fun l p e s m args below meth c H locs ls C hW hS hl => lv_if_gt C.1 C.2.1 d ht (fun q => kt q l p e s m args below meth c H locs ls C hW hS hl) (fun q => kf q l p e s m args below meth c H locs ls C hW hS hl)
theorem w_icmp_gt {x y : Int32} {off : Int} {t : Nat} (d : decode M.2.2.1 pc = .ok (.if_icmp .gt off, 3)) (ht : (pc : Int) + off = (t : Int)) (kt : y < x → WP G M t L st σ P) (kf : ¬ (y < x) → WP G M (pc + 3) L st σ P) : WP G M pc L (.int y :: .int x :: st) σ P :=
  fun l p e s m args below meth c H locs ls C hW hS hl => lv_icmp_gt C.1 C.2.1 d ht (fun q => kt q l p e s m args below meth c H locs ls C hW hS hl) (fun q => kf q l p e s m args below meth c H locs ls C hW hS hl)
theorem w_if_le {x : Int32} {off : Int} {t : Nat} (d : decode M.2.2.1 pc = .ok (.ifCond .le off, 3)) (ht : (pc : Int) + off = (t : Int)) (kt : x ≤ 0 → WP G M t L st σ P) (kf : ¬ (x ≤ 0) → WP G M (pc + 3) L st σ P) : WP G M pc L (.int x :: st) σ P :=
  fun l p e s m args below meth c H locs ls C hW hS hl => lv_if_le C.1 C.2.1 d ht (fun q => kt q l p e s m args below meth c H locs ls C hW hS hl) (fun q => kf q l p e s m args below meth c H locs ls C hW hS hl)
theorem w_icmp_le {x y : Int32} {off : Int} {t : Nat} (d : decode M.2.2.1 pc = .ok (.if_icmp .le off, 3)) (ht : (pc : Int) + off = (t : Int)) (kt : x ≤ y → WP G M t L st σ P) (kf : ¬ (x ≤ y) → WP G M (pc + 3) L st σ P) : WP G M pc L (.int y :: .int x :: st) σ P :=
  fun l p e s m args below meth c H locs ls C hW hS hl => lv_icmp_le C.1 C.2.1 d ht (fun q => kt q l p e s m args below meth c H locs ls C hW hS hl) (fun q => kf q l p e s m args below meth c H locs ls C hW hS hl)
theorem w_tableIn {dflt lo hi : Int} {offs : Array Int} {len : Nat} {x : Int32} {off : Int} {t : Nat} (d : decode M.2.2.1 pc = .ok (.tableswitch dflt lo hi offs, len)) (h1 : ¬ x.toInt < lo) (h2 : ¬ hi < x.toInt) (ho : offs[(x.toInt - lo).toNat]? = some off) (ht : (pc : Int) + off = (t : Int)) (k : WP G M t L st σ P) : WP G M pc L (.int x :: st) σ P :=
  fun l p e s m args below meth c H locs ls C hW hS hl => lv_tableIn C.1 C.2.1 d h1 h2 ho ht (k l p e s m args below meth c H locs ls C hW hS hl)
theorem w_tableOut {dflt lo hi : Int} {offs : Array Int} {len : Nat} {x : Int32} {t : Nat} (d : decode M.2.2.1 pc = .ok (.tableswitch dflt lo hi offs, len)) (h : x.toInt < lo ∨ hi < x.toInt) (ht : (pc : Int) + dflt = (t : Int)) (k : WP G M t L st σ P) : WP G M pc L (.int x :: st) σ P :=
  fun l p e s m args below meth c H locs ls C hW hS hl => lv_tableOut C.1 C.2.1 d h ht (k l p e s m args below meth c H locs ls C hW hS hl)
-- returns
theorem w_iret {x : Int32} (d : decode M.2.2.1 pc = .ok (.ireturn, 1)) (hr : M.2.2.2.2.1 = some .int) (k : P (some (.int x)) σ) : WP G M pc L [.int x] σ P :=
  fun l p e s m args below meth c H locs ls C hW hS hl => W.iret C.1 C.2.1 (C.2.2.1.trans hr) (fun t ht _ => ⟨⟨some (.int x), σ, rfl, k, ht ▸ hW⟩, hS.F ht⟩) hS.2.2 d C.2.2.2.2.2.2.1
theorem w_zret {x : Int32} {ty : FieldType} (d : decode M.2.2.1 pc = .ok (.ireturn, 1)) (hr : M.2.2.2.2.1 = some ty) (hn : narrow ty (.int x) = .int x) (k : P (some (.int x)) σ) : WP G M pc L [.int x] σ P :=
  fun l p e s m args below meth c H locs ls C hW hS hl => W.zret C.1 C.2.1 (C.2.2.1.trans hr) hn (fun t ht _ => ⟨⟨some (.int x), σ, rfl, k, ht ▸ hW⟩, hS.F ht⟩) hS.2.2 d C.2.2.2.2.2.2.1
theorem w_lret {x : Int64} (d : decode M.2.2.1 pc = .ok (.lreturn, 1)) (hr : M.2.2.2.2.1 = some .long) (k : P (some (.long x)) σ) : WP G M pc L [.long x] σ P :=
  fun l p e s m args below meth c H locs ls C hW hS hl => W.lret C.1 C.2.1 (C.2.2.1.trans hr) (fun t ht _ => ⟨⟨some (.long x), σ, rfl, k, ht ▸ hW⟩, hS.F ht⟩) hS.2.2 d C.2.2.2.2.2.2.1
theorem w_vret (d : decode M.2.2.1 pc = .ok (.return_, 1)) (hr : M.2.2.2.2.1 = none) (k : P none σ) : WP G M pc L [] σ P :=
  fun l p e s m args below meth c H locs ls C hW hS hl => W.vret C.1 C.2.1 (C.2.2.1.trans hr) (fun t ht _ => ⟨⟨none, σ, rfl, k, ht ▸ hW⟩, hS.F ht⟩) hS.2.2 d C.2.2.2.2.2.2.1
theorem w_aret {x : Nat} {C0 : String} (d : decode M.2.2.1 pc = .ok (.areturn, 1)) (hr : M.2.2.2.2.1 = some (.object C0)) (k : P (some (.ref x)) σ) : WP G M pc L [.ref x] σ P :=
  fun l p e s m args below meth c H locs ls C hW hS hl => W.aret C.1 C.2.1 (C.2.2.1.trans hr) (Or.inl ⟨_, rfl⟩) (Or.inr ⟨_, rfl⟩) (fun t ht _ => ⟨⟨some (.ref x), σ, rfl, k, ht ▸ hW⟩, hS.F ht⟩) hS.2.2 d C.2.2.2.2.2.2.1
end RULES
