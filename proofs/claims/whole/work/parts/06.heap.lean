/-! fields, arrays, calls -/
def clC (ci : Nat) : vw_C := vwCl.getD ci (RX0, TX0, 5)
/-- what a class's number stands for in the tables -/
def clOK (ci : Nat) : Prop := vwCl[ci]? = some (clC ci) ∧ (clC ci).2.2 = nF ci ∧ (∀ w ∈ u_ws (clC ci).1 (clC ci).2.1 (clC ci).2.2, w ∈ gt) ∧ (∃ ty : Nat → FieldType, ∀ k, k < (clC ci).2.2 → parseFieldDescriptor ((clC ci).2.1 k).2.2.1 = some (ty k)) ∧ (∀ a, a < (clC ci).2.2 → ∀ b, b < (clC ci).2.2 → a ≠ b → ((clC ci).2.1 a).2.1 ≠ ((clC ci).2.1 b).2.1)
/-- a field's link: from class own, pool number idx, to field k of class ci -/
def FL (own : String) (idx ci k : Nat) : Prop := Cond.fieldLink own idx ((clC ci).2.1 k).1 ((clC ci).2.1 k).2.1 ((clC ci).2.1 k).2.2.1 ∈ gt
theorem lys_mem {ws : List Cond} (h : ws.all (fun w => decide (w ∈ lw_tbl) && goodWord w) = true) : ∀ w ∈ ws, w ∈ gt := fun w hw => by
  have h1 := List.all_eq_true.mp h w hw
  simp only [Bool.and_eq_true, decide_eq_true_eq] at h1
  exact List.mem_filter.mpr ⟨h1.1, h1.2⟩
theorem cl_0 : clOK 0 := ⟨rfl, rfl, lys_mem (by decide +kernel), ⟨tyX0, tyX0_ok⟩, nmX0⟩
theorem cl_1 : clOK 1 := ⟨rfl, rfl, lys_mem (by decide +kernel), ⟨tyX1, tyX1_ok⟩, nmX1⟩
theorem cl_2 : clOK 2 := ⟨rfl, rfl, lys_mem (by decide +kernel), ⟨tyX2, tyX2_ok⟩, nmX2⟩
theorem cl_3 : clOK 3 := ⟨rfl, rfl, lys_mem (by decide +kernel), ⟨tyX3, tyX3_ok⟩, nmX3⟩
theorem cl_4 : clOK 4 := ⟨rfl, rfl, lys_mem (by decide +kernel), ⟨tyX4, tyX4_ok⟩, nmX4⟩
theorem cl_5 : clOK 5 := ⟨rfl, rfl, lys_mem (by decide +kernel), ⟨tyX5, tyX5_ok⟩, nmX5⟩
theorem cl_6 : clOK 6 := ⟨rfl, rfl, lys_mem (by decide +kernel), ⟨tyX6, tyX6_ok⟩, nmX6⟩
theorem cl_7 : clOK 7 := ⟨rfl, rfl, lys_mem (by decide +kernel), ⟨tyX7, tyX7_ok⟩, nmX7⟩
theorem cl_all {ci : Nat} (h : ci < 8) : clOK ci := by
  match ci, h with
  | 0, _ => exact cl_0
  | 1, _ => exact cl_1
  | 2, _ => exact cl_2
  | 3, _ => exact cl_3
  | 4, _ => exact cl_4
  | 5, _ => exact cl_5
  | 6, _ => exact cl_6
  | 7, _ => exact cl_7
  | n + 8, h => omega
theorem ln_lt (c : Nat) : ln c < 2 ^ 31 := by
  unfold ln
  (repeat' split) <;> decide
section HEAP
variable {G : GT} {M : MT} {pc : Nat} {L : List (Option Value)} {st : List Value} {σ : Sg} {P : Option Value → Sg → Prop}
theorem hts_gt {p : Program} {s : State} {m : MethodId} {args : Array Value} {meth : Method} {c : Code} (C : Cx G M p s m args meth c) : ∀ w ∈ gt, w.before args s = true := fun w h => C.2.2.2.2.2.1 w (List.mem_cons_of_mem _ h)
theorem kd_lt {c ci : Nat} (h : kd c = ci) (h8 : ci ≠ 8) : c < 62 := by
  rcases Nat.lt_or_ge c 62 with z | z
  · exact z
  · exfalso
    apply h8
    rw [← h]
    unfold kd
    rw [if_neg (by omega), if_neg (by omega), if_neg (by omega), if_neg (by omega), if_neg (by omega)]
/-- getfield, any field -/
theorem w_get {idx ci k c : Nat} (d : decode M.2.2.1 pc = .ok (.getfield idx, 3)) (f : FL M.1 idx ci k) (hc : kd c = ci) (h8 : ci < 8) (hk : k < nF ci) {v : Value} (hv : fv G σ c ci k = cv G v)
    (n : WP G M (pc + 3) L (v :: st) σ P) : WP G M pc L (.ref c :: st) σ P := by
  intro l p e s m args below meth cd H locs ls C hW hS hl
  obtain ⟨q1, q2, q3, ⟨ty, q4⟩, q5⟩ := cl_all h8
  have hh := n l p e s m args below meth cd H locs ls C hW hS hl
  have hlt : c < 62 := kd_lt hc (by omega)
  refine va_get (D := G.1) (C := (clC ci).1) (T := (clC ci).2.1) (N := (clC ci).2.2) (ci := ci) (ws := wsW G σ) (fs := fsK G σ c ci) (v := cv G v) C.1 C.2.1 (hts_gt C) q3 C.2.2.2.2.1 C.2.2.2.2.2.2.2.2.1 hW c ?_ q1 k (by rw [q2]; exact hk) (hts_gt C _ f) (fun _ h => h) ?_ d hh
  · rw [wsW_at hlt, cell_obj hc h8]
  · rw [fsK_at hk, hv]
theorem w_getI {idx ci k c : Nat} (d : decode M.2.2.1 pc = .ok (.getfield idx, 3)) (f : FL M.1 idx ci k) (hc : kd c = ci) (hs : (decide (ci < 8) && decide (k < nF ci) && decide (srK ci c k = none) && !(decide (ci = 7) && decide (k = 14))) = true)
    (n : WP G M (pc + 3) L (.int (σ.1 c k) :: st) σ P) : WP G M pc L (.ref c :: st) σ P := by
  simp only [Bool.and_eq_true, decide_eq_true_eq, Bool.not_eq_true', Bool.and_eq_false_iff, decide_eq_false_iff_not] at hs
  refine w_get d f hc hs.1.1.1 hs.1.1.2 (v := .int (σ.1 c k)) ?_ n
  unfold fv
  rw [hs.1.2]
  show (if ci = 7 ∧ k = 14 then _ else _) = _
  rw [if_neg (by rintro ⟨a, b⟩; rcases hs.2 with z | z; exact z a; exact z b)]
  rfl
theorem w_getR {idx ci k c t : Nat} (d : decode M.2.2.1 pc = .ok (.getfield idx, 3)) (f : FL M.1 idx ci k) (hc : kd c = ci) (h8 : ci < 8) (hk : k < nF ci) (hs : srK ci c k = some t)
    (n : WP G M (pc + 3) L (.ref t :: st) σ P) : WP G M pc L (.ref c :: st) σ P := by
  refine w_get d f hc h8 hk (v := .ref t) ?_ n
  unfold fv
  rw [hs]
  rfl
theorem w_getL {idx c : Nat} (d : decode M.2.2.1 pc = .ok (.getfield idx, 3)) (f : FL M.1 idx 7 14) (hc : kd c = 7)
    (n : WP G M (pc + 3) L (.long (σ.2.1 c 14) :: st) σ P) : WP G M pc L (.ref c :: st) σ P := by
  refine w_get d f hc (by omega) (by decide) (v := .long (σ.2.1 c 14)) ?_ n
  unfold fv
  rfl
theorem wI_ne {σ : Sg} {c k : Nat} {v : Int32} : ∀ d, d ≠ c → cellOf G (wI σ c k v) d = cellOf G σ d := fun d hd => cellOf_cong (fun _ => wI_c hd) (fun _ => rfl) (fun _ => rfl)
theorem wL_ne {σ : Sg} {c k : Nat} {v : Int64} : ∀ d, d ≠ c → cellOf G (wL σ c k v) d = cellOf G σ d := fun d hd => cellOf_cong (fun _ => rfl) (fun _ => wL_c hd) (fun _ => rfl)
theorem w_put0 {idx ci k c : Nat} {v : Value} {σ' : Sg} (d : decode M.2.2.1 pc = .ok (.putfield idx, 3)) (f : FL M.1 idx ci k) (hc : kd c = ci) (h8 : ci < 8) (hk : k < nF ci) (hfin : ((clC ci).2.1 k).2.2.2 = false) {ty : FieldType} (hty : parseFieldDescriptor ((clC ci).2.1 k).2.2.1 = some ty)
    (hn : narrow ty (cv G v) = cv G v) (hfit : fits ty (cv G v) = true) (hset : (fsK G σ c ci).set k (cv G v) = fsK G σ' c ci) (hne : ∀ d, d ≠ c → cellOf G σ' d = cellOf G σ d)
    (n : WP G M (pc + 3) L st σ' P) : WP G M pc L (v :: .ref c :: st) σ P := by
  intro l p e s m args below meth cd H locs ls C hW hS hl
  obtain ⟨q1, q2, q3, ⟨ty0, q4⟩, q5⟩ := cl_all h8
  have hlt : c < 62 := kd_lt hc (by omega)
  refine va_put (D := G.1) (C := (clC ci).1) (T := (clC ci).2.1) (N := (clC ci).2.2) (ci := ci) (ws := wsW G σ) (fs := fsK G σ c ci) (v := cv G v) (A := AG G) C.1 C.2.1 (hts_gt C) q3 ty0 q4 q5 C.2.2.2.2.1 C.2.2.2.2.2.2.2.2.1 hW (wsW_D C.2.2.2.2.2.2.2.1) hS c ?_ q1 k (by rw [q2]; exact hk) (hts_gt C _ f) (fun _ h => h) hfin hty hn hfit (by rw [fsK_len]; exact hk) d (fun H1 locs1 hP hD hS1 => ?_)
  · rw [wsW_at hlt, cell_obj hc h8]
  · rw [wsW_set (σ' := σ') hlt (by rw [cell_obj hc h8, hset]) hne] at hP
    exact n l p e s m args below meth cd H1 locs1 ls C hP hS1 hl
theorem w_putI {idx ci k c : Nat} {x : Int32} (d : decode M.2.2.1 pc = .ok (.putfield idx, 3)) (f : FL M.1 idx ci k) (hc : kd c = ci) (hs : (decide (ci < 8) && decide (k < nF ci) && decide (srK ci c k = none) && !(decide (ci = 7) && decide (k = 14)) && !((clC ci).2.1 k).2.2.2) = true) (hty : parseFieldDescriptor ((clC ci).2.1 k).2.2.1 = some .int)
    (n : WP G M (pc + 3) L st (wI σ c k x) P) : WP G M pc L (.int x :: .ref c :: st) σ P := by
  simp only [Bool.and_eq_true, decide_eq_true_eq, Bool.not_eq_true', Bool.and_eq_false_iff, decide_eq_false_iff_not] at hs
  exact w_put0 d f hc hs.1.1.1.1 hs.1.1.1.2 hs.2 hty rfl rfl (fsK_setI hs.1.1.2 (by rintro ⟨a, b⟩; rcases hs.1.2 with z | z; exact z a; exact z b)) wI_ne n
theorem w_putZ {idx ci k c : Nat} {x : Int32} (d : decode M.2.2.1 pc = .ok (.putfield idx, 3)) (f : FL M.1 idx ci k) (hc : kd c = ci) (hs : (decide (ci < 8) && decide (k < nF ci) && decide (srK ci c k = none) && !(decide (ci = 7) && decide (k = 14)) && !((clC ci).2.1 k).2.2.2) = true) (hty : parseFieldDescriptor ((clC ci).2.1 k).2.2.1 = some .boolean) (hx : x = 0 ∨ x = 1)
    (n : WP G M (pc + 3) L st (wI σ c k x) P) : WP G M pc L (.int x :: .ref c :: st) σ P := by
  simp only [Bool.and_eq_true, decide_eq_true_eq, Bool.not_eq_true', Bool.and_eq_false_iff, decide_eq_false_iff_not] at hs
  exact w_put0 d f hc hs.1.1.1.1 hs.1.1.1.2 hs.2 hty (by rcases hx with rfl | rfl <;> rfl) (by rcases hx with rfl | rfl <;> rfl) (fsK_setI hs.1.1.2 (by rintro ⟨a, b⟩; rcases hs.1.2 with z | z; exact z a; exact z b)) wI_ne n
theorem w_putL {idx c : Nat} {x : Int64} (d : decode M.2.2.1 pc = .ok (.putfield idx, 3)) (f : FL M.1 idx 7 14) (hc : kd c = 7)
    (n : WP G M (pc + 3) L st (wL σ c 14 x) P) : WP G M pc L (.long x :: .ref c :: st) σ P :=
  w_put0 d f hc (by decide) (by decide) (by decide) (ty := .long) (by decide +kernel) rfl rfl (fsK_setL rfl ⟨rfl, rfl⟩) wL_ne n
theorem nI_cl {i : Int32} {j : Nat} (hi : i = nI j) (hj : j < 2 ^ 31) : i.toNatClampNeg = j := by rw [hi]; exact nI_clamp hj
theorem w_iald {c j : Nat} {i : Int32} (d : decode M.2.2.1 pc = .ok (.iaload, 1)) (hc : kd c = 8) (h62 : c < 62) (hi : i = nI j) (hj : j < ln c) (n : WP G M (pc + 1) L (.int (σ.1 c j) :: st) σ P) : WP G M pc L (.int i :: .ref c :: st) σ P := by
  intro l p e s m args below meth cd H locs ls C hW hS hl
  have hln := ln_lt c
  have hh := n l p e s m args below meth cd H locs ls C hW hS hl
  refine va_iald (D := G.1) (ws := wsW G σ) (cA := G.2.2 0) (n := ln c) (f := σ.1 c) C.1 C.2.1 C.2.2.2.2.2.2.2.2.1 hW c 0 ?_ rfl (by rw [hi]; exact vp_in_nI hj hln) d ?_
  · rw [wsW_at h62, cell_I hc]
  · rw [nI_cl hi (by omega)]
    exact hh
theorem w_lald {c j : Nat} {i : Int32} (d : decode M.2.2.1 pc = .ok (.laload, 1)) (hc : kd c = 9) (hi : i = nI j) (hj : j < ln c) (n : WP G M (pc + 1) L (.long (σ.2.1 c j) :: st) σ P) : WP G M pc L (.int i :: .ref c :: st) σ P := by
  intro l p e s m args below meth cd H locs ls C hW hS hl
  have h62 := kd_lt hc (by omega)
  have hln := ln_lt c
  have hh := n l p e s m args below meth cd H locs ls C hW hS hl
  refine va_lald (D := G.1) (ws := wsW G σ) (cA := G.2.2 1) (n := ln c) (f := σ.2.1 c) C.1 C.2.1 C.2.2.2.2.2.2.2.2.1 hW c 1 ?_ rfl (by rw [hi]; exact vp_in_nI hj hln) d ?_
  · rw [wsW_at h62, cell_L hc]
  · rw [nI_cl hi (by omega)]
    exact hh
theorem w_aald {c j : Nat} {i : Int32} (d : decode M.2.2.1 pc = .ok (.aaload, 1)) (hc : kd c = 10) (hi : i = nI j) (hj : j < 8) (n : WP G M (pc + 1) L (.ref (σ.2.2 c j) :: st) σ P) : WP G M pc L (.int i :: .ref c :: st) σ P := by
  intro l p e s m args below meth cd H locs ls C hW hS hl
  have h62 := kd_lt hc (by omega)
  have hh := n l p e s m args below meth cd H locs ls C hW hS hl
  refine va_aldq (D := G.1) (ws := wsW G σ) (cA := G.2.2 2) (n := 8) (C := RX3) (f := fun j => some (G.2.1 (σ.2.2 c j))) C.1 C.2.1 C.2.2.2.2.2.2.2.2.1 hW c 2 ?_ rfl (by rw [hi]; exact vp_in_nI hj (by decide)) d ?_
  · rw [wsW_at h62, cell_P hc]
  · rw [nI_cl hi (by omega)]
    exact hh
theorem w_sald {j : Nat} {i : Int32} (d : decode M.2.2.1 pc = .ok (.aaload, 1)) (hi : i = nI j) (hj : j < 4) (n : WP G M (pc + 1) L (.ref (18 + j) :: st) σ P) : WP G M pc L (.int i :: .ref 6 :: st) σ P := by
  intro l p e s m args below meth cd H locs ls C hW hS hl
  have hh := n l p e s m args below meth cd H locs ls C hW hS hl
  refine va_aldq (D := G.1) (ws := wsW G σ) (cA := G.2.2 3) (n := 4) (C := RX4) (f := fun j => some (G.2.1 (18 + j))) C.1 C.2.1 C.2.2.2.2.2.2.2.2.1 hW 6 3 ?_ rfl (by rw [hi]; exact vp_in_nI hj (by decide)) d ?_
  · rw [wsW_at (by decide), cell_Q rfl]
  · rw [nI_cl hi (by omega)]
    exact hh
theorem w_iast {c j : Nat} {i x : Int32} (d : decode M.2.2.1 pc = .ok (.iastore, 1)) (hc : kd c = 8) (h62 : c < 62) (hi : i = nI j) (hj : j < ln c) (n : WP G M (pc + 1) L st (wI σ c j x) P) : WP G M pc L (.int x :: .int i :: .ref c :: st) σ P := by
  intro l p e s m args below meth cd H locs ls C hW hS hl
  have hln := ln_lt c
  refine va_iast (D := G.1) (A := AG G) (ws := wsW G σ) (cA := G.2.2 0) (n := ln c) (f := σ.1 c) C.1 C.2.1 C.2.2.2.2.2.2.2.2.1 hW (wsW_D C.2.2.2.2.2.2.2.1) hS c 0 ?_ rfl (by rw [hi]; exact vp_in_nI hj hln) d (fun H1 locs1 hP hD hS1 => ?_)
  · rw [wsW_at h62, cell_I hc]
  · rw [nI_cl hi (by omega)] at hP
    rw [wsW_set (σ' := wI σ c j x) h62 ?_ wI_ne] at hP
    · exact n l p e s m args below meth cd H1 locs1 ls C hP hS1 hl
    · rw [cell_I hc]
      have e1 : (wI σ c j x).1 c = upd (σ.1 c) j x := by
        funext z
        show (if c = c ∧ z = j then x else σ.1 c z) = _
        unfold upd
        simp
      rw [e1]
theorem w_last {c j : Nat} {i : Int32} {x : Int64} (d : decode M.2.2.1 pc = .ok (.lastore, 1)) (hc : kd c = 9) (hi : i = nI j) (hj : j < ln c) (n : WP G M (pc + 1) L st (wL σ c j x) P) : WP G M pc L (.long x :: .int i :: .ref c :: st) σ P := by
  intro l p e s m args below meth cd H locs ls C hW hS hl
  have h62 := kd_lt hc (by omega)
  have hln := ln_lt c
  refine va_last (D := G.1) (A := AG G) (ws := wsW G σ) (cA := G.2.2 1) (n := ln c) (f := σ.2.1 c) C.1 C.2.1 C.2.2.2.2.2.2.2.2.1 hW (wsW_D C.2.2.2.2.2.2.2.1) hS c 1 ?_ rfl (by rw [hi]; exact vp_in_nI hj hln) d (fun H1 locs1 hP hD hS1 => ?_)
  · rw [wsW_at h62, cell_L hc]
  · rw [nI_cl hi (by omega)] at hP
    rw [wsW_set (σ' := wL σ c j x) h62 ?_ wL_ne] at hP
    · exact n l p e s m args below meth cd H1 locs1 ls C hP hS1 hl
    · rw [cell_L hc]
      have e1 : (wL σ c j x).2.1 c = vp_updL (σ.2.1 c) j x := by
        funext z
        show (if c = c ∧ z = j then x else σ.2.1 c z) = _
        unfold vp_updL
        simp
      rw [e1]
theorem wP_ne {σ : Sg} {c k v : Nat} : ∀ d, d ≠ c → cellOf G (wP σ c k v) d = cellOf G σ d := fun d hd => cellOf_cong (fun _ => rfl) (fun _ => rfl) (fun _ => by simp [wP, hd])
theorem w_aast {c j v : Nat} {i : Int32} (d : decode M.2.2.1 pc = .ok (.aastore, 1)) (hc : kd c = 10) (hv : kd v = 3) (hi : i = nI j) (hj : j < 8) (n : WP G M (pc + 1) L st (wP σ c j v) P) : WP G M pc L (.ref v :: .int i :: .ref c :: st) σ P := by
  intro l p e s m args below meth cd H locs ls C hW hS hl
  have h62 := kd_lt hc (by omega)
  have h62v := kd_lt hv (by omega)
  refine va_astq (D := G.1) (A := AG G) (ws := wsW G σ) (cA := G.2.2 2) (n := 8) (f := fun j => some (G.2.1 (σ.2.2 c j))) (r := clC 3) (v := G.2.1 v) (vs := fsK G σ v 3) C.1 C.2.1 C.2.2.2.2.2.2.2.2.1 hW (wsW_D C.2.2.2.2.2.2.2.1) hS c 2 v 3 ?_ rfl ?_ rfl (by rw [hi]; exact vp_in_nI hj (by decide)) d (fun H1 locs1 hP hD hS1 => ?_)
  · rw [wsW_at h62, cell_P hc]
  · rw [wsW_at h62v, cell_obj hv (by decide)]
  · rw [nI_cl hi (by omega)] at hP
    rw [wsW_set (σ' := wP σ c j v) h62 ?_ wP_ne] at hP
    · exact n l p e s m args below meth cd H1 locs1 ls C hP hS1 hl
    · rw [cell_P hc]
      have e1 : (fun z => some (G.2.1 ((wP σ c j v).2.2 c z))) = va_up (fun z => some (G.2.1 (σ.2.2 c z))) j (some (G.2.1 v)) := by
        funext z
        show some (G.2.1 (if c = c ∧ z = j then v else σ.2.2 c z)) = _
        unfold va_up
        by_cases hz : z = j
        · simp [hz]
        · simp [hz]
      rw [e1]
end HEAP
