/-! THE WORLD: 62 cells by number; what they hold is three functions (ints, longs, the rods' rows of references). -/
abbrev Sg : Type := (Nat → Nat → Int32) × (Nat → Nat → Int64) × (Nat → Nat → Nat)
abbrev GT : Type := va_G × (Nat → Nat) × (Nat → ClassId)
def wI (σ : Sg) (c k : Nat) (v : Int32) : Sg := (fun c' k' => if c' = c ∧ k' = k then v else σ.1 c' k', σ.2.1, σ.2.2)
def wL (σ : Sg) (c k : Nat) (v : Int64) : Sg := (σ.1, fun c' k' => if c' = c ∧ k' = k then v else σ.2.1 c' k', σ.2.2)
def wP (σ : Sg) (c k : Nat) (v : Nat) : Sg := (σ.1, σ.2.1, fun c' k' => if c' = c ∧ k' = k then v else σ.2.2 c' k')
def cv (G : GT) : Value → Value
  | .ref a => .ref (G.2.1 a)
  | v => v
theorem cv_cat (G : GT) (v : Value) : (cv G v).category = v.category := by cases v <;> rfl
/-- the kind of a cell: a class's number; 8 ints, 9 longs, 10 rods, 11 sheets -/
def kd (c : Nat) : Nat :=
  if c < 26 then (if c < 12 then (if c < 4 then (if c = 0 then 6 else 1) else if c < 9 then (if c = 4 then 2 else if c = 5 then 5 else if c = 6 then 11 else 8) else 0) else if c < 15 then 10 else if c < 18 then 8 else if c < 22 then 4 else 9)
  else if c < 50 then 3 else if c = 50 then 7 else if c = 58 then 9 else if c = 59 then 9 else 8
def ln (c : Nat) : Nat :=
  if c < 26 then (if c = 7 then 7 else if c = 8 then 120 else if c < 18 then 16 else 40)
  else if c = 52 then 7 else if c = 55 then 120 else if c = 56 then 4 else if c = 57 then 4 else if c = 58 then 160 else if c = 59 then 40 else 65
def nF : Nat → Nat
  | 0 => 5 | 1 => 7 | 2 => 5 | 3 => 7 | 4 => 3 | 5 => 2 | 6 => 7 | _ => 24
/-- the references that never change: of a cell c of class ci, field k -/
def srK (ci c k : Nat) : Option Nat :=
  match ci with
  | 1 => (match k with | 0 => some (c + 8) | 1 => some (c + 11) | 6 => some (c + 14) | _ => none)
  | 2 => (match k with | 0 => some 5 | _ => none)
  | 4 => (match k with | 0 => some (c + 4) | _ => none)
  | 5 => (match k with | 0 => some 8 | _ => none)
  | 6 => (match k with | 0 => some 1 | 1 => some 2 | 2 => some 3 | 4 => some 4 | 5 => some 6 | 6 => some 7 | _ => none)
  | 7 => (match k with | 0 => some 51 | 1 => some 52 | 2 => some 53 | 7 => some 54 | 9 => some 55 | 17 => some 56 | 18 => some 57 | 19 => some 58 | 20 => some 59 | 21 => some 60 | 22 => some 61 | _ => none)
  | _ => none
def fv (G : GT) (σ : Sg) (c ci k : Nat) : Value :=
  match srK ci c k with
  | some t => .ref (G.2.1 t)
  | none => if ci = 7 ∧ k = 14 then .long (σ.2.1 c k) else .int (σ.1 c k)
def fsK (G : GT) (σ : Sg) (c ci : Nat) : List Value := (List.range (nF ci)).map (fv G σ c ci)
def cellK (G : GT) (σ : Sg) (c : Nat) (k : Nat) : va_E :=
  if k < 8 then .inr (k, fsK G σ c k)
  else if k = 8 then .inl (G.2.2 0, ln c, .inl (σ.1 c))
  else if k = 9 then .inl (G.2.2 1, ln c, .inr (.inl (σ.2.1 c)))
  else if k = 10 then .inl (G.2.2 2, 8, .inr (.inr (.inr (.inr (fun j => some (G.2.1 (σ.2.2 c j)))))))
  else .inl (G.2.2 3, 4, .inr (.inr (.inr (.inr (fun j => some (G.2.1 (18 + j)))))))
def cellOf (G : GT) (σ : Sg) (c : Nat) : va_E := cellK G σ c (kd c)
def wsW (G : GT) (σ : Sg) : va_W := (List.range 62).map (fun c => (G.2.1 c, cellOf G σ c))
def Wd (G : GT) (σ : Sg) (H : Heap) : Prop := va_P G.1 vwCl (wsW G σ) H
def AG (G : GT) : Nat → Prop := fun q => ∃ c, c < 62 ∧ q = G.2.1 c
def InjG (G : GT) : Prop := ∀ c d, c < 62 → d < 62 → G.2.1 c = G.2.1 d → c = d
theorem wsW_at {G : GT} {σ : Sg} {c : Nat} (h : c < 62) : (wsW G σ)[c]? = some (G.2.1 c, cellOf G σ c) := by
  simp [wsW, h]
theorem wsW_in {G : GT} {σ : Sg} {k : Nat} {q : Nat × va_E} (h : (wsW G σ)[k]? = some q) : k < 62 ∧ q = (G.2.1 k, cellOf G σ k) := by
  have hk : k < 62 := by
    rcases Nat.lt_or_ge k 62 with z | z
    · exact z
    · rw [List.getElem?_eq_none (by simp [wsW]; omega)] at h
      cases h
  rw [wsW_at hk] at h
  exact ⟨hk, (Option.some.inj h).symm⟩
theorem wsW_D {G : GT} {σ : Sg} (hi : InjG G) : va_D (AG G) (wsW G σ) := by
  refine ⟨fun i j p q hp hq e => ?_, fun k q hq => ?_⟩
  · obtain ⟨h1, rfl⟩ := wsW_in hp
    obtain ⟨h2, rfl⟩ := wsW_in hq
    exact hi i j h1 h2 e
  · obtain ⟨h1, rfl⟩ := wsW_in hq
    exact ⟨k, h1, rfl⟩
theorem wsW_set {G : GT} {σ σ' : Sg} {c : Nat} {e : va_E} (hc : c < 62) (h1 : cellOf G σ' c = e) (h2 : ∀ d, d ≠ c → cellOf G σ' d = cellOf G σ d) : (wsW G σ).set c (G.2.1 c, e) = wsW G σ' := by
  apply List.ext_getElem?
  intro i
  rw [List.getElem?_set]
  by_cases hi : c = i
  · subst hi
    rw [if_pos rfl, if_pos (by simp [wsW]; exact hc), wsW_at hc, h1]
  · rw [if_neg hi]
    rcases Nat.lt_or_ge i 62 with z | z
    · rw [wsW_at z, wsW_at z, h2 i (fun e => hi e.symm)]
    · rw [List.getElem?_eq_none (by simp [wsW]; omega), List.getElem?_eq_none (by simp [wsW]; omega)]
theorem wI_s (σ : Sg) (c k : Nat) (v : Int32) : (wI σ c k v).1 c k = v := by simp [wI]
theorem wI_c {σ : Sg} {c k c' k' : Nat} {v : Int32} (h : c' ≠ c) : (wI σ c k v).1 c' k' = σ.1 c' k' := by simp [wI, h]
theorem wI_k {σ : Sg} {c k c' k' : Nat} {v : Int32} (h : k' ≠ k) : (wI σ c k v).1 c' k' = σ.1 c' k' := by simp [wI, h]
theorem wL_s (σ : Sg) (c k : Nat) (v : Int64) : (wL σ c k v).2.1 c k = v := by simp [wL]
theorem wL_c {σ : Sg} {c k c' k' : Nat} {v : Int64} (h : c' ≠ c) : (wL σ c k v).2.1 c' k' = σ.2.1 c' k' := by simp [wL, h]
theorem wL_k {σ : Sg} {c k c' k' : Nat} {v : Int64} (h : k' ≠ k) : (wL σ c k v).2.1 c' k' = σ.2.1 c' k' := by simp [wL, h]
theorem fsK_at {G : GT} {σ : Sg} {c ci k : Nat} (h : k < nF ci) : (fsK G σ c ci)[k]? = some (fv G σ c ci k) := by simp [fsK, h]
theorem fsK_len {G : GT} {σ : Sg} {c ci : Nat} : (fsK G σ c ci).length = nF ci := by simp [fsK]
/-- a cell depends on what is held under its own number -/
theorem fv_cong {G : GT} {σ σ' : Sg} {c ci k : Nat} (h1 : σ'.1 c k = σ.1 c k) (h2 : σ'.2.1 c k = σ.2.1 c k) : fv G σ' c ci k = fv G σ c ci k := by
  unfold fv
  rw [h1, h2]
theorem cellOf_cong {G : GT} {σ σ' : Sg} {d : Nat} (h1 : ∀ k, σ'.1 d k = σ.1 d k) (h2 : ∀ k, σ'.2.1 d k = σ.2.1 d k) (h3 : ∀ k, σ'.2.2 d k = σ.2.2 d k) : cellOf G σ' d = cellOf G σ d := by
  have e1 : σ'.1 d = σ.1 d := funext h1
  have e2 : σ'.2.1 d = σ.2.1 d := funext h2
  have e3 : σ'.2.2 d = σ.2.2 d := funext h3
  have e4 : ∀ ci, fsK G σ' d ci = fsK G σ d ci := fun ci => by
    unfold fsK
    exact List.map_congr_left (fun k _ => fv_cong (h1 k) (h2 k))
  unfold cellOf cellK
  rw [e4, e1, e2, e3]
theorem cell_obj {G : GT} {σ : Sg} {c ci : Nat} (hk : kd c = ci) (h8 : ci < 8) : cellOf G σ c = .inr (ci, fsK G σ c ci) := by
  subst hk
  simp [cellOf, cellK, h8]
theorem cell_I {G : GT} {σ : Sg} {c : Nat} (hk : kd c = 8) : cellOf G σ c = .inl (G.2.2 0, ln c, .inl (σ.1 c)) := by simp [cellOf, cellK, hk]
theorem cell_L {G : GT} {σ : Sg} {c : Nat} (hk : kd c = 9) : cellOf G σ c = .inl (G.2.2 1, ln c, .inr (.inl (σ.2.1 c))) := by simp [cellOf, cellK, hk]
theorem cell_P {G : GT} {σ : Sg} {c : Nat} (hk : kd c = 10) : cellOf G σ c = .inl (G.2.2 2, 8, .inr (.inr (.inr (.inr (fun j => some (G.2.1 (σ.2.2 c j))))))) := by simp [cellOf, cellK, hk]
theorem cell_Q {G : GT} {σ : Sg} {c : Nat} (hk : kd c = 11) : cellOf G σ c = .inl (G.2.2 3, 4, .inr (.inr (.inr (.inr (fun j => some (G.2.1 (18 + j))))))) := by simp [cellOf, cellK, hk]
theorem fsK_setI {G : GT} {σ : Sg} {c ci k : Nat} {v : Int32} (hs : srK ci c k = none) (hl : ¬ (ci = 7 ∧ k = 14)) : (fsK G σ c ci).set k (.int v) = fsK G (wI σ c k v) c ci := by
  apply List.ext_getElem?
  intro i
  rw [List.getElem?_set, fsK_len]
  rcases Nat.lt_or_ge i (nF ci) with z | z
  · by_cases hi : k = i
    · subst hi
      rw [if_pos rfl, if_pos z, fsK_at z]
      unfold fv
      rw [hs]
      simp only []
      rw [if_neg hl, wI_s]
    · rw [if_neg hi, fsK_at z, fsK_at z, fv_cong (wI_k (fun e => hi e.symm)) rfl]
  · rw [List.getElem?_eq_none (by rw [fsK_len]; exact z), List.getElem?_eq_none (by rw [fsK_len]; exact z)]
    split
    · rw [if_neg (by omega)]
    · rfl
theorem fsK_setL {G : GT} {σ : Sg} {c k ci : Nat} {v : Int64} (hs : srK ci c k = none) (hl : ci = 7 ∧ k = 14) : (fsK G σ c ci).set k (.long v) = fsK G (wL σ c k v) c ci := by
  apply List.ext_getElem?
  intro i
  rw [List.getElem?_set, fsK_len]
  rcases Nat.lt_or_ge i (nF ci) with z | z
  · by_cases hi : k = i
    · subst hi
      rw [if_pos rfl, if_pos z, fsK_at z]
      unfold fv
      rw [hs]
      simp only []
      rw [if_pos hl, wL_s]
    · rw [if_neg hi, fsK_at z, fsK_at z, fv_cong (σ' := wL σ c k v) (σ := σ) rfl (wL_k (fun e => hi e.symm))]
  · rw [List.getElem?_eq_none (by rw [fsK_len]; exact z), List.getElem?_eq_none (by rw [fsK_len]; exact z)]
    split
    · rw [if_neg (by omega)]
    · rfl
/-! what never changes beside the world: statics, constants, nest mates -/
def lstF (j : Nat) : Int32 := ([0, 0, -1, 0, 20] : List Int32).getD j 0
def mstF (j : Nat) : Int32 := ([15, 99, 1, 50, 99] : List Int32).getD j 0
def sIx : List Nat := [50, 65, 73, 79, 92, 99, 103, 107, 109, 114, 116, 125, 130, 132, 134, 136, 138]
def sTx : List String := ["cloud", "grows", "breaks", "at", "high", "from", "to", "charge", "left", "right", "still", "rod", "copper", "kite", "oak", "cathedral", "poacher"]
def sLen : List Nat := [5, 5, 6, 2, 4, 4, 2, 6, 4, 5, 5, 3, 6, 4, 3, 9, 7]
def sByt : List (List Int32) := [[99, 108, 111, 117, 100], [103, 114, 111, 119, 115], [98, 114, 101, 97, 107, 115], [97, 116], [104, 105, 103, 104], [102, 114, 111, 109], [116, 111], [99, 104, 97, 114, 103, 101], [108, 101, 102, 116], [114, 105, 103, 104, 116], [115, 116, 105, 108, 108], [114, 111, 100], [99, 111, 112, 112, 101, 114], [107, 105, 116, 101], [111, 97, 107], [99, 97, 116, 104, 101, 100, 114, 97, 108], [112, 111, 97, 99, 104, 101, 114]]
def nstL : List (String × Nat × MethodName × String) := [(RX0, 27, yX6_isWithin, "BoltsByOrder"), (RX1, 74, yX6_isWithin, "BoltsByOrder"), (RX1, 92, yX6_held, "BoltsByOrder"), (RX0, 45, yX6_isPlace, "BoltsByOrder"), (RX2, 42, yX6_isKind, "BoltsByOrder"), (RX2, 153, yX6_isWithin, "BoltsByOrder")]
def ST (G : GT) (U : State) : Prop :=
  (va_Z RX0 "LEAST" "[I" (.ref (G.2.1 98)) (AG G) U U.heap ∧ va_T .int (G.2.1 98) 5 (fun j => .int (lstF j)) (AG G) U U.heap) ∧
  (va_Z RX0 "MOST" "[I" (.ref (G.2.1 99)) (AG G) U U.heap ∧ va_T .int (G.2.1 99) 5 (fun j => .int (mstF j)) (AG G) U U.heap) ∧
  (∀ q ∈ nstL, va_Nw (.methodLinkNest q.1 q.2.1 q.2.2.1 q.2.2.2) U) ∧
  vk_S 17 sLen sByt (fun i => G.2.1 (100 + i)) (fun i => G.2.1 (200 + i)) (AG G) U U.heap ∧
  (∀ i, i < 17 → vk_R RX2 (sIx.getD i 0) (sTx.getD i "") (G.2.1 (100 + i)) U) ∧
  va_Z RJ0 "COMPACT_STRINGS" "Z" (.int 1) (AG G) U U.heap ∧
  (va_Z RJ3 "SIOOBE_FORMATTER" "Ljava/util/function/BiFunction;" .null (AG G) U U.heap ∨ va_Z RJ3 "SIOOBE_FORMATTER" "Ljava/util/function/BiFunction;" (.ref (G.2.1 97)) (AG G) U U.heap)
def tysG (G : GT) : List (ClassId × FieldType) := [(G.2.2 0, .int), (G.2.2 1, .long), (G.2.2 2, .object RX3), (G.2.2 3, .object RX4)]
def KK (G : GT) (U : State) : Prop := InjG G ∧ va_K G.1 vwCl (tysG G) U ∧ ST G U
theorem ST.to {G : GT} {s U : State} (h : ST G s) (hW : s.WarmedH U.vm) (hq : ∀ a : Nat, a < s.heap.size → ¬ AG G a → U.heap[a]? = s.heap[a]?) : ST G U := by
  obtain ⟨⟨a1, a2⟩, ⟨b1, b2⟩, c1, d1, e1, f1, g1⟩ := h
  have hv := hW.alike
  exact ⟨⟨va_Z.moved hv (a1.kept hq), va_T.moved hv (a2.kept hq)⟩, ⟨va_Z.moved hv (b1.kept hq), va_T.moved hv (b2.kept hq)⟩, fun q hq => (c1 q hq).warmM hW, vk_S.moved hv (d1.kept hq), fun i hi => (e1 i hi).warm hW, va_Z.moved hv (f1.kept hq), g1.imp (fun z => va_Z.moved hv (z.kept hq)) (fun z => va_Z.moved hv (z.kept hq))⟩
theorem KK.to {G : GT} {s U : State} (h : KK G s) (hW : s.WarmedH U.vm) (hq : ∀ a : Nat, a < s.heap.size → ¬ AG G a → U.heap[a]? = s.heap[a]?) : KK G U := ⟨h.1, va_K.moved hW.alike h.2.1, h.2.2.to hW hq⟩
theorem KK.blind {G : GT} {U : State} {g : JFrame} {mk : MethodId} {a : Array Value} (h : KK G U) : KK G (U.calling g mk a) := by
  obtain ⟨h1, h2, ⟨a1, a2⟩, ⟨b1, b2⟩, c1, d1, e1, f1, g1⟩ := h
  have hv : U.vm.Alike (U.calling g mk a).vm := Vm.Alike.refl U.vm
  exact ⟨h1, va_K.moved hv h2, ⟨va_Z.moved hv a1, va_T.moved hv a2⟩, ⟨va_Z.moved hv b1, va_T.moved hv b2⟩, fun q hq => va_Nw.same rfl rfl (c1 q hq), vk_S.moved hv d1, fun i hi => vk_R.same rfl (e1 i hi), va_Z.moved hv f1, g1.imp (fun z => va_Z.moved hv z) (fun z => va_Z.moved hv z)⟩
def rmOf (M : MT) : Room := { frames := M.2.2.2.2.2.1, cells := 0, slots := 0, locals := M.2.2.2.2.2.2 }
def wsOf (M : MT) : List Cond := .code M.2.1 M.2.2.1 M.2.2.2.1 M.2.2.2.2.1 :: gt
def Cx (G : GT) (M : MT) (p : Program) (s : State) (m : MethodId) (args : Array Value) (meth : Method) (c : Code) : Prop :=
  p.tables.exec = Jvm.exec ∧ c.code = M.2.2.1 ∧ meth.sig.returnType = M.2.2.2.2.1 ∧ c.maxLocals = M.2.2.2.1 ∧ s.vm.findClass M.1 = some m.cls ∧ (∀ w ∈ wsOf M, w.before args s = true) ∧ meth.locks = false ∧ KK G s
def LR (G : GT) (ls : Array Slot) (n : Nat) (L : List (Option Value)) : Prop := ls.size = n ∧ lv_wf ls ∧ ∀ (i : Nat) (v : Value), L[i]? = some (some v) → ls[i]? = some (.val (cv G v))
def Qc (G : GT) (P : Option Value → Sg → Prop) : Array Value → State → Outcome → State → Prop := fun _ st o t => (∃ (v : Option Value) (σ' : Sg), o = .returned (v.map (cv G)) ∧ P v σ' ∧ Wd G σ' t.heap) ∧ va_F (AG G) st t
/-- the machine, standing in method M at pc, with locals L, stack st and the world σ, comes to M's end with P -/
def WP (G : GT) (M : MT) (pc : Nat) (L : List (Option Value)) (st : List Value) (σ : Sg) (P : Option Value → Sg → Prop) : Prop :=
  ∀ (l : Launch) (p : Program) (e : Env) (s : State) (m : MethodId) (args : Array Value) (below : List Frame) (meth : Method) (c : Code) (H : Heap) (locs : List Loc) (ls : Array Slot),
    Cx G M p s m args meth c → Wd G σ H → va_S (AG G) s.heap H locs → LR G ls M.2.2.2.1 L → W p l e (rmOf M) s m args below meth c H locs 0 0 (MQ below (Qc G P) args s 0 0 (AG G)) (F0 m pc ls (st.map (cv G)))
def PcE (G : GT) (as : List Value) (σ : Sg) : Array Value → State → Prop := va_Pc (as.map (cv G)) (fun U => Wd G σ U.heap ∧ KK G U)
/-- method M, called with as in the world σ, returns, with P -/
def Ev (G : GT) (M : MT) (as : List Value) (σ : Sg) (P : Option Value → Sg → Prop) : Prop := ∀ l : Launch, Met l M.2.1 (wsOf M) (rmOf M) (PcE G as σ) (Qc G P) 0 0 (AG G)
def ent : List Value → List (Option Value)
  | [] => []
  | v :: vs => if v.category = 2 then some v :: none :: ent vs else some v :: ent vs

