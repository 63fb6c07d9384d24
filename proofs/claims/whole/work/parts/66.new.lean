/-! constructors: worlds that grow, as lists of cells at their own addresses -/
abbrev nTy : Type := List (ClassId × FieldType)
def gD (D : va_G) : GT := (D, id, fun _ => 0)
def nrm (M : MT) (mc ms : Nat) : Room := { frames := M.2.2.2.2.2.1, cells := mc, slots := ms, locals := M.2.2.2.2.2.2 }
def nw24 : Cond := .methodLinkNest RX1 24 yX3_init "BoltsByOrder"
def NU (U : State) : Prop := va_AO RX3 U ∧ va_AO RX4 U ∧ va_Nw nw24 U
theorem NU.warm {s U : State} (h : NU s) (hW : s.WarmedH U.vm) : NU U := ⟨va_AO.moved hW.alike h.1, va_AO.moved hW.alike h.2.1, va_Nw.warmM hW h.2.2⟩
theorem NU.blind {U : State} {g : JFrame} {mk : MethodId} {a : Array Value} (h : NU U) : NU (U.calling g mk a) := ⟨va_AO.moved (u := U) (Vm.Alike.refl U.vm) h.1, va_AO.moved (u := U) (Vm.Alike.refl U.vm) h.2.1, va_Nw.same rfl rfl h.2.2⟩
def PN (D : va_G) (sz : Nat) (ws0 : va_W) (as : List Value) : Array Value → State → Prop := va_Pc as (fun U => U.heap.size = sz ∧ va_P D vwCl ws0 U.heap ∧ va_K D vwCl [] U ∧ va_D (fun _ => True) ws0 ∧ NU U)
def QN (D : va_G) (sz : Nat) (ws0 : va_W) (P : va_W → nTy → Prop) : Array Value → State → Outcome → State → Prop := va_Qv (fun u : va_W × nTy => P u.1 u.2) (fun u t => va_P D vwCl u.1 t.heap ∧ va_K D vwCl u.2 t ∧ va_D (va_A ws0 sz) u.1) (va_A ws0 sz)
/-- the constructor M, called at q0 with the cells ws0, makes mc cells of ms slots, and comes to its end with P -/
def EvN (D : va_G) (M : MT) (mc ms q0 : Nat) (ws0 : va_W) (P : va_W → nTy → Prop) : Prop := ∀ (l : Launch) (sz : Nat), Met l M.2.1 (wsOf M) (nrm M mc ms) (PN D sz ws0 [.ref q0]) (QN D sz ws0 P) mc ms (va_A ws0 sz)
def NX (M : MT) (p : Program) (s : State) (m : MethodId) (args : Array Value) (meth : Method) (c : Code) : Prop :=
  p.tables.exec = Jvm.exec ∧ c.code = M.2.2.1 ∧ meth.sig.returnType = M.2.2.2.2.1 ∧ c.maxLocals = M.2.2.2.1 ∧ s.vm.findClass M.1 = some m.cls ∧ (∀ w ∈ wsOf M, w.before args s = true) ∧ meth.locks = false ∧ meth.name = "<init>" ∧ NU s
def NP (D : va_G) (M : MT) (mc ms : Nat) (ws0 : va_W) (P : va_W → nTy → Prop) (pc : Nat) (L : List (Option Value)) (st : List Value) (ws : va_W) (tys : nTy) (nc ns : Nat) : Prop :=
  ∀ (l : Launch) (p : Program) (e : Env) (s : State) (m : MethodId) (args : Array Value) (below : List Frame) (meth : Method) (c : Code) (H : Heap) (locs : List Loc) (ls : Array Slot),
    NX M p s m args meth c → va_K D vwCl tys s → va_P D vwCl ws H → va_D (va_A ws0 s.heap.size) ws → va_S (va_A ws0 s.heap.size) s.heap H locs → LR (gD D) ls M.2.2.2.1 L → W p l e (nrm M mc ms) s m args below meth c H locs nc ns (MQ below (QN D s.heap.size ws0 P) args s mc ms (va_A ws0 s.heap.size)) (F0 m pc ls st)
section NRULES
variable {D : va_G} {M : MT} {mc ms : Nat} {ws0 : va_W} {P : va_W → nTy → Prop} {pc : Nat} {L : List (Option Value)} {st : List Value} {ws : va_W} {tys : nTy} {nc ns : Nat}
theorem n_gt {p : Program} {s : State} {m : MethodId} {args : Array Value} {meth : Method} {c : Code} (C : NX M p s m args meth c) : ∀ w ∈ gt, w.before args s = true := fun w h => C.2.2.2.2.2.1 w (List.mem_cons_of_mem _ h)
theorem n_iconst {n : Int} {v : Int32} (d : decode M.2.2.1 pc = .ok (.iconst n, 1)) (hv : Int32.ofInt n = v) (k : NP D M mc ms ws0 P (pc + 1) L (.int v :: st) ws tys nc ns) : NP D M mc ms ws0 P pc L st ws tys nc ns :=
  fun l p e s m args below meth c H locs ls C hK hP hD hS hl => lv_iconst C.1 C.2.1 d hv (k l p e s m args below meth c H locs ls C hK hP hD hS hl)
theorem n_bipush {n : Int} {v : Int32} (d : decode M.2.2.1 pc = .ok (.bipush n, 2)) (hv : (Int8.ofInt n).toInt32 = v) (k : NP D M mc ms ws0 P (pc + 2) L (.int v :: st) ws tys nc ns) : NP D M mc ms ws0 P pc L st ws tys nc ns :=
  fun l p e s m args below meth c H locs ls C hK hP hD hS hl => lv_bipush C.1 C.2.1 d hv (k l p e s m args below meth c H locs ls C hK hP hD hS hl)
theorem n_sipush {n : Int} {v : Int32} (d : decode M.2.2.1 pc = .ok (.sipush n, 3)) (hv : (Int16.ofInt n).toInt32 = v) (k : NP D M mc ms ws0 P (pc + 3) L (.int v :: st) ws tys nc ns) : NP D M mc ms ws0 P pc L st ws tys nc ns :=
  fun l p e s m args below meth c H locs ls C hK hP hD hS hl => lv_sipush C.1 C.2.1 d hv (k l p e s m args below meth c H locs ls C hK hP hD hS hl)
theorem n_aload {n : Fin 4} {x : Nat} (d : decode M.2.2.1 pc = .ok (.aload_n n, 1)) (h : L[(n : Nat)]? = some (some (.ref x))) (k : NP D M mc ms ws0 P (pc + 1) L (.ref x :: st) ws tys nc ns) : NP D M mc ms ws0 P pc L st ws tys nc ns :=
  fun l p e s m args below meth c H locs ls C hK hP hD hS hl => lv_aload_n C.1 C.2.1 d rfl (hl.at h) (k l p e s m args below meth c H locs ls C hK hP hD hS hl)
theorem n_iload {n : Fin 4} {x : Int32} (d : decode M.2.2.1 pc = .ok (.iload_n n, 1)) (h : L[(n : Nat)]? = some (some (.int x))) (k : NP D M mc ms ws0 P (pc + 1) L (.int x :: st) ws tys nc ns) : NP D M mc ms ws0 P pc L st ws tys nc ns :=
  fun l p e s m args below meth c H locs ls C hK hP hD hS hl => lv_iload_n C.1 C.2.1 d rfl (hl.at h) (k l p e s m args below meth c H locs ls C hK hP hD hS hl)
theorem n_istore {n : Fin 4} {x : Int32} {L' : List (Option Value)} (d : decode M.2.2.1 pc = .ok (.istore_n n, 1)) (hn : (n : Nat) < M.2.2.2.1) (ho : okS L n = true) (hL : L.set n (some (.int x)) = L') (k : NP D M mc ms ws0 P (pc + 1) L' st ws tys nc ns) : NP D M mc ms ws0 P pc L (.int x :: st) ws tys nc ns :=
  fun l p e s m args below meth c H locs ls C hK hP hD hS hl => lv_istore_n C.1 C.2.1 d rfl hl.has hn rfl (fun ls' h' => k l p e s m args below meth c H locs ls' C hK hP hD hS (hL ▸ LR.set1 (v := .int x) ho h'))
theorem n_iinc {i : Nat} {n : Int} {x v : Int32} {L' : List (Option Value)} (d : decode M.2.2.1 pc = .ok (.iinc i n, 3)) (h : L[i]? = some (some (.int x))) (hv : x + Int32.ofInt n = v) (hn : i < M.2.2.2.1) (ho : okS L i = true) (hL : L.set i (some (.int v)) = L') (k : NP D M mc ms ws0 P (pc + 3) L' st ws tys nc ns) : NP D M mc ms ws0 P pc L st ws tys nc ns := by
  intro l p e s m args below meth c H locs ls C hK hP hD hS hl
  obtain ⟨j, hj⟩ := List.getElem?_of_mem (mem_asc (G := gD D) h)
  exact lv_iinc (v := v) C.1 C.2.1 d hl.has hj hv hn rfl (fun ls' h' => k l p e s m args below meth c H locs ls' C hK hP hD hS (hL ▸ LR.set1 (v := .int v) ho h'))
theorem n_dup {a : Value} (d : decode M.2.2.1 pc = .ok (.dup, 1)) (ha : a.category = 1) (k : NP D M mc ms ws0 P (pc + 1) L (a :: a :: st) ws tys nc ns) : NP D M mc ms ws0 P pc L (a :: st) ws tys nc ns :=
  fun l p e s m args below meth c H locs ls C hK hP hD hS hl => lv_dup C.1 C.2.1 d ha (k l p e s m args below meth c H locs ls C hK hP hD hS hl)
theorem n_goto {off : Int} {t : Nat} (d : decode M.2.2.1 pc = .ok (.goto off, 3)) (ht : (pc : Int) + off = (t : Int)) (k : NP D M mc ms ws0 P t L st ws tys nc ns) : NP D M mc ms ws0 P pc L st ws tys nc ns :=
  fun l p e s m args below meth c H locs ls C hK hP hD hS hl => lv_goto C.1 C.2.1 d ht (k l p e s m args below meth c H locs ls C hK hP hD hS hl)
theorem n_icmpT {x y : Int32} {off : Int} {t : Nat} (d : decode M.2.2.1 pc = .ok (.if_icmp .ge off, 3)) (ht : (pc : Int) + off = (t : Int)) (h : y ≤ x) (k : NP D M mc ms ws0 P t L st ws tys nc ns) : NP D M mc ms ws0 P pc L (.int y :: .int x :: st) ws tys nc ns :=
  fun l p e s m args below meth c H locs ls C hK hP hD hS hl => lv_icmp_ge C.1 C.2.1 d ht (fun _ => k l p e s m args below meth c H locs ls C hK hP hD hS hl) (fun z => absurd h z)
theorem n_icmpF {x y : Int32} {off : Int} {t : Nat} (d : decode M.2.2.1 pc = .ok (.if_icmp .ge off, 3)) (ht : (pc : Int) + off = (t : Int)) (h : ¬ y ≤ x) (k : NP D M mc ms ws0 P (pc + 3) L st ws tys nc ns) : NP D M mc ms ws0 P pc L (.int y :: .int x :: st) ws tys nc ns :=
  fun l p e s m args below meth c H locs ls C hK hP hD hS hl => lv_icmp_ge C.1 C.2.1 d ht (fun z => absurd z h) (fun _ => k l p e s m args below meth c H locs ls C hK hP hD hS hl)
theorem n_vret (d : decode M.2.2.1 pc = .ok (.return_, 1)) (hr : M.2.2.2.2.1 = none) (h1 : nc = mc) (h2 : ns = ms) (k : P ws tys) : NP D M mc ms ws0 P pc L [] ws tys nc ns := by
  subst h1
  subst h2
  intro l p e s m args below meth c H locs ls C hK hP hD hS hl
  exact W.vret C.1 C.2.1 (C.2.2.1.trans hr) (fun t ht hW => ⟨⟨(ws, tys), rfl, k, by rw [ht]; exact hP, va_K.moved hW.alike hK, hD⟩, hS.F ht⟩) hS.2.2 d C.2.2.2.2.2.2.1
theorem n_objInit {idx a : Nat} (d : decode M.2.2.1 pc = .ok (.invokespecial idx, 3)) (ml : Cond.methodLink M.1 idx Lib.objectInit ∈ gt) (mi : Cond.instanceMethod Lib.objectInit ∈ gt) (mk : Cond.code Lib.objectInit ⟨#[0xb1]⟩ 1 none ∈ gt) (hR : (decide (1 ≤ M.2.2.2.2.2.1) && decide ((st.map fun v => v.category).sum + 12 ≤ M.2.2.2.2.2.2)) = true) (k : NP D M mc ms ws0 P (pc + 3) L st ws tys nc ns) : NP D M mc ms ws0 P pc L (.ref a :: st) ws tys nc ns := by
  intro l p e s m args below meth c H locs ls C hK hP hD hS hl
  simp only [Bool.and_eq_true, decide_eq_true_eq] at hR
  refine W.objInit C.1 C.2.1 C.2.2.2.2.1 (n_gt C _ ml) (n_gt C _ mi) (n_gt C _ mk) rfl ?_ rfl d hR.1 ?_ ?_
  · show ls.size = c.maxLocals
    rw [hl.1, C.2.2.2.1]
  · show 2 * 0 + _ + 12 ≤ M.2.2.2.2.2.2
    omega
  · exact k l p e s m args below meth c H locs ls C hK hP hD hS hl
theorem n_new {ci idx : Nat} {ty : Nat → FieldType} {fs : List Value} (d : decode M.2.2.1 pc = .ok (.new idx, 3)) (cl : Cond.classLink M.1 idx (clC ci).1 ∈ gt) (h8 : ci < 8) (hin : Cond.instantiable (clC ci).1 (clC ci).2.2 ∈ gt) (hini : Cond.initialized (clC ci).1 ∈ gt) (hty : ∀ k, k < (clC ci).2.2 → parseFieldDescriptor ((clC ci).2.1 k).2.2.1 = some (ty k)) (hfs : ∀ j, j < (clC ci).2.2 → defaultValue (ty j) = vp_V fs j) (hc : nc + 1 ≤ mc ∧ ns + (clC ci).2.2 ≤ ms)
    (k : ∀ q, NP D M mc ms ws0 P (pc + 3) L (.ref q :: st) (ws ++ [(q, .inr (ci, fs))]) tys (nc + 1) (ns + (clC ci).2.2)) : NP D M mc ms ws0 P pc L st ws tys nc ns := by
  intro l p e s m args below meth c H locs ls C hK hP hD hS hl
  obtain ⟨q1, q2, q3, -, -⟩ := cl_all h8
  exact va_new (ci := ci) (fs := fs) C.1 C.2.1 (n_gt C) q3 ty hty C.2.2.2.2.1 (n_gt C _ cl) (n_gt C _ hin) (n_gt C _ hini) hK hP hD hS (fun q h => Or.inr h) q1 hfs hc.1 hc.2 d (fun q H1 hP1 hD1 hS1 => k q l p e s m args below meth c H1 locs ls C hK hP1 hD1 hS1 hl)
theorem n_put {idx ci k a q0 : Nat} {fs : List Value} {v : Value} {ty : FieldType} (d : decode M.2.2.1 pc = .ok (.putfield idx, 3)) (f : FL M.1 idx ci k) (h8 : ci < 8) (hk : k < (clC ci).2.2) (hfin : ((clC ci).2.1 k).2.2.2 = false) (hty : parseFieldDescriptor ((clC ci).2.1 k).2.2.1 = some ty) (hn : narrow ty v = v) (hfit : fits ty v = true) (he : ws[q0]? = some (a, .inr (ci, fs))) (hlen : k < fs.length)
    (n : NP D M mc ms ws0 P (pc + 3) L st (ws.set q0 (a, .inr (ci, fs.set k v))) tys nc ns) : NP D M mc ms ws0 P pc L (v :: .ref a :: st) ws tys nc ns := by
  intro l p e s m args below meth c H locs ls C hK hP hD hS hl
  obtain ⟨q1, q2, q3, ⟨ty0, q4⟩, q5⟩ := cl_all h8
  exact va_put (ci := ci) (fs := fs) (v := v) C.1 C.2.1 (n_gt C) q3 ty0 q4 q5 C.2.2.2.2.1 hK hP hD hS q0 he q1 k hk (n_gt C _ f) (fun _ h => h) hfin hty hn hfit hlen d (fun H1 locs1 hP1 hD1 hS1 => n l p e s m args below meth c H1 locs1 ls C hK hP1 hD1 hS1 hl)
theorem n_putF {idx ci k a q0 : Nat} {fs : List Value} {v : Value} {ty : FieldType} (d : decode M.2.2.1 pc = .ok (.putfield idx, 3)) (f : FL M.1 idx ci k) (h8 : ci < 8) (hk : k < (clC ci).2.2) (hfin : ((clC ci).2.1 k).2.2.2 = true) (hdecl : ((clC ci).2.1 k).1 = M.1) (hty : parseFieldDescriptor ((clC ci).2.1 k).2.2.1 = some ty) (hn : narrow ty v = v) (hfit : fits ty v = true) (he : ws[q0]? = some (a, .inr (ci, fs))) (hlen : k < fs.length)
    (n : NP D M mc ms ws0 P (pc + 3) L st (ws.set q0 (a, .inr (ci, fs.set k v))) tys nc ns) : NP D M mc ms ws0 P pc L (v :: .ref a :: st) ws tys nc ns := by
  intro l p e s m args below meth c H locs ls C hK hP hD hS hl
  obtain ⟨q1, q2, q3, ⟨ty0, q4⟩, q5⟩ := cl_all h8
  exact va_putF (ci := ci) (fs := fs) (v := v) C.1 C.2.1 (n_gt C) q3 ty0 q4 q5 C.2.2.2.2.1 hK hP hD hS q0 he q1 k hk (n_gt C _ f) (fun _ h => h) hfin C.2.2.2.2.2.2.2.1 hdecl hty hn hfit hlen d (fun H1 locs1 hP1 hD1 hS1 => n l p e s m args below meth c H1 locs1 ls C hK hP1 hD1 hS1 hl)
theorem n_get {idx ci k a q0 : Nat} {fs : List Value} {v : Value} (d : decode M.2.2.1 pc = .ok (.getfield idx, 3)) (f : FL M.1 idx ci k) (h8 : ci < 8) (hk : k < (clC ci).2.2) (he : ws[q0]? = some (a, .inr (ci, fs))) (hv : fs[k]? = some v)
    (n : NP D M mc ms ws0 P (pc + 3) L (v :: st) ws tys nc ns) : NP D M mc ms ws0 P pc L (.ref a :: st) ws tys nc ns := by
  intro l p e s m args below meth c H locs ls C hK hP hD hS hl
  obtain ⟨q1, q2, q3, -, -⟩ := cl_all h8
  exact va_get (ci := ci) (fs := fs) (v := v) C.1 C.2.1 (n_gt C) q3 C.2.2.2.2.1 hK hP q0 he q1 k hk (n_gt C _ f) (fun _ h => h) hv d (n l p e s m args below meth c H locs ls C hK hP hD hS hl)
/-- two classes of arrays of one kind are one -/
theorem n_uniq {s : State} (hK : va_K D vwCl tys s) {i j : Nat} {a b : ClassId} {ty : FieldType} (hi : tys[i]? = some (a, ty)) (hj : tys[j]? = some (b, ty)) : a = b := by
  have h1 := (hK.2 i _ hi).2
  have h2 := (hK.2 j _ hj).2
  cases ty with
  | object C0 =>
    obtain ⟨-, -, -, -, -, h1⟩ := h1
    obtain ⟨-, -, -, -, -, h2⟩ := h2
    exact Option.some.inj (h1.symm.trans h2)
  | _ => exact Option.some.inj (Eq.trans (Eq.symm h1) h2)
theorem n_same {i j : Nat} {a b : ClassId} {ty : FieldType} (hi : tys[i]? = some (a, ty)) (hj : tys[j]? = some (b, ty)) (k : a = b → NP D M mc ms ws0 P pc L st ws tys nc ns) : NP D M mc ms ws0 P pc L st ws tys nc ns :=
  fun l p e s m args below meth c H locs ls C hK hP hD hS hl => k (n_uniq hK hi hj) l p e s m args below meth c H locs ls C hK hP hD hS hl
theorem n_tys {tys' : nTy} (is : List Nat) (hs : is.filterMap (fun i => tys[i]?) = tys') (k : NP D M mc ms ws0 P pc L st ws tys' nc ns) : NP D M mc ms ws0 P pc L st ws tys nc ns :=
  fun l p e s m args below meth c H locs ls C hK hP hD hS hl => k l p e s m args below meth c H locs ls C (hK.sub is hs) hP hD hS hl
theorem n_newa {atype : ArrayType} {ty : FieldType} {n : Int32} {N' : Nat} {a0 : vp_A} (d : decode M.2.2.1 pc = .ok (.newarray atype, 2)) (harr : Cond.arrayClass (newarray.typeOf atype) ∈ gt) (hty : newarray.typeOf atype = ty) (ha : ∀ cA : ClassId, vp_cell cA a0 = arrV cA N' (fun _ => defaultValue ty)) (hn : ¬ n < 0) (hN : n.toNatClampNeg = N') (hbytes : N' * componentBytes ty ≤ 536870912) (hc : nc + 1 ≤ mc ∧ ns + N' ≤ ms)
    (k : ∀ (q : Nat) (cA : ClassId), NP D M mc ms ws0 P (pc + 2) L (.ref q :: st) (ws ++ [(q, .inl (cA, a0))]) (tys ++ [(cA, ty)]) (nc + 1) (ns + N')) : NP D M mc ms ws0 P pc L (.int n :: st) ws tys nc ns := by
  intro l p e s m args below meth c H locs ls C hK hP hD hS hl
  exact va_newa C.1 C.2.1 (n_gt C _ harr) hty hK hP hD hS (fun q h => Or.inr h) ha hn hN hbytes hc.1 hc.2 d (fun q cA H1 hK1 hP1 hD1 hS1 => k q cA l p e s m args below meth c H1 locs ls C hK1 hP1 hD1 hS1 hl)
theorem n_newq {C0 : String} {idx : Nat} {n : Int32} {N' : Nat} (d : decode M.2.2.1 pc = .ok (.anewarray idx, 3)) (cl : Cond.classLink M.1 idx C0 ∈ gt) (h34 : C0 = RX3 ∨ C0 = RX4) (hn : ¬ n < 0) (hN : n.toNatClampNeg = N') (hbytes : N' * 4 ≤ 536870912) (hc : nc + 1 ≤ mc ∧ ns + N' ≤ ms)
    (k : ∀ (q : Nat) (cA : ClassId), NP D M mc ms ws0 P (pc + 3) L (.ref q :: st) (ws ++ [(q, .inl (cA, N', .inr (.inr (.inr (.inr (fun _ => none))))))]) (tys ++ [(cA, .object C0)]) (nc + 1) (ns + N')) : NP D M mc ms ws0 P pc L (.int n :: st) ws tys nc ns := by
  intro l p e s m args below meth c H locs ls C hK hP hD hS hl
  have hao : va_AO C0 s := by
    rcases h34 with rfl | rfl
    · exact C.2.2.2.2.2.2.2.2.1
    · exact C.2.2.2.2.2.2.2.2.2.1
  exact va_newq C.1 C.2.1 C.2.2.2.2.1 (n_gt C _ cl) hao hK hP hD hS (fun q h => Or.inr h) hn hN hbytes hc.1 hc.2 d (fun q cA H1 hK1 hP1 hD1 hS1 => k q cA l p e s m args below meth c H1 locs ls C hK1 hP1 hD1 hS1 hl)
theorem n_astq {q0 t0 qk ci a n v : Nat} {cA : ClassId} {vs : List Value} {f : Nat → Option Nat} {i : Int32} (d : decode M.2.2.1 pc = .ok (.aastore, 1)) (h8 : ci < 8) (ha : ws[q0]? = some (a, .inl (cA, n, .inr (.inr (.inr (.inr f)))))) (ht : tys[t0]? = some (cA, .object (clC ci).1)) (hv : ws[qk]? = some (v, .inr (ci, vs))) (hin : vp_in i n)
    (k : NP D M mc ms ws0 P (pc + 1) L st (ws.set q0 (a, .inl (cA, n, .inr (.inr (.inr (.inr (va_up f i.toNatClampNeg (some v)))))))) tys nc ns) : NP D M mc ms ws0 P pc L (.ref v :: .int i :: .ref a :: st) ws tys nc ns := by
  intro l p e s m args below meth c H locs ls C hK hP hD hS hl
  exact va_astq (r := clC ci) C.1 C.2.1 hK hP hD hS q0 t0 qk ci ha ht hv (cl_all h8).1 hin d (fun H1 locs1 hP1 hD1 hS1 => k l p e s m args below meth c H1 locs1 ls C hK hP1 hD1 hS1 hl)
theorem n_call {M' : MT} {mc' ms' idx q j : Nat} {en : va_E} {wr : va_W} {P' : va_W → nTy → Prop} (isR : List Nat) (d : decode M.2.2.1 pc = .ok (.invokespecial idx, 3)) (ml : Cond.methodLink M.1 idx M'.2.1 ∈ gt) (mi : Cond.instanceMethod M'.2.1 ∈ gt ∧ Cond.initialized M'.2.1.cls ∈ gt ∧ cdW M' ∈ gt) (hnm : M'.2.1.cls ≠ "java/lang/invoke/MethodHandle" ∧ M'.2.1.cls ≠ "java/lang/invoke/VarHandle" ∧ (parseMethodDescriptor M'.2.1.desc).map (fun d => d.parameters.length) = some 0) (hret : M'.2.2.2.2.1 = none) (hini : M'.2.1.name = "<init>") (hR : fitR M M' = true) (ev : EvN D M' mc' ms' q [(q, en)] P') (hj : ws[j]? = some (q, en)) (hR2 : isR.map (fun i => ws[i]?) = wr.map some) (hnd : va_nd isR = true) (hdis : ∀ i ∈ isR, i ∉ [j]) (hw : (st.map fun v => v.category).sum ≤ 8) (hc : nc + mc' ≤ mc ∧ ns + ms' ≤ ms)
    (k : ∀ w1 t1, P' w1 t1 → NP D M mc ms ws0 P (pc + 3) L st (wr ++ w1) (tys ++ t1) (nc + mc') (ns + ms')) : NP D M mc ms ws0 P pc L (.ref q :: st) ws tys nc ns := by
  intro l p e s m args below meth c H locs ls C hK hP hD hS hl
  have hA : ∀ q, s.heap.size ≤ q → va_A ws0 s.heap.size q := fun q h => Or.inr h
  have hC1 : [j].map (fun i => ws[i]?) = [(q, en)].map some := by simp [hj]
  have hPc : va_P D vwCl [(q, en)] H := fun k x hx => by
    have hk : k = 0 := by
      rcases k with _ | k
      · rfl
      · simp at hx
    subst hk
    cases hx
    exact hP j _ hj
  have hDc : va_D (fun _ => True) [(q, en)] := ⟨fun i1 i2 x y hx hy _ => by
    have h1 : i1 < 1 := (List.getElem?_eq_some_iff.mp hx).1
    have h2 : i2 < 1 := (List.getElem?_eq_some_iff.mp hy).1
    omega, fun _ _ _ => trivial⟩
  have hKc : va_K D vwCl [] s := hK.sub [] rfl
  have hFc := va_free (wc := [(q, en)]) hD hS hA [j] hC1
  have hcw : CallB (nrm M mc ms) s args M.1 idx M'.2.1 M'.2.2.1 M'.2.2.2.1 none (wsOf M') (nrm M' mc' ms') mc' ms' 0 := by
    have hfit := fitR_of hR
    have hw : wsOf M' = Cond.code M'.2.1 M'.2.2.1 M'.2.2.2.1 none :: gt := by
      unfold wsOf
      rw [hret]
    exact callB_of (ws' := gt) 0 C.2.2.2.2.2.1 (gi_ws mi.2.2) hw rfl rfl (n_gt C _ mi.2.1) (n_gt C _ ml) hnm hfit
  refine va_callv (va_runI (As := []) (rest := st) ⟨C.1, C.2.1, C.2.2.2.1, C.2.2.2.2.1, C.2.2.2.2.2.1⟩ (ev l H.size) ⟨hcw, hini, n_gt C _ mi.1⟩ ⟨fun a U g mk z => ?_, fun U hU hW => ⟨rfl, by rw [hU], by rw [hU]; exact hPc, va_K.moved hW.alike hKc, hDc, C.2.2.2.2.2.2.2.2.warm hW⟩⟩ rfl rfl hl.1 rfl (lv_room hw) d hc) hS (fun q _ h => hFc q h) hFc (fun u t H1 locs1 ht hvm hp hB hz1 hk1 hS1 => ?_)
  · obtain ⟨z0, z1, z2, z3, z4, z5⟩ := z
    have hv : U.vm.Alike (U.calling g mk a).vm := Vm.Alike.refl U.vm
    exact ⟨z0, z1, z2, va_K.moved hv z3, z4, z5.blind⟩
  · obtain ⟨hP1, hK1, hD1⟩ := hB
    rw [ht] at hP1
    obtain ⟨hP2, hD2⟩ := va_join (wr := wr) (w1 := u.1) hP hD [j] isR hC1 hR2 hnd hdis hk1 hFc hP1 hD1
    exact k u.1 u.2 hp l p e s m args below meth c H1 locs1 ls C (hK.app (va_K.moved hvm.symm hK1)) hP2 hD2 hS1 hl
theorem n_callN {M' : MT} {mc' ms' idx q j : Nat} {en : va_E} {wr : va_W} {P' : va_W → nTy → Prop} (isR : List Nat) (d : decode M.2.2.1 pc = .ok (.invokespecial idx, 3)) (ml : Cond.methodLinkNest M.1 idx M'.2.1 "BoltsByOrder" = nw24) (mi : Cond.instanceMethod M'.2.1 ∈ gt ∧ Cond.initialized M'.2.1.cls ∈ gt ∧ cdW M' ∈ gt) (hnm : M'.2.1.cls ≠ "java/lang/invoke/MethodHandle" ∧ M'.2.1.cls ≠ "java/lang/invoke/VarHandle" ∧ (parseMethodDescriptor M'.2.1.desc).map (fun d => d.parameters.length) = some 0) (hret : M'.2.2.2.2.1 = none) (hini : M'.2.1.name = "<init>") (hR : fitR M M' = true) (ev : EvN D M' mc' ms' q [(q, en)] P') (hj : ws[j]? = some (q, en)) (hR2 : isR.map (fun i => ws[i]?) = wr.map some) (hnd : va_nd isR = true) (hdis : ∀ i ∈ isR, i ∉ [j]) (hw : (st.map fun v => v.category).sum ≤ 8) (hc : nc + mc' ≤ mc ∧ ns + ms' ≤ ms)
    (k : ∀ w1 t1, P' w1 t1 → NP D M mc ms ws0 P (pc + 3) L st (wr ++ w1) (tys ++ t1) (nc + mc') (ns + ms')) : NP D M mc ms ws0 P pc L (.ref q :: st) ws tys nc ns := by
  intro l p e s m args below meth c H locs ls C hK hP hD hS hl
  have hA : ∀ q, s.heap.size ≤ q → va_A ws0 s.heap.size q := fun q h => Or.inr h
  have hC1 : [j].map (fun i => ws[i]?) = [(q, en)].map some := by simp [hj]
  have hPc : va_P D vwCl [(q, en)] H := fun k x hx => by
    have hk : k = 0 := by
      rcases k with _ | k
      · rfl
      · simp at hx
    subst hk
    cases hx
    exact hP j _ hj
  have hDc : va_D (fun _ => True) [(q, en)] := ⟨fun i1 i2 x y hx hy _ => by
    have h1 : i1 < 1 := (List.getElem?_eq_some_iff.mp hx).1
    have h2 : i2 < 1 := (List.getElem?_eq_some_iff.mp hy).1
    omega, fun _ _ _ => trivial⟩
  have hKc : va_K D vwCl [] s := hK.sub [] rfl
  have hFc := va_free (wc := [(q, en)]) hD hS hA [j] hC1
  have hcw : va_CN (nrm M mc ms) s args M.1 idx M'.2.1 "BoltsByOrder" M'.2.2.1 M'.2.2.2.1 none (wsOf M') (nrm M' mc' ms') mc' ms' 0 := by
    have hfit := fitR_of hR
    have hw : wsOf M' = Cond.code M'.2.1 M'.2.2.1 M'.2.2.2.1 none :: gt := by
      unfold wsOf
      rw [hret]
    exact va_cnB (ws' := gt) 0 C.2.2.2.2.2.1 (gi_ws mi.2.2) hw rfl rfl (by rw [ml]; exact C.2.2.2.2.2.2.2.2.2.2) (n_gt C _ mi.2.1) hnm hfit
  refine va_callv (va_runIN (As := []) (rest := st) ⟨C.1, C.2.1, C.2.2.2.1, C.2.2.2.2.1, C.2.2.2.2.2.1⟩ (ev l H.size) ⟨hcw, hini, n_gt C _ mi.1⟩ ⟨fun a U g mk z => ?_, fun U hU hW => ⟨rfl, by rw [hU], by rw [hU]; exact hPc, va_K.moved hW.alike hKc, hDc, C.2.2.2.2.2.2.2.2.warm hW⟩⟩ rfl rfl hl.1 rfl (lv_room hw) d hc) hS (fun q _ h => hFc q h) hFc (fun u t H1 locs1 ht hvm hp hB hz1 hk1 hS1 => ?_)
  · obtain ⟨z0, z1, z2, z3, z4, z5⟩ := z
    have hv : U.vm.Alike (U.calling g mk a).vm := Vm.Alike.refl U.vm
    exact ⟨z0, z1, z2, va_K.moved hv z3, z4, z5.blind⟩
  · obtain ⟨hP1, hK1, hD1⟩ := hB
    rw [ht] at hP1
    obtain ⟨hP2, hD2⟩ := va_join (wr := wr) (w1 := u.1) hP hD [j] isR hC1 hR2 hnd hdis hk1 hFc hP1 hD1
    exact k u.1 u.2 hp l p e s m args below meth c H1 locs1 ls C (hK.app (va_K.moved hvm.symm hK1)) hP2 hD2 hS1 hl
theorem EvN.of {q0 : Nat} (hy : plainName M.2.1.cls = true) (hl : 1 ≤ M.2.2.2.1) (hn : M.2.1.cls = M.1) (hin : M.2.1.name = "<init>") (hL : L = some (.ref q0) :: List.replicate (M.2.2.2.1 - 1) none) (k : NP D M mc ms ws0 P 0 L [] ws0 [] 0 0) : EvN D M mc ms q0 ws0 P := by
  intro l sz
  refine Met.ofW (cc := M.2.2.1) (maxL := M.2.2.2.1) (ret := M.2.2.2.2.1) hy rfl ?_
  intro p e s m args below meth c s₁ B hml hv
  obtain ⟨rfl, hsz, hP, hK, hD, h3⟩ := hv
  subst hsz
  rw [lg_entry_eq]
  have h := lv_entry [.ref q0] (n := M.2.2.2.1) hl
  have hts := atoms_spec (ws := wsOf M) B.pre
  have hown : s.vm.findClass M.1 = some m.cls := by
    have := findClass_of_methodNamed B.named
    rw [hn] at this
    exact this
  have hnm : meth.name = "<init>" := (name_of_methodNamed B.named B.method).1.trans hin
  refine k l p e s m _ below meth c s.heap [] _ ⟨B.exec, B.bytes, B.returns, hml, hown, hts, B.notSynchronized, hnm, h3⟩ hK hP (hD.self (sz := s.heap.size)) va_S.rf ⟨h.1, h.2.1, fun i v hi => ?_⟩
  rw [hL] at hi
  rcases i with _ | i
  · have e1 : v = .ref q0 := by
      have := Option.some.inj hi
      exact (Option.some.inj this).symm
    subst e1
    exact h.2.2 (0, .ref q0) List.mem_cons_self
  · rw [List.getElem?_cons_succ, List.getElem?_replicate] at hi
    split at hi
    · cases hi
    · cases hi
end NRULES
