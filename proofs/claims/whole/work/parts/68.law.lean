def R_law : String := "BoltsByOrderLaw"
def lw_P (b : Addr) (xs : List Int32) (args : Array Value) (s : State) : Prop := args = #[.ref b] ∧ s.IntsAt b xs ∧ xs.length ≤ 3072 ∧ (Jvm.Cond.and given_1 narrow_1).before args s = true
def lw_Q (_ : Array Value) (s : State) (o : Outcome) (t : State) : Prop := o = .returned (some (.int 1)) ∧ Framed s o t [] 600000 7302250
def lw_Z (below : List Frame) (a : Array Value) (s : State) : State → Prop := fun t => ∃ o, t.status = .running ∧ Ended t below o ∧ lw_Q a s o t
/-- the law's own end, with 1 on the stack, nothing written that was there before, its room as the claim has it -/
theorem lw_ret {p : Program} {l : Launch} {e : Env} {s : State} {m : MethodId} {below : List Frame} {meth : Method} {c : Code} {b : Nat} (hx : p.tables.exec = Jvm.exec) (hb : c.code = code) (hr : meth.sig.returnType = ret) (hlocks : meth.locks = false) {pc : Nat} {H : Heap} {ls : Array Slot} (hdg : decode code pc = .ok (.ireturn, 1)) : W p l e room_1 s m #[Value.ref b] below meth c H [] 600000 7302250 (lw_Z below #[Value.ref b] s) (F0 m pc ls [.int 1]) := by
  intro T hT X
  obtain ⟨fs, hret, hrun, hended, hW, hframe⟩ := X.leave (v := some (.int 1)) (hlocks := hlocks) (fun h => by rw [hr] at h; cases h)
  have hmeth' : T.vm.method? m = some meth := X.method'
  refine ⟨T.setFrames fs, ?_, .returned (some (.int 1)), hrun, hended, rfl, ⟨_, rfl⟩, hW, hframe⟩
  jvm_step X.here [X.here.top, hx, hb, hdg, hmeth', hr, ret, narrow_b1]
  (try refine ⟨rfl, ?_⟩); (try refine ⟨rfl, ?_⟩)
  first | (intro acts; rw [hret _ acts rfl rfl rfl]) | rw [hret _ _ rfl rfl rfl]
  exact Steps.refl _
/-- what holds at the law's entry: the machine, the code, the tables' words (any of lw_tbl by 'hts w (by decide +kernel)'), the script of L ints xs at the cell b, what the Statement gives of the start (any of its parts by flat_of_before) -/
def lw_At (p : Program) (s : State) (m : MethodId) (meth : Method) (c : Code) (b L : Nat) (xs : Nat → Int32) : Prop :=
  p.tables.exec = Jvm.exec ∧ c.code = code ∧ meth.sig.returnType = ret ∧ c.maxLocals = 4 ∧ s.vm.findClass R_law = some m.cls ∧ (∀ w ∈ lw_tbl, w.before #[Value.ref b] s = true) ∧ va_X b L xs s s.heap ∧ b < s.heap.size ∧ meth.locks = false ∧ (Jvm.Cond.and given_1 narrow_1).before #[Value.ref b] s = true
/-! the law's body -/
def LX (G : GT) (b Ln : Nat) (xs : Nat → Int32) (p : Program) (s : State) (m : MethodId) (meth : Method) (c : Code) : Prop := lw_At p s m meth c b Ln xs ∧ KK G s ∧ (∀ q, AG G q → s.heap.size ≤ q) ∧ G.2.1 96 = b
/-- the machine, standing in the law at pc, with the world σ, comes to the law's end with true -/
def LWp (G : GT) (b Ln : Nat) (xs : Nat → Int32) (pc : Nat) (L : List (Option Value)) (st : List Value) (σ : Sg) : Prop :=
  ∀ (l : Launch) (p : Program) (e : Env) (s : State) (m : MethodId) (below : List Frame) (meth : Method) (c : Code) (H : Heap) (locs : List Loc) (ls : Array Slot),
    LX G b Ln xs p s m meth c → Wd G σ H → va_S (fun q : Nat => s.heap.size ≤ q) s.heap H locs → LR G ls 4 L → W p l e room_1 s m #[Value.ref b] below meth c H locs 62 1277 (lw_Z below #[Value.ref b] s) (F0 m pc ls (st.map (cv G)))
abbrev mLw : MT := (R_law, x, code, 4, ret, 13, 482)
section LAW
variable {G : GT} {b Ln : Nat} {xs : Nat → Int32} {pc : Nat} {L : List (Option Value)} {st : List Value} {σ : Sg}
theorem l_iconst {n : Int} {v : Int32} (d : decode code pc = .ok (.iconst n, 1)) (hv : Int32.ofInt n = v) (k : LWp G b Ln xs (pc + 1) L (.int v :: st) σ) : LWp G b Ln xs pc L st σ :=
  fun l p e s m below meth c H locs ls C hW hS hl => lv_iconst C.1.1 C.1.2.1 d hv (k l p e s m below meth c H locs ls C hW hS hl)
theorem l_bipush {n : Int} {v : Int32} (d : decode code pc = .ok (.bipush n, 2)) (hv : (Int8.ofInt n).toInt32 = v) (k : LWp G b Ln xs (pc + 2) L (.int v :: st) σ) : LWp G b Ln xs pc L st σ :=
  fun l p e s m below meth c H locs ls C hW hS hl => lv_bipush C.1.1 C.1.2.1 d hv (k l p e s m below meth c H locs ls C hW hS hl)
theorem l_iload {n : Fin 4} {v : Int32} (d : decode code pc = .ok (.iload_n n, 1)) (h : L[(n : Nat)]? = some (some (.int v))) (k : LWp G b Ln xs (pc + 1) L (.int v :: st) σ) : LWp G b Ln xs pc L st σ :=
  fun l p e s m below meth c H locs ls C hW hS hl => lv_iload_n C.1.1 C.1.2.1 d rfl (hl.at h) (k l p e s m below meth c H locs ls C hW hS hl)
theorem l_aload {n : Fin 4} {r : Nat} (d : decode code pc = .ok (.aload_n n, 1)) (h : L[(n : Nat)]? = some (some (.ref r))) (k : LWp G b Ln xs (pc + 1) L (.ref r :: st) σ) : LWp G b Ln xs pc L st σ :=
  fun l p e s m below meth c H locs ls C hW hS hl => lv_aload_n C.1.1 C.1.2.1 d rfl (hl.at h) (k l p e s m below meth c H locs ls C hW hS hl)
theorem l_iadd {v w : Int32} (d : decode code pc = .ok (.iadd, 1)) (k : LWp G b Ln xs (pc + 1) L (.int (v + w) :: st) σ) : LWp G b Ln xs pc L (.int w :: .int v :: st) σ :=
  fun l p e s m below meth c H locs ls C hW hS hl => lv_iadd C.1.1 C.1.2.1 d (k l p e s m below meth c H locs ls C hW hS hl)
theorem l_isub {v w : Int32} (d : decode code pc = .ok (.isub, 1)) (k : LWp G b Ln xs (pc + 1) L (.int (v - w) :: st) σ) : LWp G b Ln xs pc L (.int w :: .int v :: st) σ :=
  fun l p e s m below meth c H locs ls C hW hS hl => lv_isub C.1.1 C.1.2.1 d (k l p e s m below meth c H locs ls C hW hS hl)
theorem l_iand {v w : Int32} (d : decode code pc = .ok (.iand, 1)) (k : LWp G b Ln xs (pc + 1) L (.int (v &&& w) :: st) σ) : LWp G b Ln xs pc L (.int w :: .int v :: st) σ :=
  fun l p e s m below meth c H locs ls C hW hS hl => lv_iand C.1.1 C.1.2.1 d (k l p e s m below meth c H locs ls C hW hS hl)
theorem l_i2l {v : Int32} (d : decode code pc = .ok (.i2l, 1)) (k : LWp G b Ln xs (pc + 1) L (.long (v.toInt64) :: st) σ) : LWp G b Ln xs pc L (.int v :: st) σ :=
  fun l p e s m below meth c H locs ls C hW hS hl => lv_i2l C.1.1 C.1.2.1 d rfl (k l p e s m below meth c H locs ls C hW hS hl)
theorem l_lshl {v : Int64} {w : Int32} (d : decode code pc = .ok (.lshl, 1)) (k : LWp G b Ln xs (pc + 1) L (.long (v <<< (w.toInt64 &&& 63)) :: st) σ) : LWp G b Ln xs pc L (.int w :: .long v :: st) σ :=
  fun l p e s m below meth c H locs ls C hW hS hl => lv_lshl C.1.1 C.1.2.1 d rfl (k l p e s m below meth c H locs ls C hW hS hl)
theorem l_land {v w : Int64} (d : decode code pc = .ok (.land, 1)) (k : LWp G b Ln xs (pc + 1) L (.long (v &&& w) :: st) σ) : LWp G b Ln xs pc L (.long w :: .long v :: st) σ :=
  fun l p e s m below meth c H locs ls C hW hS hl => lv_land C.1.1 C.1.2.1 d (k l p e s m below meth c H locs ls C hW hS hl)
theorem l_lor {v w : Int64} (d : decode code pc = .ok (.lor, 1)) (k : LWp G b Ln xs (pc + 1) L (.long (v ||| w) :: st) σ) : LWp G b Ln xs pc L (.long w :: .long v :: st) σ :=
  fun l p e s m below meth c H locs ls C hW hS hl => lv_lor C.1.1 C.1.2.1 d (k l p e s m below meth c H locs ls C hW hS hl)
theorem l_ldc2 {idx : Nat} {v : Int64} (d : decode code pc = .ok (.ldc2_w idx, 3)) (h : Cond.constantLong R_law idx v ∈ gt) (k : LWp G b Ln xs (pc + 3) L (.long v :: st) σ) : LWp G b Ln xs pc L st σ :=
  fun l p e s m below meth c H locs ls C hW hS hl => lv_ldc2 C.1.1 C.1.2.1 C.1.2.2.2.2.1 (C.1.2.2.2.2.2.1 _ (gt_tbl h)) d (k l p e s m below meth c H locs ls C hW hS hl)
theorem l_lcmp0 {v w : Int64} (d : decode code pc = .ok (.lcmp, 1)) (h : v = w) (k : LWp G b Ln xs (pc + 1) L (.int 0 :: st) σ) : LWp G b Ln xs pc L (.long w :: .long v :: st) σ := by
  subst h
  intro l p e s m below meth c H locs ls C hW hS hl
  refine W.lcmp C.1.1 C.1.2.1 d ?_
  have e0 : lg_cmp v v = 0 := by simp [lg_cmp]
  rw [e0]
  exact k l p e s m below meth c H locs ls C hW hS hl
theorem l_if0 {off : Int} {t : Nat} (d : decode code pc = .ok (.ifCond .eq off, 3)) (ht : (pc : Int) + off = (t : Int)) (k : LWp G b Ln xs t L st σ) : LWp G b Ln xs pc L (.int 0 :: st) σ :=
  fun l p e s m below meth c H locs ls C hW hS hl => lv_if_eq C.1.1 C.1.2.1 d ht (fun _ => k l p e s m below meth c H locs ls C hW hS hl) (fun z => absurd rfl z)
theorem l_eq {v w : Int32} {off : Int} {t : Nat} (d : decode code pc = .ok (.if_icmp .eq off, 3)) (ht : (pc : Int) + off = (t : Int)) (h : v = w) (k : LWp G b Ln xs t L st σ) : LWp G b Ln xs pc L (.int w :: .int v :: st) σ :=
  fun l p e s m below meth c H locs ls C hW hS hl => lv_icmp_eq C.1.1 C.1.2.1 d ht (fun _ => k l p e s m below meth c H locs ls C hW hS hl) (fun z => absurd h z)
theorem l_gt {v w : Int32} {off : Int} {t : Nat} (d : decode code pc = .ok (.if_icmp .gt off, 3)) (ht : (pc : Int) + off = (t : Int)) (k1 : w < v → LWp G b Ln xs t L st σ) (k2 : ¬ w < v → LWp G b Ln xs (pc + 3) L st σ) : LWp G b Ln xs pc L (.int w :: .int v :: st) σ :=
  fun l p e s m below meth c H locs ls C hW hS hl => lv_icmp_gt C.1.1 C.1.2.1 d ht (fun z => k1 z l p e s m below meth c H locs ls C hW hS hl) (fun z => k2 z l p e s m below meth c H locs ls C hW hS hl)
theorem l_goto {off : Int} {t : Nat} (d : decode code pc = .ok (.goto off, 3)) (ht : (pc : Int) + off = (t : Int)) (k : LWp G b Ln xs t L st σ) : LWp G b Ln xs pc L st σ :=
  fun l p e s m below meth c H locs ls C hW hS hl => lv_goto C.1.1 C.1.2.1 d ht (k l p e s m below meth c H locs ls C hW hS hl)
theorem l_iinc {i : Nat} {n : Int} {w v : Int32} {L' : List (Option Value)} (d : decode code pc = .ok (.iinc i n, 3)) (h : L[i]? = some (some (.int w))) (hv : w + Int32.ofInt n = v) (hn : i < 4) (ho : okS L i = true) (hL : L.set i (some (.int v)) = L') (k : LWp G b Ln xs (pc + 3) L' st σ) : LWp G b Ln xs pc L st σ := by
  intro l p e s m below meth c H locs ls C hW hS hl
  obtain ⟨j, hj⟩ := List.getElem?_of_mem (mem_asc (G := G) h)
  exact lv_iinc C.1.1 C.1.2.1 d hl.has hj hv hn rfl (fun ls' h' => k l p e s m below meth c H locs ls' C hW hS (hL ▸ LR.set1 (v := .int v) ho h'))
theorem l_tabI {dflt lo hi : Int} {offs : Array Int} {len : Nat} {v : Int32} {off : Int} {t : Nat} (d : decode code pc = .ok (.tableswitch dflt lo hi offs, len)) (h1 : ¬ v.toInt < lo) (h2 : ¬ hi < v.toInt) (ho : offs[(v.toInt - lo).toNat]? = some off) (ht : (pc : Int) + off = (t : Int)) (k : LWp G b Ln xs t L st σ) : LWp G b Ln xs pc L (.int v :: st) σ :=
  fun l p e s m below meth c H locs ls C hW hS hl => lv_tableIn C.1.1 C.1.2.1 d h1 h2 ho ht (k l p e s m below meth c H locs ls C hW hS hl)
theorem l_tabO {dflt lo hi : Int} {offs : Array Int} {len : Nat} {v : Int32} {t : Nat} (d : decode code pc = .ok (.tableswitch dflt lo hi offs, len)) (h : v.toInt < lo ∨ hi < v.toInt) (ht : (pc : Int) + dflt = (t : Int)) (k : LWp G b Ln xs t L st σ) : LWp G b Ln xs pc L (.int v :: st) σ :=
  fun l p e s m below meth c H locs ls C hW hS hl => lv_tableOut C.1.1 C.1.2.1 d h ht (k l p e s m below meth c H locs ls C hW hS hl)
theorem l_len (d : decode code pc = .ok (.arraylength, 1)) (k : LWp G b Ln xs (pc + 1) L (.int (nI Ln) :: st) σ) : LWp G b Ln xs pc L (.ref 96 :: st) σ := by
  intro l p e s m below meth c H locs ls C hW hS hl
  have hh := k l p e s m below meth c H locs ls C hW hS hl
  show W p l e room_1 s m #[Value.ref b] below meth c H locs 62 1277 _ (F0 m pc ls (.ref (G.2.1 96) :: st.map (cv G)))
  rw [C.2.2.2]
  exact va_slen C.1.1 C.1.2.1 C.1.2.2.2.2.2.2.1 C.1.2.2.2.2.2.2.2.1 (Nat.not_le.mpr C.1.2.2.2.2.2.2.2.1) hS d hh
theorem l_ld {i : Nat} {v : Int32} (d : decode code pc = .ok (.iaload, 1)) (hv : v = nI i) (hi : i < Ln) (h3 : Ln ≤ 3072) (k : LWp G b Ln xs (pc + 1) L (.int (xs i) :: st) σ) : LWp G b Ln xs pc L (.int v :: .ref 96 :: st) σ := by
  intro l p e s m below meth c H locs ls C hW hS hl
  have hh := k l p e s m below meth c H locs ls C hW hS hl
  show W p l e room_1 s m #[Value.ref b] below meth c H locs 62 1277 _ (F0 m pc ls (.int v :: .ref (G.2.1 96) :: st.map (cv G)))
  rw [C.2.2.2]
  refine va_sld C.1.1 C.1.2.1 C.1.2.2.2.2.2.2.1 C.1.2.2.2.2.2.2.2.1 (Nat.not_le.mpr C.1.2.2.2.2.2.2.2.1) hS (by rw [hv]; exact vp_in_nI hi (by omega)) d ?_
  rw [nI_cl hv (by omega)]
  exact hh
theorem l_ret (d : decode code pc = .ok (.ireturn, 1)) : LWp G b Ln xs pc L [.int 1] σ := by
  intro l p e s m below meth c H locs ls C hW hS hl
  refine va_forget (fun q hq => hS.2.2 q hq) ?_
  refine W.widen (k := 600000) (n := 7302250) (by decide) (by decide) ?_
  exact lw_ret C.1.1 C.1.2.1 C.1.2.2.1 C.1.2.2.2.2.2.2.2.2.1 d
/-- the j-th number of the row -/
theorem l_arg {k : Nat} {j : Nat} {nj : Int} (d1 : decode code pc = .ok (.aload_n 0, 1)) (d2 : decode code (pc + 1) = .ok (.iload_n 3, 1)) (d3 : decode code (pc + 1 + 1) = .ok (.iconst nj, 1)) (d4 : decode code (pc + 1 + 1 + 1) = .ok (.iadd, 1)) (d5 : decode code (pc + 1 + 1 + 1 + 1) = .ok (.iaload, 1)) (hj : Int32.ofInt nj = nI j) (h0 : L[0]? = some (some (.ref 96))) (hL3 : L[3]? = some (some (.int (nI k)))) (hi : k + j < Ln) (h3 : Ln ≤ 3072) (kk : LWp G b Ln xs (pc + 1 + 1 + 1 + 1 + 1) L (.int (xs (k + j)) :: st) σ) : LWp G b Ln xs pc L st σ :=
  l_aload d1 h0 (l_iload d2 hL3 (l_iconst d3 hj (l_iadd d4 (l_ld d5 (nI_add k j) hi h3 kk))))
theorem l_run {rest : List Value} {P' : Option Value → Sg → Prop} {l : Launch} {p : Program} {e : Env} {s : State} {m : MethodId} {below : List Frame} {meth : Method} {c : Code} {H : Heap} {locs : List Loc} {ls : Array Slot} {a : Array Value}
    (C : LX G b Ln xs p s m meth c) (hS : va_S (fun q : Nat => s.heap.size ≤ q) s.heap H locs) (hl : LR G ls 4 L)
    (hr : va_Run p l e room_1 s m #[Value.ref b] below meth c H locs 62 1277 0 0 (F0 m pc ls (st.map (cv G))) (rest.map (cv G)) (Qc G P' a) (AG G))
    (k : ∀ v σ', P' v σ' → LWp G b Ln xs (pc + 3) L (v.toList ++ rest) σ') : W p l e room_1 s m #[Value.ref b] below meth c H locs 62 1277 (lw_Z below #[Value.ref b] s) (F0 m pc ls (st.map (cv G))) := by
  intro T hT X
  obtain ⟨v, st₀, t, T', L2, h0, X', hL2, e1, e2, ⟨⟨v', σ', hv, hp, hw⟩, hz, hk⟩, go⟩ := hr T hT X
  cases hv
  rw [h0] at hz hk
  have hS2 : va_S (fun q : Nat => s.heap.size ≤ q) s.heap t.heap (locs ++ L2) := ⟨Nat.le_trans hS.1 hz, fun q h1 h2 => by rw [hk q (Nat.lt_of_lt_of_le h1 hS.1) (fun z => h2 (C.2.2.1 q z))]; exact hS.2.1 q h1 h2, fun q hq => by
    rcases List.mem_append.mp hq with h | h
    · exact hS.2.2 q h
    · exact C.2.2.1 _ (hL2 q h)⟩
  obtain ⟨t2, a1, b1⟩ := k v' σ' hp l p e s m below meth c t.heap (locs ++ L2) ls C hw hS2 hl T' e1 X'
  have es : (v'.toList ++ rest).map (cv G) = (v'.map (cv G)).toList ++ rest.map (cv G) := by cases v' <;> simp
  rw [es] at a1
  exact ⟨t2, go t2 a1, b1⟩
theorem l_call {M' : MT} {idx n c ci : Nat} {as rest : List Value} {P' : Option Value → Sg → Prop} (d : decode code pc = .ok (.invokevirtual idx, 3)) (ml : Cond.methodLink R_law idx M'.2.1 ∈ gt) (mv : MV M' n) (hR : fitR mLw M' = true) (hc : kd c = ci) (h8 : ci < 8) (hcl : (clC ci).1 = M'.1)
    (ev : Ev G M' (.ref c :: as) σ P') (hn : as.length = n) (hst : st = as.reverse ++ .ref c :: rest) (hw : (rest.map fun v => v.category).sum ≤ 8)
    (k : ∀ v σ', P' v σ' → LWp G b Ln xs (pc + 3) L (v.toList ++ rest) σ') : LWp G b Ln xs pc L st σ := by
  intro l p e s m below meth cd H locs ls C hW hS hl
  have hts : ∀ w ∈ gt, w.before #[Value.ref b] s = true := fun w h => C.1.2.2.2.2.2.1 w (gt_tbl h)
  have gg : ∀ w ∈ gt, w ∈ gt ∧ ((w.onTables && w.keeps) = true ∨ ∃ ty, w = .arrayClass ty) := fun _ h => ⟨h, gt_good h⟩
  have hg : GoodIn gt (wsV R_law idx M'.1 M'.2.1 (wsOf M')) := by
    intro w h
    rcases List.mem_append.mp h with h | h
    · simp only [List.mem_cons, List.not_mem_nil, or_false] at h
      rcases h with rfl | rfl | rfl | rfl
      · exact gg _ ml
      · exact gg _ mv.1
      · exact gg _ mv.2.1
      · exact gg _ mv.2.2.1
    · rcases List.mem_cons.mp h with rfl | h
      · exact gg _ mv.2.2.2.1
      · exact gg _ h
  have hrc : ∃ cell : Cell, H[G.2.1 c]? = some cell ∧ cell.vm.isStatics = false ∧ s.vm.findClass M'.1 = some cell.cls := by
    rw [← hcl]
    exact va_recv (q0 := c) (ci := ci) (fs := fsK G σ c ci) C.2.1.2.1 hW (cl_all h8).1 (by rw [wsW_at (kd_lt hc (by omega)), cell_obj hc h8])
  have hpc : ∀ U : State, U.heap = H → s.WarmedH U.vm → PcE G (.ref c :: as) σ ((.ref c :: as).map (cv G)).toArray U := fun U hU hw => ⟨rfl, by rw [hU]; exact hW, C.2.1.to hw (fun a h1 h2 => by rw [hU]; exact hS.2.1 a h1 (Nat.not_le.mpr h1))⟩
  have hfit := fitR_of hR
  have hr := va_runV (S := ⟨C.1.1, C.1.2.1, C.1.2.2.2.1, C.1.2.2.2.2.1, hts⟩) (R := room_1) (args := #[Value.ref b]) (cells := 62) (slots := 1277) (below := below) (e := e) (locs := locs) (meth := meth) (ev l) (cwV (C := M'.1) n hts hg (hw := rfl) rfl rfl mv.2.2.2.2 hfit) (hp := ⟨pcE_blind, hrc, hpc⟩) (g := F0 m pc ls (st.map (cv G))) (rest := rest.map (cv G)) rfl (by simp [hn]) hl.1 (by rw [hst]; simp [cv]) (lv_room (by simpa [List.map_map, Function.comp_def, cv_cat] using hw)) d ⟨by decide, by decide⟩
  exact l_run (rest := rest) C hS hl hr k
end LAW
theorem RC.co {σ τ : Sg} {μ : MO} {n : Nat} (h : RC σ μ n) (k : Co σ τ) : RC τ μ n := by
  obtain ⟨k1, k2, k3⟩ := k
  have hp : ∀ p, Pm σ p → Pm τ p := fun p z => by
    unfold Pm
    rw [k3]
    exact z
  have hr : ∀ p, p = 1 ∨ p = 2 ∨ p = 3 → ∀ f m, m ≤ 8 → Pm σ p → Rp σ p f m → Rp τ p f m := fun p hp f m hm z0 z => by
    refine ⟨fun k hk => ?_, by rw [k1 p 2 (by omega)]; exact z.n, by rw [k1 p 3 (by omega)]; exact z.hr, by rw [k1 p 4 (by omega)]; exact z.st, by rw [k1 p 5 (by omega)]; exact z.z, fun r hr w hw => ?_⟩
    · rw [k1 (p + 8) k (by omega)]
      exact z.cl hk
    · have q0 := z0.1 r (by omega)
      rw [k3, k1 _ _ (by omega)]
      exact z.rd hr w hw
  exact h.eqs h.rv (hr 1 (by omega) _ _ h.rv.le h.p1 h.rp) (fun c j hc => k1 c j (by omega)) (fun s j hs => k2 (22 + s) j (by omega)) ⟨hp 1 h.p1, hp 2 h.p2, hp 3 h.p3⟩ (fun m hm z => hr 3 (by omega) _ _ hm h.p3 z)
theorem Mo_obs {σ τ : Sg} (h : Mo σ τ) : obs τ = obs σ := by
  have e1 : ∀ c, 50 ≤ c → τ.1 c = σ.1 c := fun c hc => funext fun j => h.1 c j hc
  have e2 : ∀ c, 50 ≤ c → τ.2.1 c = σ.2.1 c := fun c hc => funext fun j => h.2 c j hc
  unfold obs
  rw [e1 51 (by decide), e1 52 (by decide), e1 60 (by decide), e1 50 (by decide), e1 55 (by decide), e1 56 (by decide), e1 57 (by decide), e2 58 (by decide)]
/-- what the reference's calls ask, while it shows what the class holds -/
theorem RC.mod {σ τ : Sg} {n : Nat} (h : RC σ (obs σ) n) (hM : Mo σ τ) : τ.1 51 8 = nI n ∧ n ≤ 8 ∧ FkV (τ.1 51) n ∧ (∃ tt, τ.1 50 10 = nI tt ∧ tt ≤ 120) ∧ ∃ zs : Nat → Nat, ∀ s, s < 4 → τ.1 57 s = nI (zs s) ∧ zs s ≤ 40 := by
  have e1 : ∀ c, 50 ≤ c → τ.1 c = σ.1 c := fun c hc => funext fun j => hM.1 c j hc
  rw [e1 51 (by decide), e1 50 (by decide), e1 57 (by decide)]
  obtain ⟨t, t1, t2, -⟩ := h.tp
  refine ⟨h.rv.n, h.rv.le, FkV_of h.rv, ⟨t, t2, t1⟩, fun s => (σ.1 57 s).toNatClampNeg, fun s hs => ?_⟩
  obtain ⟨z, z1, z2, -⟩ := h.sh s hs
  have e3 : σ.1 57 s = nI z := z2
  show σ.1 57 s = nI (σ.1 57 s).toNatClampNeg ∧ (σ.1 57 s).toNatClampNeg ≤ 40
  rw [e3, nI_clamp (by omega)]
  exact ⟨rfl, z1⟩
