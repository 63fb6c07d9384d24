/-! the law's beginning: worlds that grow -/
def ZP (D : va_G) (b Ln : Nat) (xs : Nat → Int32) (pc : Nat) (L : List (Option Value)) (st : List Value) (ws : va_W) (tys : nTy) (nc ns : Nat) : Prop :=
  ∀ (l : Launch) (p : Program) (e : Env) (s : State) (m : MethodId) (below : List Frame) (meth : Method) (c : Code) (H : Heap) (locs : List Loc) (ls : Array Slot),
    lw_At p s m meth c b Ln xs → va_K D vwCl tys s → va_P D vwCl ws H → va_D (fun q : Nat => s.heap.size ≤ q) ws → va_S (fun q : Nat => s.heap.size ≤ q) s.heap H locs → LR (gD D) ls 4 L → W p l e room_1 s m #[Value.ref b] below meth c H locs nc ns (lw_Z below #[Value.ref b] s) (F0 m pc ls st)
section ZRULES
variable {D : va_G} {b Ln : Nat} {xs : Nat → Int32} {pc : Nat} {L : List (Option Value)} {st : List Value} {ws : va_W} {tys : nTy} {nc ns : Nat}
theorem z_gt {p : Program} {s : State} {m : MethodId} {meth : Method} {c : Code} (C : lw_At p s m meth c b Ln xs) : ∀ w ∈ gt, w.before #[Value.ref b] s = true := fun w h => C.2.2.2.2.2.1 w (gt_tbl h)
theorem z_iconst {n : Int} {v : Int32} (d : decode code pc = .ok (.iconst n, 1)) (hv : Int32.ofInt n = v) (k : ZP D b Ln xs (pc + 1) L (.int v :: st) ws tys nc ns) : ZP D b Ln xs pc L st ws tys nc ns :=
  fun l p e s m below meth c H locs ls C hK hP hD hS hl => lv_iconst C.1 C.2.1 d hv (k l p e s m below meth c H locs ls C hK hP hD hS hl)
theorem z_dup {a : Value} (d : decode code pc = .ok (.dup, 1)) (ha : a.category = 1) (k : ZP D b Ln xs (pc + 1) L (a :: a :: st) ws tys nc ns) : ZP D b Ln xs pc L (a :: st) ws tys nc ns :=
  fun l p e s m below meth c H locs ls C hK hP hD hS hl => lv_dup C.1 C.2.1 d ha (k l p e s m below meth c H locs ls C hK hP hD hS hl)
theorem z_istore {n : Fin 4} {v : Int32} {L' : List (Option Value)} (d : decode code pc = .ok (.istore_n n, 1)) (ho : okS L n = true) (hL : L.set n (some (.int v)) = L') (k : ZP D b Ln xs (pc + 1) L' st ws tys nc ns) : ZP D b Ln xs pc L (.int v :: st) ws tys nc ns :=
  fun l p e s m below meth c H locs ls C hK hP hD hS hl => lv_istore_n C.1 C.2.1 d rfl hl.has n.isLt rfl (fun ls' h' => k l p e s m below meth c H locs ls' C hK hP hD hS (hL ▸ LR.set1 (v := .int v) ho h'))
theorem z_astore {n : Fin 4} {r : Nat} {L' : List (Option Value)} (d : decode code pc = .ok (.astore_n n, 1)) (ho : okS L n = true) (hL : L.set n (some (.ref r)) = L') (k : ZP D b Ln xs (pc + 1) L' st ws tys nc ns) : ZP D b Ln xs pc L (.ref r :: st) ws tys nc ns :=
  fun l p e s m below meth c H locs ls C hK hP hD hS hl => lv_astore_n C.1 C.2.1 d rfl hl.has n.isLt rfl (fun ls' h' => k l p e s m below meth c H locs ls' C hK hP hD hS (hL ▸ LR.set1 (G := gD D) (v := .ref r) ho h'))
theorem z_new {ci idx : Nat} {ty : Nat → FieldType} {fs : List Value} (d : decode code pc = .ok (.new idx, 3)) (cl : Cond.classLink R_law idx (clC ci).1 ∈ gt) (h8 : ci < 8) (hin : Cond.instantiable (clC ci).1 (clC ci).2.2 ∈ gt) (hini : Cond.initialized (clC ci).1 ∈ gt) (hty : ∀ k, k < (clC ci).2.2 → parseFieldDescriptor ((clC ci).2.1 k).2.2.1 = some (ty k)) (hfs : ∀ j, j < (clC ci).2.2 → defaultValue (ty j) = vp_V fs j) (hc : nc + 1 ≤ 600000 ∧ ns + (clC ci).2.2 ≤ 7302250)
    (k : ∀ q, ZP D b Ln xs (pc + 3) L (.ref q :: st) (ws ++ [(q, .inr (ci, fs))]) tys (nc + 1) (ns + (clC ci).2.2)) : ZP D b Ln xs pc L st ws tys nc ns := by
  intro l p e s m below meth c H locs ls C hK hP hD hS hl
  obtain ⟨q1, q2, q3, -, -⟩ := cl_all h8
  exact va_new (ci := ci) (fs := fs) C.1 C.2.1 (z_gt C) q3 ty hty C.2.2.2.2.1 (z_gt C _ cl) (z_gt C _ hin) (z_gt C _ hini) hK hP hD hS (fun q h => h) q1 hfs hc.1 hc.2 d (fun q H1 hP1 hD1 hS1 => k q l p e s m below meth c H1 locs ls C hK hP1 hD1 hS1 hl)
theorem z_call {M' : MT} {mc' ms' idx q j : Nat} {en : va_E} {wr : va_W} {P' : va_W → nTy → Prop} (isR : List Nat) (d : decode code pc = .ok (.invokespecial idx, 3)) (ml : Cond.methodLink R_law idx M'.2.1 ∈ gt) (mi : Cond.instanceMethod M'.2.1 ∈ gt ∧ Cond.initialized M'.2.1.cls ∈ gt ∧ cdW M' ∈ gt) (hnm : M'.2.1.cls ≠ "java/lang/invoke/MethodHandle" ∧ M'.2.1.cls ≠ "java/lang/invoke/VarHandle" ∧ (parseMethodDescriptor M'.2.1.desc).map (fun d => d.parameters.length) = some 0) (hret : M'.2.2.2.2.1 = none) (hini : M'.2.1.name = "<init>") (hR : fitR mLw M' = true) (ev : EvN D M' mc' ms' q [(q, en)] P') (hj : ws[j]? = some (q, en)) (hR2 : isR.map (fun i => ws[i]?) = wr.map some) (hnd : va_nd isR = true) (hdis : ∀ i ∈ isR, i ∉ [j]) (hw : (st.map fun v => v.category).sum ≤ 8) (hc : nc + mc' ≤ 600000 ∧ ns + ms' ≤ 7302250)
    (k : ∀ w1 t1, P' w1 t1 → ZP D b Ln xs (pc + 3) L st (wr ++ w1) (tys ++ t1) (nc + mc') (ns + ms')) : ZP D b Ln xs pc L (.ref q :: st) ws tys nc ns := by
  intro l p e s m below meth c H locs ls C hK hP hD hS hl
  have hA : ∀ q : Nat, s.heap.size ≤ q → (fun q : Nat => s.heap.size ≤ q) q := fun q h => h
  have hC1 : [j].map (fun i => ws[i]?) = [(q, en)].map some := by simp [hj]
  have hPc : va_P D vwCl [(q, en)] H := fun k x hx => by
    have hk : k = 0 := by
      rcases k with _ | k
      · rfl
      · simp at hx
    subst hk
    cases hx
    exact hP j _ hj
  have hDc : va_D (fun _ => True) [(q, en)] := ⟨fun i1 i2 x y hx hy _ => by
    have h1 : i1 < 1 := (List.getElem?_eq_some_iff.mp hx).1
    have h2 : i2 < 1 := (List.getElem?_eq_some_iff.mp hy).1
    omega, fun _ _ _ => trivial⟩
  have hKc : va_K D vwCl [] s := hK.sub [] rfl
  have hFc := va_free (wc := [(q, en)]) hD hS hA [j] hC1
  have hNU : NU s := sw_NU C.2.2.2.2.2.1
  have gg : ∀ w ∈ gt, w ∈ gt ∧ ((w.onTables && w.keeps) = true ∨ ∃ ty, w = .arrayClass ty) := fun _ h => ⟨h, gt_good h⟩
  have hgi : GoodIn gt (wsOf M') := fun w h => by
    rcases List.mem_cons.mp h with rfl | h
    · exact gg _ mi.2.2
    · exact gg _ h
  have hcw : CallB room_1 s #[Value.ref b] R_law idx M'.2.1 M'.2.2.1 M'.2.2.2.1 none (wsOf M') (nrm M' mc' ms') mc' ms' 0 := by
    have hfit := fitR_of hR
    have hw : wsOf M' = Cond.code M'.2.1 M'.2.2.1 M'.2.2.2.1 none :: gt := by
      unfold wsOf
      rw [hret]
    exact callB_of (ws' := gt) 0 (z_gt C) hgi hw rfl rfl (z_gt C _ mi.2.1) (z_gt C _ ml) hnm hfit
  refine va_callv (va_runI (As := []) (rest := st) ⟨C.1, C.2.1, C.2.2.2.1, C.2.2.2.2.1, z_gt C⟩ (ev l H.size) ⟨hcw, hini, z_gt C _ mi.1⟩ ⟨fun a U g mk z => ?_, fun U hU hW => ⟨rfl, by rw [hU], by rw [hU]; exact hPc, va_K.moved hW.alike hKc, hDc, hNU.warm hW⟩⟩ rfl rfl hl.1 rfl (lv_room hw) d hc) hS (fun q _ h => hFc q h) hFc (fun u t H1 locs1 ht hvm hp hB hz1 hk1 hS1 => ?_)
  · obtain ⟨z0, z1, z2, z3, z4, z5⟩ := z
    have hv : U.vm.Alike (U.calling g mk a).vm := Vm.Alike.refl U.vm
    exact ⟨z0, z1, z2, va_K.moved hv z3, z4, z5.blind⟩
  · obtain ⟨hP1, hK1, hD1⟩ := hB
    rw [ht] at hP1
    obtain ⟨hP2, hD2⟩ := va_join (wr := wr) (w1 := u.1) hP hD [j] isR hC1 hR2 hnd hdis hk1 hFc hP1 hD1
    exact k u.1 u.2 hp l p e s m below meth c H1 locs1 ls C (hK.app (va_K.moved hvm.symm hK1)) hP2 hD2 hS1 hl
end ZRULES
