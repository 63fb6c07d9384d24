theorem nw_oi : Cond.instanceMethod Lib.objectInit ∈ gt := gt_at 82 (by decide +kernel) (by decide +kernel)
theorem nw_oc : Cond.code Lib.objectInit ⟨#[0xb1]⟩ 1 none ∈ gt := gt_at 83 (by decide +kernel) (by decide +kernel)
section NIA
variable {D : va_G} {M : MT} {mc ms : Nat} {ws0 : va_W} {P : va_W → nTy → Prop} {pc : Nat} {L : List (Option Value)} {st : List Value} {ws : va_W} {tys : nTy} {nc ns : Nat}
theorem n_iast {q0 t0 a n : Nat} {cA : ClassId} {f : Nat → Int32} {i x : Int32} (d : decode M.2.2.1 pc = .ok (.iastore, 1)) (ha : ws[q0]? = some (a, .inl (cA, n, .inl f))) (ht : tys[t0]? = some (cA, .int)) (hin : vp_in i n)
    (k : NP D M mc ms ws0 P (pc + 1) L st (ws.set q0 (a, .inl (cA, n, .inl (upd f i.toNatClampNeg x)))) tys nc ns) : NP D M mc ms ws0 P pc L (.int x :: .int i :: .ref a :: st) ws tys nc ns := by
  intro l p e s m args below meth c H locs ls C hK hP hD hS hl
  exact va_iast C.1 C.2.1 hK hP hD hS q0 t0 ha ht hin d (fun H1 locs1 hP1 hD1 hS1 => k l p e s m args below meth c H1 locs1 ls C hK hP1 hD1 hS1 hl)
end NIA
theorem nw_l_X0_3 : Cond.methodLink RX0 3 Lib.objectInit ∈ gt := gt_at 95 (by decide +kernel) (by decide +kernel)
set_option maxRecDepth 100000 in
set_option maxHeartbeats 4000000 in
theorem nv_X0 (D : va_G) (h0 : Nat) : EvN D mX0_init 0 0 h0 [(h0, .inr (0, [.int 0, .int 0, .int 0, .int 0, .int 0]))] (fun w t => w = [(h0, .inr (0, [.int 0, .int 0, .int 1, .int 20, .int 60]))] ∧ t = []) := by
  refine EvN.of (L := [some (.ref h0)]) (by decide) (by decide) rfl rfl rfl ?_
  refine n_aload dX0_init_0 rfl ?_
  refine n_objInit dX0_init_1 nw_l_X0_3 nw_oi nw_oc rfl ?_
  refine n_aload dX0_init_4 rfl ?_
  refine n_iconst dX0_init_5 (v := 0) (by decide) ?_
  refine n_put (ty := .int) (q0 := 0) dX0_init_6 fl_X0_9 (by decide) (by decide) rfl (by decide +kernel) rfl rfl rfl (Nat.le_of_ble_eq_true rfl) ?_
  dsimp only [List.set, List.cons_append, List.nil_append, List.append_assoc]
  refine n_aload dX0_init_9 rfl ?_
  refine n_iconst dX0_init_10 (v := 0) (by decide) ?_
  refine n_put (ty := .int) (q0 := 0) dX0_init_11 fl_X0_15 (by decide) (by decide) rfl (by decide +kernel) rfl rfl rfl (Nat.le_of_ble_eq_true rfl) ?_
  dsimp only [List.set, List.cons_append, List.nil_append, List.append_assoc]
  refine n_aload dX0_init_14 rfl ?_
  refine n_iconst dX0_init_15 (v := 1) (by decide) ?_
  refine n_put (ty := .int) (q0 := 0) dX0_init_16 fl_X0_18 (by decide) (by decide) rfl (by decide +kernel) rfl rfl rfl (Nat.le_of_ble_eq_true rfl) ?_
  dsimp only [List.set, List.cons_append, List.nil_append, List.append_assoc]
  refine n_aload dX0_init_19 rfl ?_
  refine n_bipush dX0_init_20 (v := 20) (by decide) ?_
  refine n_put (ty := .int) (q0 := 0) dX0_init_22 fl_X0_21 (by decide) (by decide) rfl (by decide +kernel) rfl rfl rfl (Nat.le_of_ble_eq_true rfl) ?_
  dsimp only [List.set, List.cons_append, List.nil_append, List.append_assoc]
  refine n_aload dX0_init_25 rfl ?_
  refine n_bipush dX0_init_26 (v := 60) (by decide) ?_
  refine n_put (ty := .int) (q0 := 0) dX0_init_28 fl_X0_24 (by decide) (by decide) rfl (by decide +kernel) rfl rfl rfl (Nat.le_of_ble_eq_true rfl) ?_
  dsimp only [List.set, List.cons_append, List.nil_append, List.append_assoc]
  refine n_vret dX0_init_31 rfl rfl rfl ?_
  exact ⟨rfl, rfl⟩
theorem nw_l_X3_3 : Cond.methodLink RX3 3 Lib.objectInit ∈ gt := gt_at 124 (by decide +kernel) (by decide +kernel)
set_option maxRecDepth 100000 in
set_option maxHeartbeats 4000000 in
theorem nv_X3 (D : va_G) (h0 : Nat) : EvN D mX3_init 0 0 h0 [(h0, .inr (3, [.int 0, .int 0, .int 0, .int 0, .int 0, .int 0, .int 0]))] (fun w t => w = [(h0, .inr (3, [.int 0, .int 0, .int 0, .int 0, .int 0, .int 0, .int 0]))] ∧ t = []) := by
  refine EvN.of (L := [some (.ref h0)]) (by decide) (by decide) rfl rfl rfl ?_
  refine n_aload dX3_init_0 rfl ?_
  refine n_objInit dX3_init_1 nw_l_X3_3 nw_oi nw_oc rfl ?_
  refine n_vret dX3_init_4 rfl rfl rfl ?_
  exact ⟨rfl, rfl⟩
theorem nw_l_X4_3 : Cond.methodLink RX4 3 Lib.objectInit ∈ gt := gt_at 234 (by decide +kernel) (by decide +kernel)
theorem nw_a_long : Cond.arrayClass .long ∈ gt := gt_at 248 (by decide +kernel) (by decide +kernel)
set_option maxRecDepth 100000 in
set_option maxHeartbeats 4000000 in
theorem nv_X4 (D : va_G) (h0 : Nat) : EvN D mX4_init 1 40 h0 [(h0, .inr (4, [.null, .int 0, .int 0]))] (fun w t => ∃ (qn : Nat) (cL : ClassId), w = [(h0, .inr (4, [.ref qn, .int 0, .int 0])), (qn, .inl (cL, 40, .inr (.inl (fun _ => 0))))] ∧ t = [(cL, .long)]) := by
  refine EvN.of (L := [some (.ref h0)]) (by decide) (by decide) rfl rfl rfl ?_
  refine n_aload dX4_init_0 rfl ?_
  refine n_objInit dX4_init_1 nw_l_X4_3 nw_oi nw_oc rfl ?_
  refine n_aload dX4_init_4 rfl ?_
  refine n_bipush dX4_init_5 (v := 40) (by decide) ?_
  refine n_newa (ty := .long) (N' := 40) (a0 := (40, .inr (.inl (fun _ => 0)))) dX4_init_7 nw_a_long rfl (fun _ => rfl) (by decide) (by decide) (by decide) (by decide) (fun q1 cA2 => ?_)
  dsimp only [List.set, List.cons_append, List.nil_append, List.append_assoc]
  refine n_putF (q0 := 0) dX4_init_9 fl_X4_9 (by decide) (by decide) rfl rfl (by decide +kernel : parseFieldDescriptor ((clC 4).2.1 0).2.2.1 = some (tyX4 0)) rfl rfl rfl (Nat.le_of_ble_eq_true rfl) ?_
  dsimp only [List.set, List.cons_append, List.nil_append, List.append_assoc]
  refine n_aload dX4_init_12 rfl ?_
  refine n_iconst dX4_init_13 (v := 0) (by decide) ?_
  refine n_put (ty := .int) (q0 := 0) dX4_init_14 fl_X4_15 (by decide) (by decide) rfl (by decide +kernel) rfl rfl rfl (Nat.le_of_ble_eq_true rfl) ?_
  dsimp only [List.set, List.cons_append, List.nil_append, List.append_assoc]
  refine n_aload dX4_init_17 rfl ?_
  refine n_iconst dX4_init_18 (v := 0) (by decide) ?_
  refine n_put (ty := .int) (q0 := 0) dX4_init_19 fl_X4_19 (by decide) (by decide) rfl (by decide +kernel) rfl rfl rfl (Nat.le_of_ble_eq_true rfl) ?_
  dsimp only [List.set, List.cons_append, List.nil_append, List.append_assoc]
  refine n_vret dX4_init_22 rfl rfl rfl ?_
  exact ⟨_, _, rfl, rfl⟩
theorem nw_l_X5_3 : Cond.methodLink RX5 3 Lib.objectInit ∈ gt := gt_at 200 (by decide +kernel) (by decide +kernel)
theorem nw_a_int : Cond.arrayClass .int ∈ gt := gt_at 188 (by decide +kernel) (by decide +kernel)
set_option maxRecDepth 100000 in
set_option maxHeartbeats 4000000 in
theorem nv_X5 (D : va_G) (h0 : Nat) : EvN D mX5_init 1 120 h0 [(h0, .inr (5, [.null, .int 0]))] (fun w t => ∃ (qn : Nat) (cI : ClassId), w = [(h0, .inr (5, [.ref qn, .int 0])), (qn, .inl (cI, 120, .inl (fun _ => 0)))] ∧ t = [(cI, .int)]) := by
  refine EvN.of (L := [some (.ref h0)]) (by decide) (by decide) rfl rfl rfl ?_
  refine n_aload dX5_init_0 rfl ?_
  refine n_objInit dX5_init_1 nw_l_X5_3 nw_oi nw_oc rfl ?_
  refine n_aload dX5_init_4 rfl ?_
  refine n_bipush dX5_init_5 (v := 120) (by decide) ?_
  refine n_newa (ty := .int) (N' := 120) (a0 := (120, .inl (fun _ => 0))) dX5_init_7 nw_a_int rfl (fun _ => rfl) (by decide) (by decide) (by decide) (by decide) (fun q1 cA2 => ?_)
  dsimp only [List.set, List.cons_append, List.nil_append, List.append_assoc]
  refine n_putF (q0 := 0) dX5_init_9 fl_X5_9 (by decide) (by decide) rfl rfl (by decide +kernel : parseFieldDescriptor ((clC 5).2.1 0).2.2.1 = some (tyX5 0)) rfl rfl rfl (Nat.le_of_ble_eq_true rfl) ?_
  dsimp only [List.set, List.cons_append, List.nil_append, List.append_assoc]
  refine n_aload dX5_init_12 rfl ?_
  refine n_iconst dX5_init_13 (v := 0) (by decide) ?_
  refine n_put (ty := .int) (q0 := 0) dX5_init_14 fl_X5_15 (by decide) (by decide) rfl (by decide +kernel) rfl rfl rfl (Nat.le_of_ble_eq_true rfl) ?_
  dsimp only [List.set, List.cons_append, List.nil_append, List.append_assoc]
  refine n_vret dX5_init_17 rfl rfl rfl ?_
  exact ⟨_, _, rfl, rfl⟩
theorem nw_l_X2_3 : Cond.methodLink RX2 3 Lib.objectInit ∈ gt := gt_at 194 (by decide +kernel) (by decide +kernel)
theorem nw_k_X2_9 : Cond.classLink RX2 9 (clC 5).1 ∈ gt := gt_at 195 (by decide +kernel) (by decide +kernel)
theorem nw_b_5 : Cond.instantiable (clC 5).1 (clC 5).2.2 ∈ gt := gt_at 196 (by decide +kernel) (by decide +kernel)
theorem nw_d_5 : Cond.initialized (clC 5).1 ∈ gt := gt_at 66 (by decide +kernel) (by decide +kernel)
theorem nw_l_X2_11 : Cond.methodLink RX2 11 yX5_init ∈ gt := gt_at 197 (by decide +kernel) (by decide +kernel)
theorem nw_i_X5_init : Cond.instanceMethod yX5_init ∈ gt := gt_at 198 (by decide +kernel) (by decide +kernel)
theorem nw_n_X5_init : Cond.initialized mX5_init.2.1.cls ∈ gt := gt_at 66 (by decide +kernel) (by decide +kernel)
theorem nw_c_X5_init : cdW mX5_init ∈ gt := gt_at 199 rfl rfl
theorem nw_m_X5_init : Cond.instanceMethod mX5_init.2.1 ∈ gt ∧ Cond.initialized mX5_init.2.1.cls ∈ gt ∧ cdW mX5_init ∈ gt := ⟨nw_i_X5_init, nw_n_X5_init, nw_c_X5_init⟩
set_option maxRecDepth 100000 in
set_option maxHeartbeats 4000000 in
theorem nv_X2 (D : va_G) (h0 : Nat) : EvN D mX2_init 2 122 h0 [(h0, .inr (2, [.null, .int 0, .int 0, .int 0, .int 0]))] (fun w t => ∃ (qt qn : Nat) (cI : ClassId), w = [(h0, .inr (2, [.ref qt, .int 0, .int 0, .int 0, .int 0])), (qt, .inr (5, [.ref qn, .int 0])), (qn, .inl (cI, 120, .inl (fun _ => 0)))] ∧ t = [(cI, .int)]) := by
  refine EvN.of (L := [some (.ref h0)]) (by decide) (by decide) rfl rfl rfl ?_
  refine n_aload dX2_init_0 rfl ?_
  refine n_objInit dX2_init_1 nw_l_X2_3 nw_oi nw_oc rfl ?_
  refine n_aload dX2_init_4 rfl ?_
  refine n_new (ci := 5) (ty := tyX5) (fs := [.null, .int 0]) dX2_init_5 nw_k_X2_9 (by decide) nw_b_5 nw_d_5 tyX5_ok (fun j hj => by
    have hj2 : j < 2 := hj
    rcases (show j = 0 ∨ j = 1 by omega) with rfl | rfl <;> rfl) (by decide) (fun q1 => ?_)
  dsimp only [List.set, List.cons_append, List.nil_append, List.append_assoc]
  refine n_dup dX2_init_8 rfl ?_
  refine n_call (wr := [(h0, .inr (2, [.null, .int 0, .int 0, .int 0, .int 0]))]) (j := 1) [0] dX2_init_9 nw_l_X2_11 nw_m_X5_init (by decide +kernel) rfl rfl rfl (nv_X5 D q1) rfl rfl (by decide) (by decide) (Nat.le_of_ble_eq_true rfl) (by decide) (fun w1 t1 hp2 => ?_)
  obtain ⟨qnz3, cIz3, rfl, rfl⟩ := hp2
  dsimp only [List.set, List.cons_append, List.nil_append, List.append_assoc]
  refine n_putF (q0 := 0) dX2_init_12 fl_X2_12 (by decide) (by decide) rfl rfl (by decide +kernel : parseFieldDescriptor ((clC 2).2.1 0).2.2.1 = some (tyX2 0)) rfl rfl rfl (Nat.le_of_ble_eq_true rfl) ?_
  dsimp only [List.set, List.cons_append, List.nil_append, List.append_assoc]
  refine n_aload dX2_init_15 rfl ?_
  refine n_iconst dX2_init_16 (v := 0) (by decide) ?_
  refine n_put (ty := .int) (q0 := 0) dX2_init_17 fl_X2_18 (by decide) (by decide) rfl (by decide +kernel) rfl rfl rfl (Nat.le_of_ble_eq_true rfl) ?_
  dsimp only [List.set, List.cons_append, List.nil_append, List.append_assoc]
  refine n_aload dX2_init_20 rfl ?_
  refine n_iconst dX2_init_21 (v := 0) (by decide) ?_
  refine n_put (ty := .int) (q0 := 0) dX2_init_22 fl_X2_22 (by decide) (by decide) rfl (by decide +kernel) rfl rfl rfl (Nat.le_of_ble_eq_true rfl) ?_
  dsimp only [List.set, List.cons_append, List.nil_append, List.append_assoc]
  refine n_aload dX2_init_25 rfl ?_
  refine n_iconst dX2_init_26 (v := 0) (by decide) ?_
  refine n_put (ty := .int) (q0 := 0) dX2_init_27 fl_X2_25 (by decide) (by decide) rfl (by decide +kernel) rfl rfl rfl (Nat.le_of_ble_eq_true rfl) ?_
  dsimp only [List.set, List.cons_append, List.nil_append, List.append_assoc]
  refine n_aload dX2_init_30 rfl ?_
  refine n_iconst dX2_init_31 (v := 0) (by decide) ?_
  refine n_put (ty := .int) (q0 := 0) dX2_init_32 fl_X2_28 (by decide) (by decide) rfl (by decide +kernel) rfl rfl rfl (Nat.le_of_ble_eq_true rfl) ?_
  dsimp only [List.set, List.cons_append, List.nil_append, List.append_assoc]
  refine n_vret dX2_init_35 rfl rfl rfl ?_
  exact ⟨_, _, _, rfl, rfl⟩
theorem nw_l_X1_3 : Cond.methodLink RX1 3 Lib.objectInit ∈ gt := gt_at 89 (by decide +kernel) (by decide +kernel)
theorem nw_k_X1_9 : Cond.classLink RX1 9 (clC 0).1 ∈ gt := gt_at 90 (by decide +kernel) (by decide +kernel)
theorem nw_b_0 : Cond.instantiable (clC 0).1 (clC 0).2.2 ∈ gt := gt_at 91 (by decide +kernel) (by decide +kernel)
theorem nw_d_0 : Cond.initialized (clC 0).1 ∈ gt := gt_at 63 (by decide +kernel) (by decide +kernel)
theorem nw_l_X1_11 : Cond.methodLink RX1 11 yX0_init ∈ gt := gt_at 92 (by decide +kernel) (by decide +kernel)
theorem nw_i_X0_init : Cond.instanceMethod yX0_init ∈ gt := gt_at 93 (by decide +kernel) (by decide +kernel)
theorem nw_n_X0_init : Cond.initialized mX0_init.2.1.cls ∈ gt := gt_at 63 (by decide +kernel) (by decide +kernel)
theorem nw_c_X0_init : cdW mX0_init ∈ gt := gt_at 94 rfl rfl
theorem nw_m_X0_init : Cond.instanceMethod mX0_init.2.1 ∈ gt ∧ Cond.initialized mX0_init.2.1.cls ∈ gt ∧ cdW mX0_init ∈ gt := ⟨nw_i_X0_init, nw_n_X0_init, nw_c_X0_init⟩
theorem nw_q_X1_18 : Cond.classLink RX1 18 RX3 ∈ gt := gt_at 118 (by decide +kernel) (by decide +kernel)
theorem nw_k_X1_18 : Cond.classLink RX1 18 (clC 3).1 ∈ gt := gt_at 118 (by decide +kernel) (by decide +kernel)
theorem nw_b_3 : Cond.instantiable (clC 3).1 (clC 3).2.2 ∈ gt := gt_at 120 (by decide +kernel) (by decide +kernel)
theorem nw_d_3 : Cond.initialized (clC 3).1 ∈ gt := gt_at 64 (by decide +kernel) (by decide +kernel)
theorem nw_i_X3_init : Cond.instanceMethod yX3_init ∈ gt := gt_at 122 (by decide +kernel) (by decide +kernel)
theorem nw_n_X3_init : Cond.initialized mX3_init.2.1.cls ∈ gt := gt_at 64 (by decide +kernel) (by decide +kernel)
theorem nw_c_X3_init : cdW mX3_init ∈ gt := gt_at 123 rfl rfl
theorem nw_m_X3_init : Cond.instanceMethod mX3_init.2.1 ∈ gt ∧ Cond.initialized mX3_init.2.1.cls ∈ gt ∧ cdW mX3_init ∈ gt := ⟨nw_i_X3_init, nw_n_X3_init, nw_c_X3_init⟩
set_option maxRecDepth 100000 in
set_option maxHeartbeats 4000000 in
theorem nv_X1 (D : va_G) (h0 : Nat) : EvN D mX1_init 11 85 h0 [(h0, .inr (1, [.null, .null, .int 0, .int 0, .int 0, .int 0, .null]))] (fun w t => ∃ (qc qr qt : Nat) (rr : Nat → Nat) (f : Nat → Option Nat) (cR cI : ClassId), w = [(h0, .inr (1, [.ref qc, .ref qr, .int 0, .int 0, .int 0, .int 1, .ref qt])), (qc, .inr (0, [.int 0, .int 0, .int 1, .int 20, .int 60])), (qr, .inl (cR, 8, .inr (.inr (.inr (.inr (f)))))), ((rr 0), .inr (3, [.int 0, .int 0, .int 0, .int 0, .int 0, .int 0, .int 0])), ((rr 1), .inr (3, [.int 0, .int 0, .int 0, .int 0, .int 0, .int 0, .int 0])), ((rr 2), .inr (3, [.int 0, .int 0, .int 0, .int 0, .int 0, .int 0, .int 0])), ((rr 3), .inr (3, [.int 0, .int 0, .int 0, .int 0, .int 0, .int 0, .int 0])), ((rr 4), .inr (3, [.int 0, .int 0, .int 0, .int 0, .int 0, .int 0, .int 0])), ((rr 5), .inr (3, [.int 0, .int 0, .int 0, .int 0, .int 0, .int 0, .int 0])), ((rr 6), .inr (3, [.int 0, .int 0, .int 0, .int 0, .int 0, .int 0, .int 0])), ((rr 7), .inr (3, [.int 0, .int 0, .int 0, .int 0, .int 0, .int 0, .int 0])), (qt, .inl (cI, 16, .inl (fun _ => 0)))] ∧ (∀ j, j < 8 → f j = some (rr j)) ∧ t = [(cR, .object RX3), (cI, .int)]) := by
  refine EvN.of (L := [some (.ref h0), none]) (by decide) (by decide) rfl rfl rfl ?_
  refine n_aload dX1_init_0 rfl ?_
  refine n_objInit dX1_init_1 nw_l_X1_3 nw_oi nw_oc rfl ?_
  refine n_aload dX1_init_4 rfl ?_
  refine n_new (ci := 0) (ty := tyX0) (fs := [.int 0, .int 0, .int 0, .int 0, .int 0]) dX1_init_5 nw_k_X1_9 (by decide) nw_b_0 nw_d_0 tyX0_ok (fun j hj => by
    have hj2 : j < 5 := hj
    rcases (show j = 0 ∨ j = 1 ∨ j = 2 ∨ j = 3 ∨ j = 4 by omega) with rfl | rfl | rfl | rfl | rfl <;> rfl) (by decide) (fun q1 => ?_)
  dsimp only [List.set, List.cons_append, List.nil_append, List.append_assoc]
  refine n_dup dX1_init_8 rfl ?_
  refine n_call (wr := [(h0, .inr (1, [.null, .null, .int 0, .int 0, .int 0, .int 0, .null]))]) (j := 1) [0] dX1_init_9 nw_l_X1_11 nw_m_X0_init (by decide +kernel) rfl rfl rfl (nv_X0 D q1) rfl rfl (by decide) (by decide) (Nat.le_of_ble_eq_true rfl) (by decide) (fun w1 t1 hp2 => ?_)
  obtain ⟨rfl, rfl⟩ := hp2
  dsimp only [List.set, List.cons_append, List.nil_append, List.append_assoc]
  refine n_putF (q0 := 0) dX1_init_12 fl_X1_12 (by decide) (by decide) rfl rfl (by decide +kernel : parseFieldDescriptor ((clC 1).2.1 0).2.2.1 = some (tyX1 0)) rfl rfl rfl (Nat.le_of_ble_eq_true rfl) ?_
  dsimp only [List.set, List.cons_append, List.nil_append, List.append_assoc]
  refine n_aload dX1_init_15 rfl ?_
  refine n_bipush dX1_init_16 (v := 8) (by decide) ?_
  refine n_newq (C0 := RX3) (N' := 8) dX1_init_18 nw_q_X1_18 (Or.inl rfl) (by decide) (by decide) (by decide) (by decide) (fun q4 cA5 => ?_)
  dsimp only [List.set, List.cons_append, List.nil_append, List.append_assoc]
  refine n_putF (q0 := 0) dX1_init_21 fl_X1_20 (by decide) (by decide) rfl rfl (by decide +kernel : parseFieldDescriptor ((clC 1).2.1 1).2.2.1 = some (tyX1 1)) rfl rfl rfl (Nat.le_of_ble_eq_true rfl) ?_
  dsimp only [List.set, List.cons_append, List.nil_append, List.append_assoc]
  refine n_iconst dX1_init_24 (v := 0) (by decide) ?_
  refine n_istore dX1_init_25 (by decide) rfl rfl ?_
  dsimp only [List.set]
  refine n_iload dX1_init_26 rfl ?_
  refine n_bipush dX1_init_27 (v := 8) (by decide) ?_
  refine n_icmpF (t := 51) dX1_init_29 (by decide) (by decide) ?_
  refine n_aload dX1_init_32 rfl ?_
  refine n_get (q0 := 0) dX1_init_33 fl_X1_20 (by decide) (by decide) rfl rfl ?_
  refine n_iload dX1_init_36 rfl ?_
  refine n_new (ci := 3) (ty := tyX3) (fs := [.int 0, .int 0, .int 0, .int 0, .int 0, .int 0, .int 0]) dX1_init_37 nw_k_X1_18 (by decide) nw_b_3 nw_d_3 tyX3_ok (fun j hj => by
    have hj2 : j < 7 := hj
    rcases (show j = 0 ∨ j = 1 ∨ j = 2 ∨ j = 3 ∨ j = 4 ∨ j = 5 ∨ j = 6 by omega) with rfl | rfl | rfl | rfl | rfl | rfl | rfl <;> rfl) (by decide) (fun q6 => ?_)
  dsimp only [List.set, List.cons_append, List.nil_append, List.append_assoc]
  refine n_dup dX1_init_40 rfl ?_
  refine n_callN (wr := [(h0, .inr (1, [.ref q1, .ref q4, .int 0, .int 0, .int 0, .int 0, .null])), (q1, .inr (0, [.int 0, .int 0, .int 1, .int 20, .int 60])), (q4, .inl (cA5, 8, .inr (.inr (.inr (.inr (fun _ => none))))))]) (j := 3) [0, 1, 2] dX1_init_41 rfl nw_m_X3_init (by decide +kernel) rfl rfl rfl (nv_X3 D q6) rfl rfl (by decide) (by decide) (Nat.le_of_ble_eq_true rfl) (by decide) (fun w1 t1 hp7 => ?_)
  obtain ⟨rfl, rfl⟩ := hp7
  dsimp only [List.set, List.cons_append, List.nil_append, List.append_assoc]
  refine n_astq (q0 := 2) (t0 := 0) (qk := 3) (ci := 3) dX1_init_44 (by decide) rfl rfl rfl (vp_in_nI (n := 0) (N := 8) (by decide) (by decide)) ?_
  dsimp only [List.set, List.cons_append, List.nil_append, List.append_assoc]
  refine n_iinc dX1_init_45 rfl (v := 1) (by decide) (by decide) rfl rfl ?_
  dsimp only [List.set]
  refine n_goto (t := 26) dX1_init_48 (by decide) ?_
  refine n_iload dX1_init_26 rfl ?_
  refine n_bipush dX1_init_27 (v := 8) (by decide) ?_
  refine n_icmpF (t := 51) dX1_init_29 (by decide) (by decide) ?_
  refine n_aload dX1_init_32 rfl ?_
  refine n_get (q0 := 0) dX1_init_33 fl_X1_20 (by decide) (by decide) rfl rfl ?_
  refine n_iload dX1_init_36 rfl ?_
  refine n_new (ci := 3) (ty := tyX3) (fs := [.int 0, .int 0, .int 0, .int 0, .int 0, .int 0, .int 0]) dX1_init_37 nw_k_X1_18 (by decide) nw_b_3 nw_d_3 tyX3_ok (fun j hj => by
    have hj2 : j < 7 := hj
    rcases (show j = 0 ∨ j = 1 ∨ j = 2 ∨ j = 3 ∨ j = 4 ∨ j = 5 ∨ j = 6 by omega) with rfl | rfl | rfl | rfl | rfl | rfl | rfl <;> rfl) (by decide) (fun q9 => ?_)
  dsimp only [List.set, List.cons_append, List.nil_append, List.append_assoc]
  refine n_dup dX1_init_40 rfl ?_
  refine n_callN (wr := [(h0, .inr (1, [.ref q1, .ref q4, .int 0, .int 0, .int 0, .int 0, .null])), (q1, .inr (0, [.int 0, .int 0, .int 1, .int 20, .int 60])), (q4, .inl (cA5, 8, .inr (.inr (.inr (.inr (va_up (fun _ => none) (Int32.toNatClampNeg 0) (some q6))))))), (q6, .inr (3, [.int 0, .int 0, .int 0, .int 0, .int 0, .int 0, .int 0]))]) (j := 4) [0, 1, 2, 3] dX1_init_41 rfl nw_m_X3_init (by decide +kernel) rfl rfl rfl (nv_X3 D q9) rfl rfl (by decide) (by decide) (Nat.le_of_ble_eq_true rfl) (by decide) (fun w1 t1 hp10 => ?_)
  obtain ⟨rfl, rfl⟩ := hp10
  dsimp only [List.set, List.cons_append, List.nil_append, List.append_assoc]
  refine n_astq (q0 := 2) (t0 := 0) (qk := 4) (ci := 3) dX1_init_44 (by decide) rfl rfl rfl (vp_in_nI (n := 1) (N := 8) (by decide) (by decide)) ?_
  dsimp only [List.set, List.cons_append, List.nil_append, List.append_assoc]
  refine n_iinc dX1_init_45 rfl (v := 2) (by decide) (by decide) rfl rfl ?_
  dsimp only [List.set]
  refine n_goto (t := 26) dX1_init_48 (by decide) ?_
  refine n_iload dX1_init_26 rfl ?_
  refine n_bipush dX1_init_27 (v := 8) (by decide) ?_
  refine n_icmpF (t := 51) dX1_init_29 (by decide) (by decide) ?_
  refine n_aload dX1_init_32 rfl ?_
  refine n_get (q0 := 0) dX1_init_33 fl_X1_20 (by decide) (by decide) rfl rfl ?_
  refine n_iload dX1_init_36 rfl ?_
  refine n_new (ci := 3) (ty := tyX3) (fs := [.int 0, .int 0, .int 0, .int 0, .int 0, .int 0, .int 0]) dX1_init_37 nw_k_X1_18 (by decide) nw_b_3 nw_d_3 tyX3_ok (fun j hj => by
    have hj2 : j < 7 := hj
    rcases (show j = 0 ∨ j = 1 ∨ j = 2 ∨ j = 3 ∨ j = 4 ∨ j = 5 ∨ j = 6 by omega) with rfl | rfl | rfl | rfl | rfl | rfl | rfl <;> rfl) (by decide) (fun q12 => ?_)
  dsimp only [List.set, List.cons_append, List.nil_append, List.append_assoc]
  refine n_dup dX1_init_40 rfl ?_
  refine n_callN (wr := [(h0, .inr (1, [.ref q1, .ref q4, .int 0, .int 0, .int 0, .int 0, .null])), (q1, .inr (0, [.int 0, .int 0, .int 1, .int 20, .int 60])), (q4, .inl (cA5, 8, .inr (.inr (.inr (.inr (va_up (va_up (fun _ => none) (Int32.toNatClampNeg 0) (some q6)) (Int32.toNatClampNeg 1) (some q9))))))), (q6, .inr (3, [.int 0, .int 0, .int 0, .int 0, .int 0, .int 0, .int 0])), (q9, .inr (3, [.int 0, .int 0, .int 0, .int 0, .int 0, .int 0, .int 0]))]) (j := 5) [0, 1, 2, 3, 4] dX1_init_41 rfl nw_m_X3_init (by decide +kernel) rfl rfl rfl (nv_X3 D q12) rfl rfl (by decide) (by decide) (Nat.le_of_ble_eq_true rfl) (by decide) (fun w1 t1 hp13 => ?_)
  obtain ⟨rfl, rfl⟩ := hp13
  dsimp only [List.set, List.cons_append, List.nil_append, List.append_assoc]
  refine n_astq (q0 := 2) (t0 := 0) (qk := 5) (ci := 3) dX1_init_44 (by decide) rfl rfl rfl (vp_in_nI (n := 2) (N := 8) (by decide) (by decide)) ?_
  dsimp only [List.set, List.cons_append, List.nil_append, List.append_assoc]
  refine n_iinc dX1_init_45 rfl (v := 3) (by decide) (by decide) rfl rfl ?_
  dsimp only [List.set]
  refine n_goto (t := 26) dX1_init_48 (by decide) ?_
  refine n_iload dX1_init_26 rfl ?_
  refine n_bipush dX1_init_27 (v := 8) (by decide) ?_
  refine n_icmpF (t := 51) dX1_init_29 (by decide) (by decide) ?_
  refine n_aload dX1_init_32 rfl ?_
  refine n_get (q0 := 0) dX1_init_33 fl_X1_20 (by decide) (by decide) rfl rfl ?_
  refine n_iload dX1_init_36 rfl ?_
  refine n_new (ci := 3) (ty := tyX3) (fs := [.int 0, .int 0, .int 0, .int 0, .int 0, .int 0, .int 0]) dX1_init_37 nw_k_X1_18 (by decide) nw_b_3 nw_d_3 tyX3_ok (fun j hj => by
    have hj2 : j < 7 := hj
    rcases (show j = 0 ∨ j = 1 ∨ j = 2 ∨ j = 3 ∨ j = 4 ∨ j = 5 ∨ j = 6 by omega) with rfl | rfl | rfl | rfl | rfl | rfl | rfl <;> rfl) (by decide) (fun q15 => ?_)
  dsimp only [List.set, List.cons_append, List.nil_append, List.append_assoc]
  refine n_dup dX1_init_40 rfl ?_
  refine n_callN (wr := [(h0, .inr (1, [.ref q1, .ref q4, .int 0, .int 0, .int 0, .int 0, .null])), (q1, .inr (0, [.int 0, .int 0, .int 1, .int 20, .int 60])), (q4, .inl (cA5, 8, .inr (.inr (.inr (.inr (va_up (va_up (va_up (fun _ => none) (Int32.toNatClampNeg 0) (some q6)) (Int32.toNatClampNeg 1) (some q9)) (Int32.toNatClampNeg 2) (some q12))))))), (q6, .inr (3, [.int 0, .int 0, .int 0, .int 0, .int 0, .int 0, .int 0])), (q9, .inr (3, [.int 0, .int 0, .int 0, .int 0, .int 0, .int 0, .int 0])), (q12, .inr (3, [.int 0, .int 0, .int 0, .int 0, .int 0, .int 0, .int 0]))]) (j := 6) [0, 1, 2, 3, 4, 5] dX1_init_41 rfl nw_m_X3_init (by decide +kernel) rfl rfl rfl (nv_X3 D q15) rfl rfl (by decide) (by decide) (Nat.le_of_ble_eq_true rfl) (by decide) (fun w1 t1 hp16 => ?_)
  obtain ⟨rfl, rfl⟩ := hp16
  dsimp only [List.set, List.cons_append, List.nil_append, List.append_assoc]
  refine n_astq (q0 := 2) (t0 := 0) (qk := 6) (ci := 3) dX1_init_44 (by decide) rfl rfl rfl (vp_in_nI (n := 3) (N := 8) (by decide) (by decide)) ?_
  dsimp only [List.set, List.cons_append, List.nil_append, List.append_assoc]
  refine n_iinc dX1_init_45 rfl (v := 4) (by decide) (by decide) rfl rfl ?_
  dsimp only [List.set]
  refine n_goto (t := 26) dX1_init_48 (by decide) ?_
  refine n_iload dX1_init_26 rfl ?_
  refine n_bipush dX1_init_27 (v := 8) (by decide) ?_
  refine n_icmpF (t := 51) dX1_init_29 (by decide) (by decide) ?_
  refine n_aload dX1_init_32 rfl ?_
  refine n_get (q0 := 0) dX1_init_33 fl_X1_20 (by decide) (by decide) rfl rfl ?_
  refine n_iload dX1_init_36 rfl ?_
  refine n_new (ci := 3) (ty := tyX3) (fs := [.int 0, .int 0, .int 0, .int 0, .int 0, .int 0, .int 0]) dX1_init_37 nw_k_X1_18 (by decide) nw_b_3 nw_d_3 tyX3_ok (fun j hj => by
    have hj2 : j < 7 := hj
    rcases (show j = 0 ∨ j = 1 ∨ j = 2 ∨ j = 3 ∨ j = 4 ∨ j = 5 ∨ j = 6 by omega) with rfl | rfl | rfl | rfl | rfl | rfl | rfl <;> rfl) (by decide) (fun q18 => ?_)
  dsimp only [List.set, List.cons_append, List.nil_append, List.append_assoc]
  refine n_dup dX1_init_40 rfl ?_
  refine n_callN (wr := [(h0, .inr (1, [.ref q1, .ref q4, .int 0, .int 0, .int 0, .int 0, .null])), (q1, .inr (0, [.int 0, .int 0, .int 1, .int 20, .int 60])), (q4, .inl (cA5, 8, .inr (.inr (.inr (.inr (va_up (va_up (va_up (va_up (fun _ => none) (Int32.toNatClampNeg 0) (some q6)) (Int32.toNatClampNeg 1) (some q9)) (Int32.toNatClampNeg 2) (some q12)) (Int32.toNatClampNeg 3) (some q15))))))), (q6, .inr (3, [.int 0, .int 0, .int 0, .int 0, .int 0, .int 0, .int 0])), (q9, .inr (3, [.int 0, .int 0, .int 0, .int 0, .int 0, .int 0, .int 0])), (q12, .inr (3, [.int 0, .int 0, .int 0, .int 0, .int 0, .int 0, .int 0])), (q15, .inr (3, [.int 0, .int 0, .int 0, .int 0, .int 0, .int 0, .int 0]))]) (j := 7) [0, 1, 2, 3, 4, 5, 6] dX1_init_41 rfl nw_m_X3_init (by decide +kernel) rfl rfl rfl (nv_X3 D q18) rfl rfl (by decide) (by decide) (Nat.le_of_ble_eq_true rfl) (by decide) (fun w1 t1 hp19 => ?_)
  obtain ⟨rfl, rfl⟩ := hp19
  dsimp only [List.set, List.cons_append, List.nil_append, List.append_assoc]
  refine n_astq (q0 := 2) (t0 := 0) (qk := 7) (ci := 3) dX1_init_44 (by decide) rfl rfl rfl (vp_in_nI (n := 4) (N := 8) (by decide) (by decide)) ?_
  dsimp only [List.set, List.cons_append, List.nil_append, List.append_assoc]
  refine n_iinc dX1_init_45 rfl (v := 5) (by decide) (by decide) rfl rfl ?_
  dsimp only [List.set]
  refine n_goto (t := 26) dX1_init_48 (by decide) ?_
  refine n_iload dX1_init_26 rfl ?_
  refine n_bipush dX1_init_27 (v := 8) (by decide) ?_
  refine n_icmpF (t := 51) dX1_init_29 (by decide) (by decide) ?_
  refine n_aload dX1_init_32 rfl ?_
  refine n_get (q0 := 0) dX1_init_33 fl_X1_20 (by decide) (by decide) rfl rfl ?_
  refine n_iload dX1_init_36 rfl ?_
  refine n_new (ci := 3) (ty := tyX3) (fs := [.int 0, .int 0, .int 0, .int 0, .int 0, .int 0, .int 0]) dX1_init_37 nw_k_X1_18 (by decide) nw_b_3 nw_d_3 tyX3_ok (fun j hj => by
    have hj2 : j < 7 := hj
    rcases (show j = 0 ∨ j = 1 ∨ j = 2 ∨ j = 3 ∨ j = 4 ∨ j = 5 ∨ j = 6 by omega) with rfl | rfl | rfl | rfl | rfl | rfl | rfl <;> rfl) (by decide) (fun q21 => ?_)
  dsimp only [List.set, List.cons_append, List.nil_append, List.append_assoc]
  refine n_dup dX1_init_40 rfl ?_
  refine n_callN (wr := [(h0, .inr (1, [.ref q1, .ref q4, .int 0, .int 0, .int 0, .int 0, .null])), (q1, .inr (0, [.int 0, .int 0, .int 1, .int 20, .int 60])), (q4, .inl (cA5, 8, .inr (.inr (.inr (.inr (va_up (va_up (va_up (va_up (va_up (fun _ => none) (Int32.toNatClampNeg 0) (some q6)) (Int32.toNatClampNeg 1) (some q9)) (Int32.toNatClampNeg 2) (some q12)) (Int32.toNatClampNeg 3) (some q15)) (Int32.toNatClampNeg 4) (some q18))))))), (q6, .inr (3, [.int 0, .int 0, .int 0, .int 0, .int 0, .int 0, .int 0])), (q9, .inr (3, [.int 0, .int 0, .int 0, .int 0, .int 0, .int 0, .int 0])), (q12, .inr (3, [.int 0, .int 0, .int 0, .int 0, .int 0, .int 0, .int 0])), (q15, .inr (3, [.int 0, .int 0, .int 0, .int 0, .int 0, .int 0, .int 0])), (q18, .inr (3, [.int 0, .int 0, .int 0, .int 0, .int 0, .int 0, .int 0]))]) (j := 8) [0, 1, 2, 3, 4, 5, 6, 7] dX1_init_41 rfl nw_m_X3_init (by decide +kernel) rfl rfl rfl (nv_X3 D q21) rfl rfl (by decide) (by decide) (Nat.le_of_ble_eq_true rfl) (by decide) (fun w1 t1 hp22 => ?_)
  obtain ⟨rfl, rfl⟩ := hp22
  dsimp only [List.set, List.cons_append, List.nil_append, List.append_assoc]
  refine n_astq (q0 := 2) (t0 := 0) (qk := 8) (ci := 3) dX1_init_44 (by decide) rfl rfl rfl (vp_in_nI (n := 5) (N := 8) (by decide) (by decide)) ?_
  dsimp only [List.set, List.cons_append, List.nil_append, List.append_assoc]
  refine n_iinc dX1_init_45 rfl (v := 6) (by decide) (by decide) rfl rfl ?_
  dsimp only [List.set]
  refine n_goto (t := 26) dX1_init_48 (by decide) ?_
  refine n_iload dX1_init_26 rfl ?_
  refine n_bipush dX1_init_27 (v := 8) (by decide) ?_
  refine n_icmpF (t := 51) dX1_init_29 (by decide) (by decide) ?_
  refine n_aload dX1_init_32 rfl ?_
  refine n_get (q0 := 0) dX1_init_33 fl_X1_20 (by decide) (by decide) rfl rfl ?_
  refine n_iload dX1_init_36 rfl ?_
  refine n_new (ci := 3) (ty := tyX3) (fs := [.int 0, .int 0, .int 0, .int 0, .int 0, .int 0, .int 0]) dX1_init_37 nw_k_X1_18 (by decide) nw_b_3 nw_d_3 tyX3_ok (fun j hj => by
    have hj2 : j < 7 := hj
    rcases (show j = 0 ∨ j = 1 ∨ j = 2 ∨ j = 3 ∨ j = 4 ∨ j = 5 ∨ j = 6 by omega) with rfl | rfl | rfl | rfl | rfl | rfl | rfl <;> rfl) (by decide) (fun q24 => ?_)
  dsimp only [List.set, List.cons_append, List.nil_append, List.append_assoc]
  refine n_dup dX1_init_40 rfl ?_
  refine n_callN (wr := [(h0, .inr (1, [.ref q1, .ref q4, .int 0, .int 0, .int 0, .int 0, .null])), (q1, .inr (0, [.int 0, .int 0, .int 1, .int 20, .int 60])), (q4, .inl (cA5, 8, .inr (.inr (.inr (.inr (va_up (va_up (va_up (va_up (va_up (va_up (fun _ => none) (Int32.toNatClampNeg 0) (some q6)) (Int32.toNatClampNeg 1) (some q9)) (Int32.toNatClampNeg 2) (some q12)) (Int32.toNatClampNeg 3) (some q15)) (Int32.toNatClampNeg 4) (some q18)) (Int32.toNatClampNeg 5) (some q21))))))), (q6, .inr (3, [.int 0, .int 0, .int 0, .int 0, .int 0, .int 0, .int 0])), (q9, .inr (3, [.int 0, .int 0, .int 0, .int 0, .int 0, .int 0, .int 0])), (q12, .inr (3, [.int 0, .int 0, .int 0, .int 0, .int 0, .int 0, .int 0])), (q15, .inr (3, [.int 0, .int 0, .int 0, .int 0, .int 0, .int 0, .int 0])), (q18, .inr (3, [.int 0, .int 0, .int 0, .int 0, .int 0, .int 0, .int 0])), (q21, .inr (3, [.int 0, .int 0, .int 0, .int 0, .int 0, .int 0, .int 0]))]) (j := 9) [0, 1, 2, 3, 4, 5, 6, 7, 8] dX1_init_41 rfl nw_m_X3_init (by decide +kernel) rfl rfl rfl (nv_X3 D q24) rfl rfl (by decide) (by decide) (Nat.le_of_ble_eq_true rfl) (by decide) (fun w1 t1 hp25 => ?_)
  obtain ⟨rfl, rfl⟩ := hp25
  dsimp only [List.set, List.cons_append, List.nil_append, List.append_assoc]
  refine n_astq (q0 := 2) (t0 := 0) (qk := 9) (ci := 3) dX1_init_44 (by decide) rfl rfl rfl (vp_in_nI (n := 6) (N := 8) (by decide) (by decide)) ?_
  dsimp only [List.set, List.cons_append, List.nil_append, List.append_assoc]
  refine n_iinc dX1_init_45 rfl (v := 7) (by decide) (by decide) rfl rfl ?_
  dsimp only [List.set]
  refine n_goto (t := 26) dX1_init_48 (by decide) ?_
  refine n_iload dX1_init_26 rfl ?_
  refine n_bipush dX1_init_27 (v := 8) (by decide) ?_
  refine n_icmpF (t := 51) dX1_init_29 (by decide) (by decide) ?_
  refine n_aload dX1_init_32 rfl ?_
  refine n_get (q0 := 0) dX1_init_33 fl_X1_20 (by decide) (by decide) rfl rfl ?_
  refine n_iload dX1_init_36 rfl ?_
  refine n_new (ci := 3) (ty := tyX3) (fs := [.int 0, .int 0, .int 0, .int 0, .int 0, .int 0, .int 0]) dX1_init_37 nw_k_X1_18 (by decide) nw_b_3 nw_d_3 tyX3_ok (fun j hj => by
    have hj2 : j < 7 := hj
    rcases (show j = 0 ∨ j = 1 ∨ j = 2 ∨ j = 3 ∨ j = 4 ∨ j = 5 ∨ j = 6 by omega) with rfl | rfl | rfl | rfl | rfl | rfl | rfl <;> rfl) (by decide) (fun q27 => ?_)
  dsimp only [List.set, List.cons_append, List.nil_append, List.append_assoc]
  refine n_dup dX1_init_40 rfl ?_
  refine n_callN (wr := [(h0, .inr (1, [.ref q1, .ref q4, .int 0, .int 0, .int 0, .int 0, .null])), (q1, .inr (0, [.int 0, .int 0, .int 1, .int 20, .int 60])), (q4, .inl (cA5, 8, .inr (.inr (.inr (.inr (va_up (va_up (va_up (va_up (va_up (va_up (va_up (fun _ => none) (Int32.toNatClampNeg 0) (some q6)) (Int32.toNatClampNeg 1) (some q9)) (Int32.toNatClampNeg 2) (some q12)) (Int32.toNatClampNeg 3) (some q15)) (Int32.toNatClampNeg 4) (some q18)) (Int32.toNatClampNeg 5) (some q21)) (Int32.toNatClampNeg 6) (some q24))))))), (q6, .inr (3, [.int 0, .int 0, .int 0, .int 0, .int 0, .int 0, .int 0])), (q9, .inr (3, [.int 0, .int 0, .int 0, .int 0, .int 0, .int 0, .int 0])), (q12, .inr (3, [.int 0, .int 0, .int 0, .int 0, .int 0, .int 0, .int 0])), (q15, .inr (3, [.int 0, .int 0, .int 0, .int 0, .int 0, .int 0, .int 0])), (q18, .inr (3, [.int 0, .int 0, .int 0, .int 0, .int 0, .int 0, .int 0])), (q21, .inr (3, [.int 0, .int 0, .int 0, .int 0, .int 0, .int 0, .int 0])), (q24, .inr (3, [.int 0, .int 0, .int 0, .int 0, .int 0, .int 0, .int 0]))]) (j := 10) [0, 1, 2, 3, 4, 5, 6, 7, 8, 9] dX1_init_41 rfl nw_m_X3_init (by decide +kernel) rfl rfl rfl (nv_X3 D q27) rfl rfl (by decide) (by decide) (Nat.le_of_ble_eq_true rfl) (by decide) (fun w1 t1 hp28 => ?_)
  obtain ⟨rfl, rfl⟩ := hp28
  dsimp only [List.set, List.cons_append, List.nil_append, List.append_assoc]
  refine n_astq (q0 := 2) (t0 := 0) (qk := 10) (ci := 3) dX1_init_44 (by decide) rfl rfl rfl (vp_in_nI (n := 7) (N := 8) (by decide) (by decide)) ?_
  dsimp only [List.set, List.cons_append, List.nil_append, List.append_assoc]
  refine n_iinc dX1_init_45 rfl (v := 8) (by decide) (by decide) rfl rfl ?_
  dsimp only [List.set]
  refine n_goto (t := 26) dX1_init_48 (by decide) ?_
  refine n_iload dX1_init_26 rfl ?_
  refine n_bipush dX1_init_27 (v := 8) (by decide) ?_
  refine n_icmpT (t := 51) dX1_init_29 (by decide) (by decide) ?_
  refine n_aload dX1_init_51 rfl ?_
  refine n_iconst dX1_init_52 (v := 0) (by decide) ?_
  refine n_put (ty := .int) (q0 := 0) dX1_init_53 fl_X1_25 (by decide) (by decide) rfl (by decide +kernel) rfl rfl rfl (Nat.le_of_ble_eq_true rfl) ?_
  dsimp only [List.set, List.cons_append, List.nil_append, List.append_assoc]
  refine n_aload dX1_init_56 rfl ?_
  refine n_iconst dX1_init_57 (v := 0) (by decide) ?_
  refine n_put (ty := .int) (q0 := 0) dX1_init_58 fl_X1_29 (by decide) (by decide) rfl (by decide +kernel) rfl rfl rfl (Nat.le_of_ble_eq_true rfl) ?_
  dsimp only [List.set, List.cons_append, List.nil_append, List.append_assoc]
  refine n_aload dX1_init_61 rfl ?_
  refine n_iconst dX1_init_62 (v := 0) (by decide) ?_
  refine n_put (ty := .int) (q0 := 0) dX1_init_63 fl_X1_32 (by decide) (by decide) rfl (by decide +kernel) rfl rfl rfl (Nat.le_of_ble_eq_true rfl) ?_
  dsimp only [List.set, List.cons_append, List.nil_append, List.append_assoc]
  refine n_aload dX1_init_66 rfl ?_
  refine n_iconst dX1_init_67 (v := 1) (by decide) ?_
  refine n_put (ty := .int) (q0 := 0) dX1_init_68 fl_X1_35 (by decide) (by decide) rfl (by decide +kernel) rfl rfl rfl (Nat.le_of_ble_eq_true rfl) ?_
  dsimp only [List.set, List.cons_append, List.nil_append, List.append_assoc]
  refine n_aload dX1_init_71 rfl ?_
  refine n_bipush dX1_init_72 (v := 16) (by decide) ?_
  refine n_newa (ty := .int) (N' := 16) (a0 := (16, .inl (fun _ => 0))) dX1_init_74 nw_a_int rfl (fun _ => rfl) (by decide) (by decide) (by decide) (by decide) (fun q30 cA31 => ?_)
  dsimp only [List.set, List.cons_append, List.nil_append, List.append_assoc]
  refine n_putF (q0 := 0) dX1_init_76 fl_X1_38 (by decide) (by decide) rfl rfl (by decide +kernel : parseFieldDescriptor ((clC 1).2.1 6).2.2.1 = some (tyX1 6)) rfl rfl rfl (Nat.le_of_ble_eq_true rfl) ?_
  dsimp only [List.set, List.cons_append, List.nil_append, List.append_assoc]
  refine n_vret dX1_init_79 rfl rfl rfl ?_
  refine ⟨q1, q4, q30, fun j => [q6, q9, q12, q15, q18, q21, q24, q27].getD j 0, _, cA5, cA31, rfl, ?_, rfl⟩
  intro j hj
  rcases (show j = 0 ∨ j = 1 ∨ j = 2 ∨ j = 3 ∨ j = 4 ∨ j = 5 ∨ j = 6 ∨ j = 7 by omega) with rfl | rfl | rfl | rfl | rfl | rfl | rfl | rfl <;> rfl
theorem nw_l_X6_1 : Cond.methodLink RX6 1 Lib.objectInit ∈ gt := gt_at 81 (by decide +kernel) (by decide +kernel)
theorem nw_k_X6_7 : Cond.classLink RX6 7 (clC 1).1 ∈ gt := gt_at 84 (by decide +kernel) (by decide +kernel)
theorem nw_b_1 : Cond.instantiable (clC 1).1 (clC 1).2.2 ∈ gt := gt_at 85 (by decide +kernel) (by decide +kernel)
theorem nw_d_1 : Cond.initialized (clC 1).1 ∈ gt := gt_at 62 (by decide +kernel) (by decide +kernel)
theorem nw_l_X6_9 : Cond.methodLink RX6 9 yX1_init ∈ gt := gt_at 86 (by decide +kernel) (by decide +kernel)
theorem nw_i_X1_init : Cond.instanceMethod yX1_init ∈ gt := gt_at 87 (by decide +kernel) (by decide +kernel)
theorem nw_n_X1_init : Cond.initialized mX1_init.2.1.cls ∈ gt := gt_at 62 (by decide +kernel) (by decide +kernel)
theorem nw_c_X1_init : cdW mX1_init ∈ gt := gt_at 88 rfl rfl
theorem nw_m_X1_init : Cond.instanceMethod mX1_init.2.1 ∈ gt ∧ Cond.initialized mX1_init.2.1.cls ∈ gt ∧ cdW mX1_init ∈ gt := ⟨nw_i_X1_init, nw_n_X1_init, nw_c_X1_init⟩
theorem nw_k_X6_26 : Cond.classLink RX6 26 (clC 2).1 ∈ gt := gt_at 189 (by decide +kernel) (by decide +kernel)
theorem nw_b_2 : Cond.instantiable (clC 2).1 (clC 2).2.2 ∈ gt := gt_at 190 (by decide +kernel) (by decide +kernel)
theorem nw_d_2 : Cond.initialized (clC 2).1 ∈ gt := gt_at 65 (by decide +kernel) (by decide +kernel)
theorem nw_l_X6_28 : Cond.methodLink RX6 28 yX2_init ∈ gt := gt_at 191 (by decide +kernel) (by decide +kernel)
theorem nw_i_X2_init : Cond.instanceMethod yX2_init ∈ gt := gt_at 192 (by decide +kernel) (by decide +kernel)
theorem nw_n_X2_init : Cond.initialized mX2_init.2.1.cls ∈ gt := gt_at 65 (by decide +kernel) (by decide +kernel)
theorem nw_c_X2_init : cdW mX2_init ∈ gt := gt_at 193 rfl rfl
theorem nw_m_X2_init : Cond.instanceMethod mX2_init.2.1 ∈ gt ∧ Cond.initialized mX2_init.2.1.cls ∈ gt ∧ cdW mX2_init ∈ gt := ⟨nw_i_X2_init, nw_n_X2_init, nw_c_X2_init⟩
theorem nw_q_X6_33 : Cond.classLink RX6 33 RX4 ∈ gt := gt_at 228 (by decide +kernel) (by decide +kernel)
theorem nw_k_X6_33 : Cond.classLink RX6 33 (clC 4).1 ∈ gt := gt_at 228 (by decide +kernel) (by decide +kernel)
theorem nw_b_4 : Cond.instantiable (clC 4).1 (clC 4).2.2 ∈ gt := gt_at 230 (by decide +kernel) (by decide +kernel)
theorem nw_d_4 : Cond.initialized (clC 4).1 ∈ gt := gt_at 67 (by decide +kernel) (by decide +kernel)
theorem nw_l_X6_39 : Cond.methodLink RX6 39 yX4_init ∈ gt := gt_at 231 (by decide +kernel) (by decide +kernel)
theorem nw_i_X4_init : Cond.instanceMethod yX4_init ∈ gt := gt_at 232 (by decide +kernel) (by decide +kernel)
theorem nw_n_X4_init : Cond.initialized mX4_init.2.1.cls ∈ gt := gt_at 67 (by decide +kernel) (by decide +kernel)
theorem nw_c_X4_init : cdW mX4_init ∈ gt := gt_at 233 rfl rfl
theorem nw_m_X4_init : Cond.instanceMethod mX4_init.2.1 ∈ gt ∧ Cond.initialized mX4_init.2.1.cls ∈ gt ∧ cdW mX4_init ∈ gt := ⟨nw_i_X4_init, nw_n_X4_init, nw_c_X4_init⟩
set_option maxRecDepth 100000 in
set_option maxHeartbeats 4000000 in
theorem nv_X6 (D : va_G) (h0 : Nat) : EvN D mX6_init 49 586 h0 [(h0, .inr (6, [.null, .null, .null, .int 0, .null, .null, .null]))] (fun w t => ∃ (p1 p2 p3 qc1 qr1 qt1 qc2 qr2 qt2 qc3 qr3 qt3 tx tp by_ sa td : Nat) (rr1 rr2 rr3 ss nn : Nat → Nat) (ff1 ff2 ff3 fS : Nat → Option Nat) (cR cI cS cL : ClassId), w = [(h0, .inr (6, [.ref p1, .ref p2, .ref p3, .int 0, .ref tx, .ref sa, .ref td])), (p1, .inr (1, [.ref qc1, .ref qr1, .int 0, .int 0, .int 0, .int 1, .ref qt1])), (qc1, .inr (0, [.int 0, .int 0, .int 1, .int 20, .int 60])), (qr1, .inl (cR, 8, .inr (.inr (.inr (.inr (ff1)))))), ((rr1 0), .inr (3, [.int 0, .int 0, .int 0, .int 0, .int 0, .int 0, .int 0])), ((rr1 1), .inr (3, [.int 0, .int 0, .int 0, .int 0, .int 0, .int 0, .int 0])), ((rr1 2), .inr (3, [.int 0, .int 0, .int 0, .int 0, .int 0, .int 0, .int 0])), ((rr1 3), .inr (3, [.int 0, .int 0, .int 0, .int 0, .int 0, .int 0, .int 0])), ((rr1 4), .inr (3, [.int 0, .int 0, .int 0, .int 0, .int 0, .int 0, .int 0])), ((rr1 5), .inr (3, [.int 0, .int 0, .int 0, .int 0, .int 0, .int 0, .int 0])), ((rr1 6), .inr (3, [.int 0, .int 0, .int 0, .int 0, .int 0, .int 0, .int 0])), ((rr1 7), .inr (3, [.int 0, .int 0, .int 0, .int 0, .int 0, .int 0, .int 0])), (qt1, .inl (cI, 16, .inl (fun _ => 0))), (p2, .inr (1, [.ref qc2, .ref qr2, .int 0, .int 0, .int 0, .int 1, .ref qt2])), (qc2, .inr (0, [.int 0, .int 0, .int 1, .int 20, .int 60])), (qr2, .inl (cR, 8, .inr (.inr (.inr (.inr (ff2)))))), ((rr2 0), .inr (3, [.int 0, .int 0, .int 0, .int 0, .int 0, .int 0, .int 0])), ((rr2 1), .inr (3, [.int 0, .int 0, .int 0, .int 0, .int 0, .int 0, .int 0])), ((rr2 2), .inr (3, [.int 0, .int 0, .int 0, .int 0, .int 0, .int 0, .int 0])), ((rr2 3), .inr (3, [.int 0, .int 0, .int 0, .int 0, .int 0, .int 0, .int 0])), ((rr2 4), .inr (3, [.int 0, .int 0, .int 0, .int 0, .int 0, .int 0, .int 0])), ((rr2 5), .inr (3, [.int 0, .int 0, .int 0, .int 0, .int 0, .int 0, .int 0])), ((rr2 6), .inr (3, [.int 0, .int 0, .int 0, .int 0, .int 0, .int 0, .int 0])), ((rr2 7), .inr (3, [.int 0, .int 0, .int 0, .int 0, .int 0, .int 0, .int 0])), (qt2, .inl (cI, 16, .inl (fun _ => 0))), (p3, .inr (1, [.ref qc3, .ref qr3, .int 0, .int 0, .int 0, .int 1, .ref qt3])), (qc3, .inr (0, [.int 0, .int 0, .int 1, .int 20, .int 60])), (qr3, .inl (cR, 8, .inr (.inr (.inr (.inr (ff3)))))), ((rr3 0), .inr (3, [.int 0, .int 0, .int 0, .int 0, .int 0, .int 0, .int 0])), ((rr3 1), .inr (3, [.int 0, .int 0, .int 0, .int 0, .int 0, .int 0, .int 0])), ((rr3 2), .inr (3, [.int 0, .int 0, .int 0, .int 0, .int 0, .int 0, .int 0])), ((rr3 3), .inr (3, [.int 0, .int 0, .int 0, .int 0, .int 0, .int 0, .int 0])), ((rr3 4), .inr (3, [.int 0, .int 0, .int 0, .int 0, .int 0, .int 0, .int 0])), ((rr3 5), .inr (3, [.int 0, .int 0, .int 0, .int 0, .int 0, .int 0, .int 0])), ((rr3 6), .inr (3, [.int 0, .int 0, .int 0, .int 0, .int 0, .int 0, .int 0])), ((rr3 7), .inr (3, [.int 0, .int 0, .int 0, .int 0, .int 0, .int 0, .int 0])), (qt3, .inl (cI, 16, .inl (fun _ => 0))), (tx, .inr (2, [.ref tp, .int 0, .int 0, .int 0, .int 0])), (tp, .inr (5, [.ref by_, .int 0])), (by_, .inl (cI, 120, .inl (fun _ => 0))), (sa, .inl (cS, 4, .inr (.inr (.inr (.inr (fS)))))), ((ss 0), .inr (4, [.ref (nn 0), .int 0, .int 0])), ((nn 0), .inl (cL, 40, .inr (.inl (fun _ => 0)))), ((ss 1), .inr (4, [.ref (nn 1), .int 0, .int 0])), ((nn 1), .inl (cL, 40, .inr (.inl (fun _ => 0)))), ((ss 2), .inr (4, [.ref (nn 2), .int 0, .int 0])), ((nn 2), .inl (cL, 40, .inr (.inl (fun _ => 0)))), ((ss 3), .inr (4, [.ref (nn 3), .int 0, .int 0])), ((nn 3), .inl (cL, 40, .inr (.inl (fun _ => 0)))), (td, .inl (cI, 7, .inl (fun _ => 0)))] ∧ (∀ j, j < 8 → ff1 j = some (rr1 j)) ∧ (∀ j, j < 8 → ff2 j = some (rr2 j)) ∧ (∀ j, j < 8 → ff3 j = some (rr3 j)) ∧ (∀ j, j < 4 → fS j = some (ss j)) ∧ t = [(cR, .object RX3), (cI, .int), (cS, .object RX4), (cL, .long)]) := by
  refine EvN.of (L := [some (.ref h0), none]) (by decide) (by decide) rfl rfl rfl ?_
  refine n_aload dX6_init_0 rfl ?_
  refine n_objInit dX6_init_1 nw_l_X6_1 nw_oi nw_oc rfl ?_
  refine n_aload dX6_init_4 rfl ?_
  refine n_new (ci := 1) (ty := tyX1) (fs := [.null, .null, .int 0, .int 0, .int 0, .int 0, .null]) dX6_init_5 nw_k_X6_7 (by decide) nw_b_1 nw_d_1 tyX1_ok (fun j hj => by
    have hj2 : j < 7 := hj
    rcases (show j = 0 ∨ j = 1 ∨ j = 2 ∨ j = 3 ∨ j = 4 ∨ j = 5 ∨ j = 6 by omega) with rfl | rfl | rfl | rfl | rfl | rfl | rfl <;> rfl) (by decide) (fun q1 => ?_)
  dsimp only [List.set, List.cons_append, List.nil_append, List.append_assoc]
  refine n_dup dX6_init_8 rfl ?_
  refine n_call (wr := [(h0, .inr (6, [.null, .null, .null, .int 0, .null, .null, .null]))]) (j := 1) [0] dX6_init_9 nw_l_X6_9 nw_m_X1_init (by decide +kernel) rfl rfl rfl (nv_X1 D q1) rfl rfl (by decide) (by decide) (Nat.le_of_ble_eq_true rfl) (by decide) (fun w1 t1 hp2 => ?_)
  obtain ⟨qcz3, qrz3, qtz3, rrz3, fz3, cRz3, cIz3, rfl, hfz3, rfl⟩ := hp2
  dsimp only [List.set, List.cons_append, List.nil_append, List.append_assoc]
  refine n_putF (q0 := 0) dX6_init_12 fl_X6_10 (by decide) (by decide) rfl rfl (by decide +kernel : parseFieldDescriptor ((clC 6).2.1 0).2.2.1 = some (tyX6 0)) rfl rfl rfl (Nat.le_of_ble_eq_true rfl) ?_
  dsimp only [List.set, List.cons_append, List.nil_append, List.append_assoc]
  refine n_aload dX6_init_15 rfl ?_
  refine n_new (ci := 1) (ty := tyX1) (fs := [.null, .null, .int 0, .int 0, .int 0, .int 0, .null]) dX6_init_16 nw_k_X6_7 (by decide) nw_b_1 nw_d_1 tyX1_ok (fun j hj => by
    have hj2 : j < 7 := hj
    rcases (show j = 0 ∨ j = 1 ∨ j = 2 ∨ j = 3 ∨ j = 4 ∨ j = 5 ∨ j = 6 by omega) with rfl | rfl | rfl | rfl | rfl | rfl | rfl <;> rfl) (by decide) (fun q4 => ?_)
  dsimp only [List.set, List.cons_append, List.nil_append, List.append_assoc]
  refine n_dup dX6_init_19 rfl ?_
  refine n_call (wr := [(h0, .inr (6, [.ref q1, .null, .null, .int 0, .null, .null, .null])), (q1, .inr (1, [.ref qcz3, .ref qrz3, .int 0, .int 0, .int 0, .int 1, .ref qtz3])), (qcz3, .inr (0, [.int 0, .int 0, .int 1, .int 20, .int 60])), (qrz3, .inl (cRz3, 8, .inr (.inr (.inr (.inr (fz3)))))), ((rrz3 0), .inr (3, [.int 0, .int 0, .int 0, .int 0, .int 0, .int 0, .int 0])), ((rrz3 1), .inr (3, [.int 0, .int 0, .int 0, .int 0, .int 0, .int 0, .int 0])), ((rrz3 2), .inr (3, [.int 0, .int 0, .int 0, .int 0, .int 0, .int 0, .int 0])), ((rrz3 3), .inr (3, [.int 0, .int 0, .int 0, .int 0, .int 0, .int 0, .int 0])), ((rrz3 4), .inr (3, [.int 0, .int 0, .int 0, .int 0, .int 0, .int 0, .int 0])), ((rrz3 5), .inr (3, [.int 0, .int 0, .int 0, .int 0, .int 0, .int 0, .int 0])), ((rrz3 6), .inr (3, [.int 0, .int 0, .int 0, .int 0, .int 0, .int 0, .int 0])), ((rrz3 7), .inr (3, [.int 0, .int 0, .int 0, .int 0, .int 0, .int 0, .int 0])), (qtz3, .inl (cIz3, 16, .inl (fun _ => 0)))]) (j := 13) [0, 1, 2, 3, 4, 5, 6, 7, 8, 9, 10, 11, 12] dX6_init_20 nw_l_X6_9 nw_m_X1_init (by decide +kernel) rfl rfl rfl (nv_X1 D q4) rfl rfl (by decide) (by decide) (Nat.le_of_ble_eq_true rfl) (by decide) (fun w1 t1 hp5 => ?_)
  obtain ⟨qcz6, qrz6, qtz6, rrz6, fz6, cRz6, cIz6, rfl, hfz6, rfl⟩ := hp5
  dsimp only [List.set, List.cons_append, List.nil_append, List.append_assoc]
  refine n_same (i := 0) (j := 2) rfl rfl (fun hs7 => ?_)
  subst hs7
  refine n_tys (tys' := [(cRz3, .object RX3), (cIz3, .int), (cIz6, .int)]) [0, 1, 3] rfl ?_
  refine n_same (i := 1) (j := 2) rfl rfl (fun hs8 => ?_)
  subst hs8
  refine n_tys (tys' := [(cRz3, .object RX3), (cIz3, .int)]) [0, 1] rfl ?_
  refine n_putF (q0 := 0) dX6_init_23 fl_X6_16 (by decide) (by decide) rfl rfl (by decide +kernel : parseFieldDescriptor ((clC 6).2.1 1).2.2.1 = some (tyX6 1)) rfl rfl rfl (Nat.le_of_ble_eq_true rfl) ?_
  dsimp only [List.set, List.cons_append, List.nil_append, List.append_assoc]
  refine n_aload dX6_init_26 rfl ?_
  refine n_new (ci := 1) (ty := tyX1) (fs := [.null, .null, .int 0, .int 0, .int 0, .int 0, .null]) dX6_init_27 nw_k_X6_7 (by decide) nw_b_1 nw_d_1 tyX1_ok (fun j hj => by
    have hj2 : j < 7 := hj
    rcases (show j = 0 ∨ j = 1 ∨ j = 2 ∨ j = 3 ∨ j = 4 ∨ j = 5 ∨ j = 6 by omega) with rfl | rfl | rfl | rfl | rfl | rfl | rfl <;> rfl) (by decide) (fun q9 => ?_)
  dsimp only [List.set, List.cons_append, List.nil_append, List.append_assoc]
  refine n_dup dX6_init_30 rfl ?_
  refine n_call (wr := [(h0, .inr (6, [.ref q1, .ref q4, .null, .int 0, .null, .null, .null])), (q1, .inr (1, [.ref qcz3, .ref qrz3, .int 0, .int 0, .int 0, .int 1, .ref qtz3])), (qcz3, .inr (0, [.int 0, .int 0, .int 1, .int 20, .int 60])), (qrz3, .inl (cRz3, 8, .inr (.inr (.inr (.inr (fz3)))))), ((rrz3 0), .inr (3, [.int 0, .int 0, .int 0, .int 0, .int 0, .int 0, .int 0])), ((rrz3 1), .inr (3, [.int 0, .int 0, .int 0, .int 0, .int 0, .int 0, .int 0])), ((rrz3 2), .inr (3, [.int 0, .int 0, .int 0, .int 0, .int 0, .int 0, .int 0])), ((rrz3 3), .inr (3, [.int 0, .int 0, .int 0, .int 0, .int 0, .int 0, .int 0])), ((rrz3 4), .inr (3, [.int 0, .int 0, .int 0, .int 0, .int 0, .int 0, .int 0])), ((rrz3 5), .inr (3, [.int 0, .int 0, .int 0, .int 0, .int 0, .int 0, .int 0])), ((rrz3 6), .inr (3, [.int 0, .int 0, .int 0, .int 0, .int 0, .int 0, .int 0])), ((rrz3 7), .inr (3, [.int 0, .int 0, .int 0, .int 0, .int 0, .int 0, .int 0])), (qtz3, .inl (cIz3, 16, .inl (fun _ => 0))), (q4, .inr (1, [.ref qcz6, .ref qrz6, .int 0, .int 0, .int 0, .int 1, .ref qtz6])), (qcz6, .inr (0, [.int 0, .int 0, .int 1, .int 20, .int 60])), (qrz6, .inl (cRz3, 8, .inr (.inr (.inr (.inr (fz6)))))), ((rrz6 0), .inr (3, [.int 0, .int 0, .int 0, .int 0, .int 0, .int 0, .int 0])), ((rrz6 1), .inr (3, [.int 0, .int 0, .int 0, .int 0, .int 0, .int 0, .int 0])), ((rrz6 2), .inr (3, [.int 0, .int 0, .int 0, .int 0, .int 0, .int 0, .int 0])), ((rrz6 3), .inr (3, [.int 0, .int 0, .int 0, .int 0, .int 0, .int 0, .int 0])), ((rrz6 4), .inr (3, [.int 0, .int 0, .int 0, .int 0, .int 0, .int 0, .int 0])), ((rrz6 5), .inr (3, [.int 0, .int 0, .int 0, .int 0, .int 0, .int 0, .int 0])), ((rrz6 6), .inr (3, [.int 0, .int 0, .int 0, .int 0, .int 0, .int 0, .int 0])), ((rrz6 7), .inr (3, [.int 0, .int 0, .int 0, .int 0, .int 0, .int 0, .int 0])), (qtz6, .inl (cIz3, 16, .inl (fun _ => 0)))]) (j := 25) [0, 1, 2, 3, 4, 5, 6, 7, 8, 9, 10, 11, 12, 13, 14, 15, 16, 17, 18, 19, 20, 21, 22, 23, 24] dX6_init_31 nw_l_X6_9 nw_m_X1_init (by decide +kernel) rfl rfl rfl (nv_X1 D q9) rfl rfl (by decide) (by decide) (Nat.le_of_ble_eq_true rfl) (by decide) (fun w1 t1 hp10 => ?_)
  obtain ⟨qcz11, qrz11, qtz11, rrz11, fz11, cRz11, cIz11, rfl, hfz11, rfl⟩ := hp10
  dsimp only [List.set, List.cons_append, List.nil_append, List.append_assoc]
  refine n_same (i := 0) (j := 2) rfl rfl (fun hs12 => ?_)
  subst hs12
  refine n_tys (tys' := [(cRz3, .object RX3), (cIz3, .int), (cIz11, .int)]) [0, 1, 3] rfl ?_
  refine n_same (i := 1) (j := 2) rfl rfl (fun hs13 => ?_)
  subst hs13
  refine n_tys (tys' := [(cRz3, .object RX3), (cIz3, .int)]) [0, 1] rfl ?_
  refine n_putF (q0 := 0) dX6_init_34 fl_X6_19 (by decide) (by decide) rfl rfl (by decide +kernel : parseFieldDescriptor ((clC 6).2.1 2).2.2.1 = some (tyX6 2)) rfl rfl rfl (Nat.le_of_ble_eq_true rfl) ?_
  dsimp only [List.set, List.cons_append, List.nil_append, List.append_assoc]
  refine n_aload dX6_init_37 rfl ?_
  refine n_iconst dX6_init_38 (v := 0) (by decide) ?_
  refine n_put (ty := .boolean) (q0 := 0) dX6_init_39 fl_X6_22 (by decide) (by decide) rfl (by decide +kernel) rfl rfl rfl (Nat.le_of_ble_eq_true rfl) ?_
  dsimp only [List.set, List.cons_append, List.nil_append, List.append_assoc]
  refine n_aload dX6_init_42 rfl ?_
  refine n_new (ci := 2) (ty := tyX2) (fs := [.null, .int 0, .int 0, .int 0, .int 0]) dX6_init_43 nw_k_X6_26 (by decide) nw_b_2 nw_d_2 tyX2_ok (fun j hj => by
    have hj2 : j < 5 := hj
    rcases (show j = 0 ∨ j = 1 ∨ j = 2 ∨ j = 3 ∨ j = 4 by omega) with rfl | rfl | rfl | rfl | rfl <;> rfl) (by decide) (fun q14 => ?_)
  dsimp only [List.set, List.cons_append, List.nil_append, List.append_assoc]
  refine n_dup dX6_init_46 rfl ?_
  refine n_call (wr := [(h0, .inr (6, [.ref q1, .ref q4, .ref q9, .int 0, .null, .null, .null])), (q1, .inr (1, [.ref qcz3, .ref qrz3, .int 0, .int 0, .int 0, .int 1, .ref qtz3])), (qcz3, .inr (0, [.int 0, .int 0, .int 1, .int 20, .int 60])), (qrz3, .inl (cRz3, 8, .inr (.inr (.inr (.inr (fz3)))))), ((rrz3 0), .inr (3, [.int 0, .int 0, .int 0, .int 0, .int 0, .int 0, .int 0])), ((rrz3 1), .inr (3, [.int 0, .int 0, .int 0, .int 0, .int 0, .int 0, .int 0])), ((rrz3 2), .inr (3, [.int 0, .int 0, .int 0, .int 0, .int 0, .int 0, .int 0])), ((rrz3 3), .inr (3, [.int 0, .int 0, .int 0, .int 0, .int 0, .int 0, .int 0])), ((rrz3 4), .inr (3, [.int 0, .int 0, .int 0, .int 0, .int 0, .int 0, .int 0])), ((rrz3 5), .inr (3, [.int 0, .int 0, .int 0, .int 0, .int 0, .int 0, .int 0])), ((rrz3 6), .inr (3, [.int 0, .int 0, .int 0, .int 0, .int 0, .int 0, .int 0])), ((rrz3 7), .inr (3, [.int 0, .int 0, .int 0, .int 0, .int 0, .int 0, .int 0])), (qtz3, .inl (cIz3, 16, .inl (fun _ => 0))), (q4, .inr (1, [.ref qcz6, .ref qrz6, .int 0, .int 0, .int 0, .int 1, .ref qtz6])), (qcz6, .inr (0, [.int 0, .int 0, .int 1, .int 20, .int 60])), (qrz6, .inl (cRz3, 8, .inr (.inr (.inr (.inr (fz6)))))), ((rrz6 0), .inr (3, [.int 0, .int 0, .int 0, .int 0, .int 0, .int 0, .int 0])), ((rrz6 1), .inr (3, [.int 0, .int 0, .int 0, .int 0, .int 0, .int 0, .int 0])), ((rrz6 2), .inr (3, [.int 0, .int 0, .int 0, .int 0, .int 0, .int 0, .int 0])), ((rrz6 3), .inr (3, [.int 0, .int 0, .int 0, .int 0, .int 0, .int 0, .int 0])), ((rrz6 4), .inr (3, [.int 0, .int 0, .int 0, .int 0, .int 0, .int 0, .int 0])), ((rrz6 5), .inr (3, [.int 0, .int 0, .int 0, .int 0, .int 0, .int 0, .int 0])), ((rrz6 6), .inr (3, [.int 0, .int 0, .int 0, .int 0, .int 0, .int 0, .int 0])), ((rrz6 7), .inr (3, [.int 0, .int 0, .int 0, .int 0, .int 0, .int 0, .int 0])), (qtz6, .inl (cIz3, 16, .inl (fun _ => 0))), (q9, .inr (1, [.ref qcz11, .ref qrz11, .int 0, .int 0, .int 0, .int 1, .ref qtz11])), (qcz11, .inr (0, [.int 0, .int 0, .int 1, .int 20, .int 60])), (qrz11, .inl (cRz3, 8, .inr (.inr (.inr (.inr (fz11)))))), ((rrz11 0), .inr (3, [.int 0, .int 0, .int 0, .int 0, .int 0, .int 0, .int 0])), ((rrz11 1), .inr (3, [.int 0, .int 0, .int 0, .int 0, .int 0, .int 0, .int 0])), ((rrz11 2), .inr (3, [.int 0, .int 0, .int 0, .int 0, .int 0, .int 0, .int 0])), ((rrz11 3), .inr (3, [.int 0, .int 0, .int 0, .int 0, .int 0, .int 0, .int 0])), ((rrz11 4), .inr (3, [.int 0, .int 0, .int 0, .int 0, .int 0, .int 0, .int 0])), ((rrz11 5), .inr (3, [.int 0, .int 0, .int 0, .int 0, .int 0, .int 0, .int 0])), ((rrz11 6), .inr (3, [.int 0, .int 0, .int 0, .int 0, .int 0, .int 0, .int 0])), ((rrz11 7), .inr (3, [.int 0, .int 0, .int 0, .int 0, .int 0, .int 0, .int 0])), (qtz11, .inl (cIz3, 16, .inl (fun _ => 0)))]) (j := 37) [0, 1, 2, 3, 4, 5, 6, 7, 8, 9, 10, 11, 12, 13, 14, 15, 16, 17, 18, 19, 20, 21, 22, 23, 24, 25, 26, 27, 28, 29, 30, 31, 32, 33, 34, 35, 36] dX6_init_47 nw_l_X6_28 nw_m_X2_init (by decide +kernel) rfl rfl rfl (nv_X2 D q14) rfl rfl (by decide) (by decide) (Nat.le_of_ble_eq_true rfl) (by decide) (fun w1 t1 hp15 => ?_)
  obtain ⟨qtz16, qnz16, cIz16, rfl, rfl⟩ := hp15
  dsimp only [List.set, List.cons_append, List.nil_append, List.append_assoc]
  refine n_same (i := 1) (j := 2) rfl rfl (fun hs17 => ?_)
  subst hs17
  refine n_tys (tys' := [(cRz3, .object RX3), (cIz3, .int)]) [0, 1] rfl ?_
  refine n_putF (q0 := 0) dX6_init_50 fl_X6_29 (by decide) (by decide) rfl rfl (by decide +kernel : parseFieldDescriptor ((clC 6).2.1 4).2.2.1 = some (tyX6 4)) rfl rfl rfl (Nat.le_of_ble_eq_true rfl) ?_
  dsimp only [List.set, List.cons_append, List.nil_append, List.append_assoc]
  refine n_aload dX6_init_53 rfl ?_
  refine n_iconst dX6_init_54 (v := 4) (by decide) ?_
  refine n_newq (C0 := RX4) (N' := 4) dX6_init_55 nw_q_X6_33 (Or.inr rfl) (by decide) (by decide) (by decide) (by decide) (fun q18 cA19 => ?_)
  dsimp only [List.set, List.cons_append, List.nil_append, List.append_assoc]
  refine n_putF (q0 := 0) dX6_init_58 fl_X6_35 (by decide) (by decide) rfl rfl (by decide +kernel : parseFieldDescriptor ((clC 6).2.1 5).2.2.1 = some (tyX6 5)) rfl rfl rfl (Nat.le_of_ble_eq_true rfl) ?_
  dsimp only [List.set, List.cons_append, List.nil_append, List.append_assoc]
  refine n_iconst dX6_init_61 (v := 0) (by decide) ?_
  refine n_istore dX6_init_62 (by decide) rfl rfl ?_
  dsimp only [List.set]
  refine n_iload dX6_init_63 rfl ?_
  refine n_iconst dX6_init_64 (v := 4) (by decide) ?_
  refine n_icmpF (t := 87) dX6_init_65 (by decide) (by decide) ?_
  refine n_aload dX6_init_68 rfl ?_
  refine n_get (q0 := 0) dX6_init_69 fl_X6_35 (by decide) (by decide) rfl rfl ?_
  refine n_iload dX6_init_72 rfl ?_
  refine n_new (ci := 4) (ty := tyX4) (fs := [.null, .int 0, .int 0]) dX6_init_73 nw_k_X6_33 (by decide) nw_b_4 nw_d_4 tyX4_ok (fun j hj => by
    have hj2 : j < 3 := hj
    rcases (show j = 0 ∨ j = 1 ∨ j = 2 by omega) with rfl | rfl | rfl <;> rfl) (by decide) (fun q20 => ?_)
  dsimp only [List.set, List.cons_append, List.nil_append, List.append_assoc]
  refine n_dup dX6_init_76 rfl ?_
  refine n_call (wr := [(h0, .inr (6, [.ref q1, .ref q4, .ref q9, .int 0, .ref q14, .ref q18, .null])), (q1, .inr (1, [.ref qcz3, .ref qrz3, .int 0, .int 0, .int 0, .int 1, .ref qtz3])), (qcz3, .inr (0, [.int 0, .int 0, .int 1, .int 20, .int 60])), (qrz3, .inl (cRz3, 8, .inr (.inr (.inr (.inr (fz3)))))), ((rrz3 0), .inr (3, [.int 0, .int 0, .int 0, .int 0, .int 0, .int 0, .int 0])), ((rrz3 1), .inr (3, [.int 0, .int 0, .int 0, .int 0, .int 0, .int 0, .int 0])), ((rrz3 2), .inr (3, [.int 0, .int 0, .int 0, .int 0, .int 0, .int 0, .int 0])), ((rrz3 3), .inr (3, [.int 0, .int 0, .int 0, .int 0, .int 0, .int 0, .int 0])), ((rrz3 4), .inr (3, [.int 0, .int 0, .int 0, .int 0, .int 0, .int 0, .int 0])), ((rrz3 5), .inr (3, [.int 0, .int 0, .int 0, .int 0, .int 0, .int 0, .int 0])), ((rrz3 6), .inr (3, [.int 0, .int 0, .int 0, .int 0, .int 0, .int 0, .int 0])), ((rrz3 7), .inr (3, [.int 0, .int 0, .int 0, .int 0, .int 0, .int 0, .int 0])), (qtz3, .inl (cIz3, 16, .inl (fun _ => 0))), (q4, .inr (1, [.ref qcz6, .ref qrz6, .int 0, .int 0, .int 0, .int 1, .ref qtz6])), (qcz6, .inr (0, [.int 0, .int 0, .int 1, .int 20, .int 60])), (qrz6, .inl (cRz3, 8, .inr (.inr (.inr (.inr (fz6)))))), ((rrz6 0), .inr (3, [.int 0, .int 0, .int 0, .int 0, .int 0, .int 0, .int 0])), ((rrz6 1), .inr (3, [.int 0, .int 0, .int 0, .int 0, .int 0, .int 0, .int 0])), ((rrz6 2), .inr (3, [.int 0, .int 0, .int 0, .int 0, .int 0, .int 0, .int 0])), ((rrz6 3), .inr (3, [.int 0, .int 0, .int 0, .int 0, .int 0, .int 0, .int 0])), ((rrz6 4), .inr (3, [.int 0, .int 0, .int 0, .int 0, .int 0, .int 0, .int 0])), ((rrz6 5), .inr (3, [.int 0, .int 0, .int 0, .int 0, .int 0, .int 0, .int 0])), ((rrz6 6), .inr (3, [.int 0, .int 0, .int 0, .int 0, .int 0, .int 0, .int 0])), ((rrz6 7), .inr (3, [.int 0, .int 0, .int 0, .int 0, .int 0, .int 0, .int 0])), (qtz6, .inl (cIz3, 16, .inl (fun _ => 0))), (q9, .inr (1, [.ref qcz11, .ref qrz11, .int 0, .int 0, .int 0, .int 1, .ref qtz11])), (qcz11, .inr (0, [.int 0, .int 0, .int 1, .int 20, .int 60])), (qrz11, .inl (cRz3, 8, .inr (.inr (.inr (.inr (fz11)))))), ((rrz11 0), .inr (3, [.int 0, .int 0, .int 0, .int 0, .int 0, .int 0, .int 0])), ((rrz11 1), .inr (3, [.int 0, .int 0, .int 0, .int 0, .int 0, .int 0, .int 0])), ((rrz11 2), .inr (3, [.int 0, .int 0, .int 0, .int 0, .int 0, .int 0, .int 0])), ((rrz11 3), .inr (3, [.int 0, .int 0, .int 0, .int 0, .int 0, .int 0, .int 0])), ((rrz11 4), .inr (3, [.int 0, .int 0, .int 0, .int 0, .int 0, .int 0, .int 0])), ((rrz11 5), .inr (3, [.int 0, .int 0, .int 0, .int 0, .int 0, .int 0, .int 0])), ((rrz11 6), .inr (3, [.int 0, .int 0, .int 0, .int 0, .int 0, .int 0, .int 0])), ((rrz11 7), .inr (3, [.int 0, .int 0, .int 0, .int 0, .int 0, .int 0, .int 0])), (qtz11, .inl (cIz3, 16, .inl (fun _ => 0))), (q14, .inr (2, [.ref qtz16, .int 0, .int 0, .int 0, .int 0])), (qtz16, .inr (5, [.ref qnz16, .int 0])), (qnz16, .inl (cIz3, 120, .inl (fun _ => 0))), (q18, .inl (cA19, 4, .inr (.inr (.inr (.inr (fun _ => none))))))]) (j := 41) [0, 1, 2, 3, 4, 5, 6, 7, 8, 9, 10, 11, 12, 13, 14, 15, 16, 17, 18, 19, 20, 21, 22, 23, 24, 25, 26, 27, 28, 29, 30, 31, 32, 33, 34, 35, 36, 37, 38, 39, 40] dX6_init_77 nw_l_X6_39 nw_m_X4_init (by decide +kernel) rfl rfl rfl (nv_X4 D q20) rfl rfl (by decide) (by decide) (Nat.le_of_ble_eq_true rfl) (by decide) (fun w1 t1 hp21 => ?_)
  obtain ⟨qnz22, cLz22, rfl, rfl⟩ := hp21
  dsimp only [List.set, List.cons_append, List.nil_append, List.append_assoc]
  refine n_astq (q0 := 40) (t0 := 2) (qk := 41) (ci := 4) dX6_init_80 (by decide) rfl rfl rfl (vp_in_nI (n := 0) (N := 4) (by decide) (by decide)) ?_
  dsimp only [List.set, List.cons_append, List.nil_append, List.append_assoc]
  refine n_iinc dX6_init_81 rfl (v := 1) (by decide) (by decide) rfl rfl ?_
  dsimp only [List.set]
  refine n_goto (t := 63) dX6_init_84 (by decide) ?_
  refine n_iload dX6_init_63 rfl ?_
  refine n_iconst dX6_init_64 (v := 4) (by decide) ?_
  refine n_icmpF (t := 87) dX6_init_65 (by decide) (by decide) ?_
  refine n_aload dX6_init_68 rfl ?_
  refine n_get (q0 := 0) dX6_init_69 fl_X6_35 (by decide) (by decide) rfl rfl ?_
  refine n_iload dX6_init_72 rfl ?_
  refine n_new (ci := 4) (ty := tyX4) (fs := [.null, .int 0, .int 0]) dX6_init_73 nw_k_X6_33 (by decide) nw_b_4 nw_d_4 tyX4_ok (fun j hj => by
    have hj2 : j < 3 := hj
    rcases (show j = 0 ∨ j = 1 ∨ j = 2 by omega) with rfl | rfl | rfl <;> rfl) (by decide) (fun q23 => ?_)
  dsimp only [List.set, List.cons_append, List.nil_append, List.append_assoc]
  refine n_dup dX6_init_76 rfl ?_
  refine n_call (wr := [(h0, .inr (6, [.ref q1, .ref q4, .ref q9, .int 0, .ref q14, .ref q18, .null])), (q1, .inr (1, [.ref qcz3, .ref qrz3, .int 0, .int 0, .int 0, .int 1, .ref qtz3])), (qcz3, .inr (0, [.int 0, .int 0, .int 1, .int 20, .int 60])), (qrz3, .inl (cRz3, 8, .inr (.inr (.inr (.inr (fz3)))))), ((rrz3 0), .inr (3, [.int 0, .int 0, .int 0, .int 0, .int 0, .int 0, .int 0])), ((rrz3 1), .inr (3, [.int 0, .int 0, .int 0, .int 0, .int 0, .int 0, .int 0])), ((rrz3 2), .inr (3, [.int 0, .int 0, .int 0, .int 0, .int 0, .int 0, .int 0])), ((rrz3 3), .inr (3, [.int 0, .int 0, .int 0, .int 0, .int 0, .int 0, .int 0])), ((rrz3 4), .inr (3, [.int 0, .int 0, .int 0, .int 0, .int 0, .int 0, .int 0])), ((rrz3 5), .inr (3, [.int 0, .int 0, .int 0, .int 0, .int 0, .int 0, .int 0])), ((rrz3 6), .inr (3, [.int 0, .int 0, .int 0, .int 0, .int 0, .int 0, .int 0])), ((rrz3 7), .inr (3, [.int 0, .int 0, .int 0, .int 0, .int 0, .int 0, .int 0])), (qtz3, .inl (cIz3, 16, .inl (fun _ => 0))), (q4, .inr (1, [.ref qcz6, .ref qrz6, .int 0, .int 0, .int 0, .int 1, .ref qtz6])), (qcz6, .inr (0, [.int 0, .int 0, .int 1, .int 20, .int 60])), (qrz6, .inl (cRz3, 8, .inr (.inr (.inr (.inr (fz6)))))), ((rrz6 0), .inr (3, [.int 0, .int 0, .int 0, .int 0, .int 0, .int 0, .int 0])), ((rrz6 1), .inr (3, [.int 0, .int 0, .int 0, .int 0, .int 0, .int 0, .int 0])), ((rrz6 2), .inr (3, [.int 0, .int 0, .int 0, .int 0, .int 0, .int 0, .int 0])), ((rrz6 3), .inr (3, [.int 0, .int 0, .int 0, .int 0, .int 0, .int 0, .int 0])), ((rrz6 4), .inr (3, [.int 0, .int 0, .int 0, .int 0, .int 0, .int 0, .int 0])), ((rrz6 5), .inr (3, [.int 0, .int 0, .int 0, .int 0, .int 0, .int 0, .int 0])), ((rrz6 6), .inr (3, [.int 0, .int 0, .int 0, .int 0, .int 0, .int 0, .int 0])), ((rrz6 7), .inr (3, [.int 0, .int 0, .int 0, .int 0, .int 0, .int 0, .int 0])), (qtz6, .inl (cIz3, 16, .inl (fun _ => 0))), (q9, .inr (1, [.ref qcz11, .ref qrz11, .int 0, .int 0, .int 0, .int 1, .ref qtz11])), (qcz11, .inr (0, [.int 0, .int 0, .int 1, .int 20, .int 60])), (qrz11, .inl (cRz3, 8, .inr (.inr (.inr (.inr (fz11)))))), ((rrz11 0), .inr (3, [.int 0, .int 0, .int 0, .int 0, .int 0, .int 0, .int 0])), ((rrz11 1), .inr (3, [.int 0, .int 0, .int 0, .int 0, .int 0, .int 0, .int 0])), ((rrz11 2), .inr (3, [.int 0, .int 0, .int 0, .int 0, .int 0, .int 0, .int 0])), ((rrz11 3), .inr (3, [.int 0, .int 0, .int 0, .int 0, .int 0, .int 0, .int 0])), ((rrz11 4), .inr (3, [.int 0, .int 0, .int 0, .int 0, .int 0, .int 0, .int 0])), ((rrz11 5), .inr (3, [.int 0, .int 0, .int 0, .int 0, .int 0, .int 0, .int 0])), ((rrz11 6), .inr (3, [.int 0, .int 0, .int 0, .int 0, .int 0, .int 0, .int 0])), ((rrz11 7), .inr (3, [.int 0, .int 0, .int 0, .int 0, .int 0, .int 0, .int 0])), (qtz11, .inl (cIz3, 16, .inl (fun _ => 0))), (q14, .inr (2, [.ref qtz16, .int 0, .int 0, .int 0, .int 0])), (qtz16, .inr (5, [.ref qnz16, .int 0])), (qnz16, .inl (cIz3, 120, .inl (fun _ => 0))), (q18, .inl (cA19, 4, .inr (.inr (.inr (.inr (va_up (fun _ => none) (Int32.toNatClampNeg 0) (some q20))))))), (q20, .inr (4, [.ref qnz22, .int 0, .int 0])), (qnz22, .inl (cLz22, 40, .inr (.inl (fun _ => 0))))]) (j := 43) [0, 1, 2, 3, 4, 5, 6, 7, 8, 9, 10, 11, 12, 13, 14, 15, 16, 17, 18, 19, 20, 21, 22, 23, 24, 25, 26, 27, 28, 29, 30, 31, 32, 33, 34, 35, 36, 37, 38, 39, 40, 41, 42] dX6_init_77 nw_l_X6_39 nw_m_X4_init (by decide +kernel) rfl rfl rfl (nv_X4 D q23) rfl rfl (by decide) (by decide) (Nat.le_of_ble_eq_true rfl) (by decide) (fun w1 t1 hp24 => ?_)
  obtain ⟨qnz25, cLz25, rfl, rfl⟩ := hp24
  dsimp only [List.set, List.cons_append, List.nil_append, List.append_assoc]
  refine n_same (i := 3) (j := 4) rfl rfl (fun hs26 => ?_)
  subst hs26
  refine n_tys (tys' := [(cRz3, .object RX3), (cIz3, .int), (cA19, .object RX4), (cLz22, .long)]) [0, 1, 2, 3] rfl ?_
  refine n_astq (q0 := 40) (t0 := 2) (qk := 43) (ci := 4) dX6_init_80 (by decide) rfl rfl rfl (vp_in_nI (n := 1) (N := 4) (by decide) (by decide)) ?_
  dsimp only [List.set, List.cons_append, List.nil_append, List.append_assoc]
  refine n_iinc dX6_init_81 rfl (v := 2) (by decide) (by decide) rfl rfl ?_
  dsimp only [List.set]
  refine n_goto (t := 63) dX6_init_84 (by decide) ?_
  refine n_iload dX6_init_63 rfl ?_
  refine n_iconst dX6_init_64 (v := 4) (by decide) ?_
  refine n_icmpF (t := 87) dX6_init_65 (by decide) (by decide) ?_
  refine n_aload dX6_init_68 rfl ?_
  refine n_get (q0 := 0) dX6_init_69 fl_X6_35 (by decide) (by decide) rfl rfl ?_
  refine n_iload dX6_init_72 rfl ?_
  refine n_new (ci := 4) (ty := tyX4) (fs := [.null, .int 0, .int 0]) dX6_init_73 nw_k_X6_33 (by decide) nw_b_4 nw_d_4 tyX4_ok (fun j hj => by
    have hj2 : j < 3 := hj
    rcases (show j = 0 ∨ j = 1 ∨ j = 2 by omega) with rfl | rfl | rfl <;> rfl) (by decide) (fun q27 => ?_)
  dsimp only [List.set, List.cons_append, List.nil_append, List.append_assoc]
  refine n_dup dX6_init_76 rfl ?_
  refine n_call (wr := [(h0, .inr (6, [.ref q1, .ref q4, .ref q9, .int 0, .ref q14, .ref q18, .null])), (q1, .inr (1, [.ref qcz3, .ref qrz3, .int 0, .int 0, .int 0, .int 1, .ref qtz3])), (qcz3, .inr (0, [.int 0, .int 0, .int 1, .int 20, .int 60])), (qrz3, .inl (cRz3, 8, .inr (.inr (.inr (.inr (fz3)))))), ((rrz3 0), .inr (3, [.int 0, .int 0, .int 0, .int 0, .int 0, .int 0, .int 0])), ((rrz3 1), .inr (3, [.int 0, .int 0, .int 0, .int 0, .int 0, .int 0, .int 0])), ((rrz3 2), .inr (3, [.int 0, .int 0, .int 0, .int 0, .int 0, .int 0, .int 0])), ((rrz3 3), .inr (3, [.int 0, .int 0, .int 0, .int 0, .int 0, .int 0, .int 0])), ((rrz3 4), .inr (3, [.int 0, .int 0, .int 0, .int 0, .int 0, .int 0, .int 0])), ((rrz3 5), .inr (3, [.int 0, .int 0, .int 0, .int 0, .int 0, .int 0, .int 0])), ((rrz3 6), .inr (3, [.int 0, .int 0, .int 0, .int 0, .int 0, .int 0, .int 0])), ((rrz3 7), .inr (3, [.int 0, .int 0, .int 0, .int 0, .int 0, .int 0, .int 0])), (qtz3, .inl (cIz3, 16, .inl (fun _ => 0))), (q4, .inr (1, [.ref qcz6, .ref qrz6, .int 0, .int 0, .int 0, .int 1, .ref qtz6])), (qcz6, .inr (0, [.int 0, .int 0, .int 1, .int 20, .int 60])), (qrz6, .inl (cRz3, 8, .inr (.inr (.inr (.inr (fz6)))))), ((rrz6 0), .inr (3, [.int 0, .int 0, .int 0, .int 0, .int 0, .int 0, .int 0])), ((rrz6 1), .inr (3, [.int 0, .int 0, .int 0, .int 0, .int 0, .int 0, .int 0])), ((rrz6 2), .inr (3, [.int 0, .int 0, .int 0, .int 0, .int 0, .int 0, .int 0])), ((rrz6 3), .inr (3, [.int 0, .int 0, .int 0, .int 0, .int 0, .int 0, .int 0])), ((rrz6 4), .inr (3, [.int 0, .int 0, .int 0, .int 0, .int 0, .int 0, .int 0])), ((rrz6 5), .inr (3, [.int 0, .int 0, .int 0, .int 0, .int 0, .int 0, .int 0])), ((rrz6 6), .inr (3, [.int 0, .int 0, .int 0, .int 0, .int 0, .int 0, .int 0])), ((rrz6 7), .inr (3, [.int 0, .int 0, .int 0, .int 0, .int 0, .int 0, .int 0])), (qtz6, .inl (cIz3, 16, .inl (fun _ => 0))), (q9, .inr (1, [.ref qcz11, .ref qrz11, .int 0, .int 0, .int 0, .int 1, .ref qtz11])), (qcz11, .inr (0, [.int 0, .int 0, .int 1, .int 20, .int 60])), (qrz11, .inl (cRz3, 8, .inr (.inr (.inr (.inr (fz11)))))), ((rrz11 0), .inr (3, [.int 0, .int 0, .int 0, .int 0, .int 0, .int 0, .int 0])), ((rrz11 1), .inr (3, [.int 0, .int 0, .int 0, .int 0, .int 0, .int 0, .int 0])), ((rrz11 2), .inr (3, [.int 0, .int 0, .int 0, .int 0, .int 0, .int 0, .int 0])), ((rrz11 3), .inr (3, [.int 0, .int 0, .int 0, .int 0, .int 0, .int 0, .int 0])), ((rrz11 4), .inr (3, [.int 0, .int 0, .int 0, .int 0, .int 0, .int 0, .int 0])), ((rrz11 5), .inr (3, [.int 0, .int 0, .int 0, .int 0, .int 0, .int 0, .int 0])), ((rrz11 6), .inr (3, [.int 0, .int 0, .int 0, .int 0, .int 0, .int 0, .int 0])), ((rrz11 7), .inr (3, [.int 0, .int 0, .int 0, .int 0, .int 0, .int 0, .int 0])), (qtz11, .inl (cIz3, 16, .inl (fun _ => 0))), (q14, .inr (2, [.ref qtz16, .int 0, .int 0, .int 0, .int 0])), (qtz16, .inr (5, [.ref qnz16, .int 0])), (qnz16, .inl (cIz3, 120, .inl (fun _ => 0))), (q18, .inl (cA19, 4, .inr (.inr (.inr (.inr (va_up (va_up (fun _ => none) (Int32.toNatClampNeg 0) (some q20)) (Int32.toNatClampNeg 1) (some q23))))))), (q20, .inr (4, [.ref qnz22, .int 0, .int 0])), (qnz22, .inl (cLz22, 40, .inr (.inl (fun _ => 0)))), (q23, .inr (4, [.ref qnz25, .int 0, .int 0])), (qnz25, .inl (cLz22, 40, .inr (.inl (fun _ => 0))))]) (j := 45) [0, 1, 2, 3, 4, 5, 6, 7, 8, 9, 10, 11, 12, 13, 14, 15, 16, 17, 18, 19, 20, 21, 22, 23, 24, 25, 26, 27, 28, 29, 30, 31, 32, 33, 34, 35, 36, 37, 38, 39, 40, 41, 42, 43, 44] dX6_init_77 nw_l_X6_39 nw_m_X4_init (by decide +kernel) rfl rfl rfl (nv_X4 D q27) rfl rfl (by decide) (by decide) (Nat.le_of_ble_eq_true rfl) (by decide) (fun w1 t1 hp28 => ?_)
  obtain ⟨qnz29, cLz29, rfl, rfl⟩ := hp28
  dsimp only [List.set, List.cons_append, List.nil_append, List.append_assoc]
  refine n_same (i := 3) (j := 4) rfl rfl (fun hs30 => ?_)
  subst hs30
  refine n_tys (tys' := [(cRz3, .object RX3), (cIz3, .int), (cA19, .object RX4), (cLz22, .long)]) [0, 1, 2, 3] rfl ?_
  refine n_astq (q0 := 40) (t0 := 2) (qk := 45) (ci := 4) dX6_init_80 (by decide) rfl rfl rfl (vp_in_nI (n := 2) (N := 4) (by decide) (by decide)) ?_
  dsimp only [List.set, List.cons_append, List.nil_append, List.append_assoc]
  refine n_iinc dX6_init_81 rfl (v := 3) (by decide) (by decide) rfl rfl ?_
  dsimp only [List.set]
  refine n_goto (t := 63) dX6_init_84 (by decide) ?_
  refine n_iload dX6_init_63 rfl ?_
  refine n_iconst dX6_init_64 (v := 4) (by decide) ?_
  refine n_icmpF (t := 87) dX6_init_65 (by decide) (by decide) ?_
  refine n_aload dX6_init_68 rfl ?_
  refine n_get (q0 := 0) dX6_init_69 fl_X6_35 (by decide) (by decide) rfl rfl ?_
  refine n_iload dX6_init_72 rfl ?_
  refine n_new (ci := 4) (ty := tyX4) (fs := [.null, .int 0, .int 0]) dX6_init_73 nw_k_X6_33 (by decide) nw_b_4 nw_d_4 tyX4_ok (fun j hj => by
    have hj2 : j < 3 := hj
    rcases (show j = 0 ∨ j = 1 ∨ j = 2 by omega) with rfl | rfl | rfl <;> rfl) (by decide) (fun q31 => ?_)
  dsimp only [List.set, List.cons_append, List.nil_append, List.append_assoc]
  refine n_dup dX6_init_76 rfl ?_
  refine n_call (wr := [(h0, .inr (6, [.ref q1, .ref q4, .ref q9, .int 0, .ref q14, .ref q18, .null])), (q1, .inr (1, [.ref qcz3, .ref qrz3, .int 0, .int 0, .int 0, .int 1, .ref qtz3])), (qcz3, .inr (0, [.int 0, .int 0, .int 1, .int 20, .int 60])), (qrz3, .inl (cRz3, 8, .inr (.inr (.inr (.inr (fz3)))))), ((rrz3 0), .inr (3, [.int 0, .int 0, .int 0, .int 0, .int 0, .int 0, .int 0])), ((rrz3 1), .inr (3, [.int 0, .int 0, .int 0, .int 0, .int 0, .int 0, .int 0])), ((rrz3 2), .inr (3, [.int 0, .int 0, .int 0, .int 0, .int 0, .int 0, .int 0])), ((rrz3 3), .inr (3, [.int 0, .int 0, .int 0, .int 0, .int 0, .int 0, .int 0])), ((rrz3 4), .inr (3, [.int 0, .int 0, .int 0, .int 0, .int 0, .int 0, .int 0])), ((rrz3 5), .inr (3, [.int 0, .int 0, .int 0, .int 0, .int 0, .int 0, .int 0])), ((rrz3 6), .inr (3, [.int 0, .int 0, .int 0, .int 0, .int 0, .int 0, .int 0])), ((rrz3 7), .inr (3, [.int 0, .int 0, .int 0, .int 0, .int 0, .int 0, .int 0])), (qtz3, .inl (cIz3, 16, .inl (fun _ => 0))), (q4, .inr (1, [.ref qcz6, .ref qrz6, .int 0, .int 0, .int 0, .int 1, .ref qtz6])), (qcz6, .inr (0, [.int 0, .int 0, .int 1, .int 20, .int 60])), (qrz6, .inl (cRz3, 8, .inr (.inr (.inr (.inr (fz6)))))), ((rrz6 0), .inr (3, [.int 0, .int 0, .int 0, .int 0, .int 0, .int 0, .int 0])), ((rrz6 1), .inr (3, [.int 0, .int 0, .int 0, .int 0, .int 0, .int 0, .int 0])), ((rrz6 2), .inr (3, [.int 0, .int 0, .int 0, .int 0, .int 0, .int 0, .int 0])), ((rrz6 3), .inr (3, [.int 0, .int 0, .int 0, .int 0, .int 0, .int 0, .int 0])), ((rrz6 4), .inr (3, [.int 0, .int 0, .int 0, .int 0, .int 0, .int 0, .int 0])), ((rrz6 5), .inr (3, [.int 0, .int 0, .int 0, .int 0, .int 0, .int 0, .int 0])), ((rrz6 6), .inr (3, [.int 0, .int 0, .int 0, .int 0, .int 0, .int 0, .int 0])), ((rrz6 7), .inr (3, [.int 0, .int 0, .int 0, .int 0, .int 0, .int 0, .int 0])), (qtz6, .inl (cIz3, 16, .inl (fun _ => 0))), (q9, .inr (1, [.ref qcz11, .ref qrz11, .int 0, .int 0, .int 0, .int 1, .ref qtz11])), (qcz11, .inr (0, [.int 0, .int 0, .int 1, .int 20, .int 60])), (qrz11, .inl (cRz3, 8, .inr (.inr (.inr (.inr (fz11)))))), ((rrz11 0), .inr (3, [.int 0, .int 0, .int 0, .int 0, .int 0, .int 0, .int 0])), ((rrz11 1), .inr (3, [.int 0, .int 0, .int 0, .int 0, .int 0, .int 0, .int 0])), ((rrz11 2), .inr (3, [.int 0, .int 0, .int 0, .int 0, .int 0, .int 0, .int 0])), ((rrz11 3), .inr (3, [.int 0, .int 0, .int 0, .int 0, .int 0, .int 0, .int 0])), ((rrz11 4), .inr (3, [.int 0, .int 0, .int 0, .int 0, .int 0, .int 0, .int 0])), ((rrz11 5), .inr (3, [.int 0, .int 0, .int 0, .int 0, .int 0, .int 0, .int 0])), ((rrz11 6), .inr (3, [.int 0, .int 0, .int 0, .int 0, .int 0, .int 0, .int 0])), ((rrz11 7), .inr (3, [.int 0, .int 0, .int 0, .int 0, .int 0, .int 0, .int 0])), (qtz11, .inl (cIz3, 16, .inl (fun _ => 0))), (q14, .inr (2, [.ref qtz16, .int 0, .int 0, .int 0, .int 0])), (qtz16, .inr (5, [.ref qnz16, .int 0])), (qnz16, .inl (cIz3, 120, .inl (fun _ => 0))), (q18, .inl (cA19, 4, .inr (.inr (.inr (.inr (va_up (va_up (va_up (fun _ => none) (Int32.toNatClampNeg 0) (some q20)) (Int32.toNatClampNeg 1) (some q23)) (Int32.toNatClampNeg 2) (some q27))))))), (q20, .inr (4, [.ref qnz22, .int 0, .int 0])), (qnz22, .inl (cLz22, 40, .inr (.inl (fun _ => 0)))), (q23, .inr (4, [.ref qnz25, .int 0, .int 0])), (qnz25, .inl (cLz22, 40, .inr (.inl (fun _ => 0)))), (q27, .inr (4, [.ref qnz29, .int 0, .int 0])), (qnz29, .inl (cLz22, 40, .inr (.inl (fun _ => 0))))]) (j := 47) [0, 1, 2, 3, 4, 5, 6, 7, 8, 9, 10, 11, 12, 13, 14, 15, 16, 17, 18, 19, 20, 21, 22, 23, 24, 25, 26, 27, 28, 29, 30, 31, 32, 33, 34, 35, 36, 37, 38, 39, 40, 41, 42, 43, 44, 45, 46] dX6_init_77 nw_l_X6_39 nw_m_X4_init (by decide +kernel) rfl rfl rfl (nv_X4 D q31) rfl rfl (by decide) (by decide) (Nat.le_of_ble_eq_true rfl) (by decide) (fun w1 t1 hp32 => ?_)
  obtain ⟨qnz33, cLz33, rfl, rfl⟩ := hp32
  dsimp only [List.set, List.cons_append, List.nil_append, List.append_assoc]
  refine n_same (i := 3) (j := 4) rfl rfl (fun hs34 => ?_)
  subst hs34
  refine n_tys (tys' := [(cRz3, .object RX3), (cIz3, .int), (cA19, .object RX4), (cLz22, .long)]) [0, 1, 2, 3] rfl ?_
  refine n_astq (q0 := 40) (t0 := 2) (qk := 47) (ci := 4) dX6_init_80 (by decide) rfl rfl rfl (vp_in_nI (n := 3) (N := 4) (by decide) (by decide)) ?_
  dsimp only [List.set, List.cons_append, List.nil_append, List.append_assoc]
  refine n_iinc dX6_init_81 rfl (v := 4) (by decide) (by decide) rfl rfl ?_
  dsimp only [List.set]
  refine n_goto (t := 63) dX6_init_84 (by decide) ?_
  refine n_iload dX6_init_63 rfl ?_
  refine n_iconst dX6_init_64 (v := 4) (by decide) ?_
  refine n_icmpT (t := 87) dX6_init_65 (by decide) (by decide) ?_
  refine n_aload dX6_init_87 rfl ?_
  refine n_bipush dX6_init_88 (v := 7) (by decide) ?_
  refine n_newa (ty := .int) (N' := 7) (a0 := (7, .inl (fun _ => 0))) dX6_init_90 nw_a_int rfl (fun _ => rfl) (by decide) (by decide) (by decide) (by decide) (fun q35 cA36 => ?_)
  dsimp only [List.set, List.cons_append, List.nil_append, List.append_assoc]
  refine n_same (i := 1) (j := 4) rfl rfl (fun hs37 => ?_)
  subst hs37
  refine n_tys (tys' := [(cRz3, .object RX3), (cIz3, .int), (cA19, .object RX4), (cLz22, .long)]) [0, 1, 2, 3] rfl ?_
  refine n_putF (q0 := 0) dX6_init_92 fl_X6_40 (by decide) (by decide) rfl rfl (by decide +kernel : parseFieldDescriptor ((clC 6).2.1 6).2.2.1 = some (tyX6 6)) rfl rfl rfl (Nat.le_of_ble_eq_true rfl) ?_
  dsimp only [List.set, List.cons_append, List.nil_append, List.append_assoc]
  refine n_vret dX6_init_95 rfl rfl rfl ?_
  refine ⟨q1, q4, q9, qcz3, qrz3, qtz3, qcz6, qrz6, qtz6, qcz11, qrz11, qtz11, q14, qtz16, qnz16, q18, q35, rrz3, rrz6, rrz11, fun j => [q20, q23, q27, q31].getD j 0, fun j => [qnz22, qnz25, qnz29, qnz33].getD j 0, _, _, _, _, cRz3, cIz3, cA19, cLz22, rfl, hfz3, hfz6, hfz11, ?_, rfl⟩
  intro j hj
  rcases (show j = 0 ∨ j = 1 ∨ j = 2 ∨ j = 3 by omega) with rfl | rfl | rfl | rfl <;> rfl
theorem nw_l_X7_1 : Cond.methodLink RX7 1 Lib.objectInit ∈ gt := gt_at 839 (by decide +kernel) (by decide +kernel)
set_option maxRecDepth 100000 in
set_option maxHeartbeats 4000000 in
theorem nv_X7 (D : va_G) (h0 : Nat) : EvN D mX7_init 11 660 h0 [(h0, .inr (7, [.null, .null, .null, .int 0, .int 0, .int 0, .int 0, .null, .int 0, .null, .int 0, .int 0, .int 0, .int 0, .long 0, .int 0, .int 0, .null, .null, .null, .null, .null, .null, .int 0]))] (fun w t => ∃ (a51 a52 a53 a54 a55 a56 a57 a58 a59 a60 a61 : Nat) (cI cL : ClassId), w = [(h0, .inr (7, [.ref a51, .ref a52, .ref a53, .int 0, .int 0, .int 0, .int 0, .ref a54, .int 0, .ref a55, .int 0, .int 0, .int 0, .int 0, .long 0, .int 0, .int 0, .ref a56, .ref a57, .ref a58, .ref a59, .ref a60, .ref a61, .int 0])), (a51, .inl (cI, 65, .inl (upd (upd (upd (upd (fun _ => 0) 2 1) 3 20) 4 60) 7 1))), (a52, .inl (cI, 7, .inl (fun _ => 0))), (a53, .inl (cI, 65, .inl (fun _ => 0))), (a54, .inl (cI, 65, .inl (fun _ => 0))), (a55, .inl (cI, 120, .inl (fun _ => 0))), (a56, .inl (cI, 4, .inl (fun _ => 0))), (a57, .inl (cI, 4, .inl (fun _ => 0))), (a58, .inl (cL, 160, .inr (.inl (fun _ => 0)))), (a59, .inl (cL, 40, .inr (.inl (fun _ => 0)))), (a60, .inl (cI, 65, .inl (fun _ => 0))), (a61, .inl (cI, 65, .inl (fun _ => 0)))] ∧ t = [(cI, .int), (cL, .long)]) := by
  refine EvN.of (L := [some (.ref h0)]) (by decide) (by decide) rfl rfl rfl ?_
  refine n_aload dX7_init_0 rfl ?_
  refine n_objInit dX7_init_1 nw_l_X7_1 nw_oi nw_oc rfl ?_
  refine n_aload dX7_init_4 rfl ?_
  refine n_bipush dX7_init_5 (v := 65) (by decide) ?_
  refine n_newa (ty := .int) (N' := 65) (a0 := (65, .inl (fun _ => 0))) dX7_init_7 nw_a_int rfl (fun _ => rfl) (by decide) (by decide) (by decide) (by decide) (fun q1 cA2 => ?_)
  dsimp only [List.set, List.cons_append, List.nil_append, List.append_assoc]
  refine n_putF (q0 := 0) dX7_init_9 fl_X7_7 (by decide) (by decide) rfl rfl (by decide +kernel : parseFieldDescriptor ((clC 7).2.1 0).2.2.1 = some (tyX7 0)) rfl rfl rfl (Nat.le_of_ble_eq_true rfl) ?_
  dsimp only [List.set, List.cons_append, List.nil_append, List.append_assoc]
  refine n_aload dX7_init_12 rfl ?_
  refine n_bipush dX7_init_13 (v := 7) (by decide) ?_
  refine n_newa (ty := .int) (N' := 7) (a0 := (7, .inl (fun _ => 0))) dX7_init_15 nw_a_int rfl (fun _ => rfl) (by decide) (by decide) (by decide) (by decide) (fun q3 cA4 => ?_)
  dsimp only [List.set, List.cons_append, List.nil_append, List.append_assoc]
  refine n_same (i := 0) (j := 1) rfl rfl (fun hs5 => ?_)
  subst hs5
  refine n_tys (tys' := [(cA2, .int)]) [0] rfl ?_
  refine n_putF (q0 := 0) dX7_init_17 fl_X7_13 (by decide) (by decide) rfl rfl (by decide +kernel : parseFieldDescriptor ((clC 7).2.1 1).2.2.1 = some (tyX7 1)) rfl rfl rfl (Nat.le_of_ble_eq_true rfl) ?_
  dsimp only [List.set, List.cons_append, List.nil_append, List.append_assoc]
  refine n_aload dX7_init_20 rfl ?_
  refine n_bipush dX7_init_21 (v := 65) (by decide) ?_
  refine n_newa (ty := .int) (N' := 65) (a0 := (65, .inl (fun _ => 0))) dX7_init_23 nw_a_int rfl (fun _ => rfl) (by decide) (by decide) (by decide) (by decide) (fun q6 cA7 => ?_)
  dsimp only [List.set, List.cons_append, List.nil_append, List.append_assoc]
  refine n_same (i := 0) (j := 1) rfl rfl (fun hs8 => ?_)
  subst hs8
  refine n_tys (tys' := [(cA2, .int)]) [0] rfl ?_
  refine n_putF (q0 := 0) dX7_init_25 fl_X7_16 (by decide) (by decide) rfl rfl (by decide +kernel : parseFieldDescriptor ((clC 7).2.1 2).2.2.1 = some (tyX7 2)) rfl rfl rfl (Nat.le_of_ble_eq_true rfl) ?_
  dsimp only [List.set, List.cons_append, List.nil_append, List.append_assoc]
  refine n_aload dX7_init_28 rfl ?_
  refine n_bipush dX7_init_29 (v := 65) (by decide) ?_
  refine n_newa (ty := .int) (N' := 65) (a0 := (65, .inl (fun _ => 0))) dX7_init_31 nw_a_int rfl (fun _ => rfl) (by decide) (by decide) (by decide) (by decide) (fun q9 cA10 => ?_)
  dsimp only [List.set, List.cons_append, List.nil_append, List.append_assoc]
  refine n_same (i := 0) (j := 1) rfl rfl (fun hs11 => ?_)
  subst hs11
  refine n_tys (tys' := [(cA2, .int)]) [0] rfl ?_
  refine n_putF (q0 := 0) dX7_init_33 fl_X7_19 (by decide) (by decide) rfl rfl (by decide +kernel : parseFieldDescriptor ((clC 7).2.1 7).2.2.1 = some (tyX7 7)) rfl rfl rfl (Nat.le_of_ble_eq_true rfl) ?_
  dsimp only [List.set, List.cons_append, List.nil_append, List.append_assoc]
  refine n_aload dX7_init_36 rfl ?_
  refine n_bipush dX7_init_37 (v := 120) (by decide) ?_
  refine n_newa (ty := .int) (N' := 120) (a0 := (120, .inl (fun _ => 0))) dX7_init_39 nw_a_int rfl (fun _ => rfl) (by decide) (by decide) (by decide) (by decide) (fun q12 cA13 => ?_)
  dsimp only [List.set, List.cons_append, List.nil_append, List.append_assoc]
  refine n_same (i := 0) (j := 1) rfl rfl (fun hs14 => ?_)
  subst hs14
  refine n_tys (tys' := [(cA2, .int)]) [0] rfl ?_
  refine n_putF (q0 := 0) dX7_init_41 fl_X7_22 (by decide) (by decide) rfl rfl (by decide +kernel : parseFieldDescriptor ((clC 7).2.1 9).2.2.1 = some (tyX7 9)) rfl rfl rfl (Nat.le_of_ble_eq_true rfl) ?_
  dsimp only [List.set, List.cons_append, List.nil_append, List.append_assoc]
  refine n_aload dX7_init_44 rfl ?_
  refine n_iconst dX7_init_45 (v := 4) (by decide) ?_
  refine n_newa (ty := .int) (N' := 4) (a0 := (4, .inl (fun _ => 0))) dX7_init_46 nw_a_int rfl (fun _ => rfl) (by decide) (by decide) (by decide) (by decide) (fun q15 cA16 => ?_)
  dsimp only [List.set, List.cons_append, List.nil_append, List.append_assoc]
  refine n_same (i := 0) (j := 1) rfl rfl (fun hs17 => ?_)
  subst hs17
  refine n_tys (tys' := [(cA2, .int)]) [0] rfl ?_
  refine n_putF (q0 := 0) dX7_init_48 fl_X7_25 (by decide) (by decide) rfl rfl (by decide +kernel : parseFieldDescriptor ((clC 7).2.1 17).2.2.1 = some (tyX7 17)) rfl rfl rfl (Nat.le_of_ble_eq_true rfl) ?_
  dsimp only [List.set, List.cons_append, List.nil_append, List.append_assoc]
  refine n_aload dX7_init_51 rfl ?_
  refine n_iconst dX7_init_52 (v := 4) (by decide) ?_
  refine n_newa (ty := .int) (N' := 4) (a0 := (4, .inl (fun _ => 0))) dX7_init_53 nw_a_int rfl (fun _ => rfl) (by decide) (by decide) (by decide) (by decide) (fun q18 cA19 => ?_)
  dsimp only [List.set, List.cons_append, List.nil_append, List.append_assoc]
  refine n_same (i := 0) (j := 1) rfl rfl (fun hs20 => ?_)
  subst hs20
  refine n_tys (tys' := [(cA2, .int)]) [0] rfl ?_
  refine n_putF (q0 := 0) dX7_init_55 fl_X7_28 (by decide) (by decide) rfl rfl (by decide +kernel : parseFieldDescriptor ((clC 7).2.1 18).2.2.1 = some (tyX7 18)) rfl rfl rfl (Nat.le_of_ble_eq_true rfl) ?_
  dsimp only [List.set, List.cons_append, List.nil_append, List.append_assoc]
  refine n_aload dX7_init_58 rfl ?_
  refine n_sipush dX7_init_59 (v := 160) (by decide) ?_
  refine n_newa (ty := .long) (N' := 160) (a0 := (160, .inr (.inl (fun _ => 0)))) dX7_init_62 nw_a_long rfl (fun _ => rfl) (by decide) (by decide) (by decide) (by decide) (fun q21 cA22 => ?_)
  dsimp only [List.set, List.cons_append, List.nil_append, List.append_assoc]
  refine n_putF (q0 := 0) dX7_init_64 fl_X7_31 (by decide) (by decide) rfl rfl (by decide +kernel : parseFieldDescriptor ((clC 7).2.1 19).2.2.1 = some (tyX7 19)) rfl rfl rfl (Nat.le_of_ble_eq_true rfl) ?_
  dsimp only [List.set, List.cons_append, List.nil_append, List.append_assoc]
  refine n_aload dX7_init_67 rfl ?_
  refine n_bipush dX7_init_68 (v := 40) (by decide) ?_
  refine n_newa (ty := .long) (N' := 40) (a0 := (40, .inr (.inl (fun _ => 0)))) dX7_init_70 nw_a_long rfl (fun _ => rfl) (by decide) (by decide) (by decide) (by decide) (fun q23 cA24 => ?_)
  dsimp only [List.set, List.cons_append, List.nil_append, List.append_assoc]
  refine n_same (i := 1) (j := 2) rfl rfl (fun hs25 => ?_)
  subst hs25
  refine n_tys (tys' := [(cA2, .int), (cA22, .long)]) [0, 1] rfl ?_
  refine n_putF (q0 := 0) dX7_init_72 fl_X7_35 (by decide) (by decide) rfl rfl (by decide +kernel : parseFieldDescriptor ((clC 7).2.1 20).2.2.1 = some (tyX7 20)) rfl rfl rfl (Nat.le_of_ble_eq_true rfl) ?_
  dsimp only [List.set, List.cons_append, List.nil_append, List.append_assoc]
  refine n_aload dX7_init_75 rfl ?_
  refine n_bipush dX7_init_76 (v := 65) (by decide) ?_
  refine n_newa (ty := .int) (N' := 65) (a0 := (65, .inl (fun _ => 0))) dX7_init_78 nw_a_int rfl (fun _ => rfl) (by decide) (by decide) (by decide) (by decide) (fun q26 cA27 => ?_)
  dsimp only [List.set, List.cons_append, List.nil_append, List.append_assoc]
  refine n_same (i := 0) (j := 2) rfl rfl (fun hs28 => ?_)
  subst hs28
  refine n_tys (tys' := [(cA2, .int), (cA22, .long)]) [0, 1] rfl ?_
  refine n_putF (q0 := 0) dX7_init_80 fl_X7_38 (by decide) (by decide) rfl rfl (by decide +kernel : parseFieldDescriptor ((clC 7).2.1 21).2.2.1 = some (tyX7 21)) rfl rfl rfl (Nat.le_of_ble_eq_true rfl) ?_
  dsimp only [List.set, List.cons_append, List.nil_append, List.append_assoc]
  refine n_aload dX7_init_83 rfl ?_
  refine n_bipush dX7_init_84 (v := 65) (by decide) ?_
  refine n_newa (ty := .int) (N' := 65) (a0 := (65, .inl (fun _ => 0))) dX7_init_86 nw_a_int rfl (fun _ => rfl) (by decide) (by decide) (by decide) (by decide) (fun q29 cA30 => ?_)
  dsimp only [List.set, List.cons_append, List.nil_append, List.append_assoc]
  refine n_same (i := 0) (j := 2) rfl rfl (fun hs31 => ?_)
  subst hs31
  refine n_tys (tys' := [(cA2, .int), (cA22, .long)]) [0, 1] rfl ?_
  refine n_putF (q0 := 0) dX7_init_88 fl_X7_41 (by decide) (by decide) rfl rfl (by decide +kernel : parseFieldDescriptor ((clC 7).2.1 22).2.2.1 = some (tyX7 22)) rfl rfl rfl (Nat.le_of_ble_eq_true rfl) ?_
  dsimp only [List.set, List.cons_append, List.nil_append, List.append_assoc]
  refine n_aload dX7_init_91 rfl ?_
  refine n_get (q0 := 0) dX7_init_92 fl_X7_7 (by decide) (by decide) rfl rfl ?_
  refine n_iconst dX7_init_95 (v := 2) (by decide) ?_
  refine n_iconst dX7_init_96 (v := 1) (by decide) ?_
  refine n_iast (q0 := 1) (t0 := 0) dX7_init_97 rfl rfl (vp_in_nI (n := 2) (N := 65) (by decide) (by decide)) ?_
  dsimp only [List.set, List.cons_append, List.nil_append, List.append_assoc]
  refine n_aload dX7_init_98 rfl ?_
  refine n_get (q0 := 0) dX7_init_99 fl_X7_7 (by decide) (by decide) rfl rfl ?_
  refine n_iconst dX7_init_102 (v := 3) (by decide) ?_
  refine n_bipush dX7_init_103 (v := 20) (by decide) ?_
  refine n_iast (q0 := 1) (t0 := 0) dX7_init_105 rfl rfl (vp_in_nI (n := 3) (N := 65) (by decide) (by decide)) ?_
  dsimp only [List.set, List.cons_append, List.nil_append, List.append_assoc]
  refine n_aload dX7_init_106 rfl ?_
  refine n_get (q0 := 0) dX7_init_107 fl_X7_7 (by decide) (by decide) rfl rfl ?_
  refine n_iconst dX7_init_110 (v := 4) (by decide) ?_
  refine n_bipush dX7_init_111 (v := 60) (by decide) ?_
  refine n_iast (q0 := 1) (t0 := 0) dX7_init_113 rfl rfl (vp_in_nI (n := 4) (N := 65) (by decide) (by decide)) ?_
  dsimp only [List.set, List.cons_append, List.nil_append, List.append_assoc]
  refine n_aload dX7_init_114 rfl ?_
  refine n_get (q0 := 0) dX7_init_115 fl_X7_7 (by decide) (by decide) rfl rfl ?_
  refine n_bipush dX7_init_118 (v := 7) (by decide) ?_
  refine n_iconst dX7_init_120 (v := 1) (by decide) ?_
  refine n_iast (q0 := 1) (t0 := 0) dX7_init_121 rfl rfl (vp_in_nI (n := 7) (N := 65) (by decide) (by decide)) ?_
  dsimp only [List.set, List.cons_append, List.nil_append, List.append_assoc]
  refine n_vret dX7_init_122 rfl rfl rfl ?_
  exact ⟨q1, q3, q6, q9, q12, q15, q18, q21, q23, q26, q29, cA2, cA22, rfl, rfl⟩
