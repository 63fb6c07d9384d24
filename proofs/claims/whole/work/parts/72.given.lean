/-! what holds at the law's entry beside the machine -/
abbrev lwF : List Cond := flatC (Jvm.Cond.and given_1 narrow_1)
def swT (i : Nat) : Term := .string RX2 (sIx.getD i 0)
def swI : List Nat := [724, 739, 740, 706, 721, 722, 723, 735, 736, 737, 738, 642, 695, 696, 697, 698, 699]
set_option maxRecDepth 100000 in
theorem sw_ex : ∀ i, i < 17 → Cond.exactly (swT i) "java/lang/String" ∈ lwF := by decide +kernel
set_option maxRecDepth 100000 in
theorem sw_co : ∀ i, i < 17 → Cond.eq (.field (swT i) "java/lang/String" "coder" "B") (.int 0) ∈ lwF := by decide +kernel
set_option maxRecDepth 100000 in
theorem sw_ar : ∀ i, i < 17 → Cond.arrayOf (.field (swT i) "java/lang/String" "value" "[B") .byte ∈ lwF := by decide +kernel
set_option maxRecDepth 100000 in
theorem sw_le : ∀ i, i < 17 → Cond.eq (.length (.field (swT i) "java/lang/String" "value" "[B")) (.int (Int32.ofNat (sLen.getD i 0))) ∈ lwF := by decide +kernel
set_option maxRecDepth 100000 in
theorem sw_el : ∀ i, i < 17 → ∀ j, j < sLen.getD i 0 → Cond.eq (.elem (.field (swT i) "java/lang/String" "value" "[B") (.int (Int32.ofNat j))) (.int ((sByt.getD i []).getD j 0)) ∈ lwF := by decide +kernel
def swR : List Nat := [10, 15, 16, 6, 7, 8, 9, 11, 12, 13, 14, 0, 1, 2, 3, 4, 5]
set_option maxRecDepth 100000 in
theorem sw_n0 : ∀ j, j < 17 → 10 < swR.getD j 0 → lwF[([0, 294, 319, 0, 0, 0, 0, 209, 228, 249, 271, 0, 0, 0, 0, 0, 0] : List Nat).getD j 0]? = some (Cond.not (.eq (swT 0) (swT j))) := by decide +kernel
set_option maxRecDepth 100000 in
theorem sw_n1 : ∀ j, j < 17 → 15 < swR.getD j 0 → lwF[([0, 0, 324, 0, 0, 0, 0, 0, 0, 0, 0, 0, 0, 0, 0, 0, 0] : List Nat).getD j 0]? = some (Cond.not (.eq (swT 1) (swT j))) := by decide +kernel
set_option maxRecDepth 100000 in
theorem sw_n2 : ∀ j, j < 17 → 16 < swR.getD j 0 → lwF[([0, 0, 0, 0, 0, 0, 0, 0, 0, 0, 0, 0, 0, 0, 0, 0, 0] : List Nat).getD j 0]? = some (Cond.not (.eq (swT 2) (swT j))) := by decide +kernel
set_option maxRecDepth 100000 in
theorem sw_n3 : ∀ j, j < 17 → 6 < swR.getD j 0 → lwF[([185, 290, 315, 0, 138, 153, 167, 205, 224, 245, 267, 0, 0, 0, 0, 0, 0] : List Nat).getD j 0]? = some (Cond.not (.eq (swT 3) (swT j))) := by decide +kernel
set_option maxRecDepth 100000 in
theorem sw_n4 : ∀ j, j < 17 → 7 < swR.getD j 0 → lwF[([186, 291, 316, 0, 0, 154, 168, 206, 225, 246, 268, 0, 0, 0, 0, 0, 0] : List Nat).getD j 0]? = some (Cond.not (.eq (swT 4) (swT j))) := by decide +kernel
set_option maxRecDepth 100000 in
theorem sw_n5 : ∀ j, j < 17 → 8 < swR.getD j 0 → lwF[([187, 292, 317, 0, 0, 0, 169, 207, 226, 247, 269, 0, 0, 0, 0, 0, 0] : List Nat).getD j 0]? = some (Cond.not (.eq (swT 5) (swT j))) := by decide +kernel
set_option maxRecDepth 100000 in
theorem sw_n6 : ∀ j, j < 17 → 9 < swR.getD j 0 → lwF[([188, 293, 318, 0, 0, 0, 0, 208, 227, 248, 270, 0, 0, 0, 0, 0, 0] : List Nat).getD j 0]? = some (Cond.not (.eq (swT 6) (swT j))) := by decide +kernel
set_option maxRecDepth 100000 in
theorem sw_n7 : ∀ j, j < 17 → 11 < swR.getD j 0 → lwF[([0, 295, 320, 0, 0, 0, 0, 0, 229, 250, 272, 0, 0, 0, 0, 0, 0] : List Nat).getD j 0]? = some (Cond.not (.eq (swT 7) (swT j))) := by decide +kernel
set_option maxRecDepth 100000 in
theorem sw_n8 : ∀ j, j < 17 → 12 < swR.getD j 0 → lwF[([0, 296, 321, 0, 0, 0, 0, 0, 0, 251, 273, 0, 0, 0, 0, 0, 0] : List Nat).getD j 0]? = some (Cond.not (.eq (swT 8) (swT j))) := by decide +kernel
set_option maxRecDepth 100000 in
theorem sw_n9 : ∀ j, j < 17 → 13 < swR.getD j 0 → lwF[([0, 297, 322, 0, 0, 0, 0, 0, 0, 0, 274, 0, 0, 0, 0, 0, 0] : List Nat).getD j 0]? = some (Cond.not (.eq (swT 9) (swT j))) := by decide +kernel
set_option maxRecDepth 100000 in
theorem sw_n10 : ∀ j, j < 17 → 14 < swR.getD j 0 → lwF[([0, 298, 323, 0, 0, 0, 0, 0, 0, 0, 0, 0, 0, 0, 0, 0, 0] : List Nat).getD j 0]? = some (Cond.not (.eq (swT 10) (swT j))) := by decide +kernel
set_option maxRecDepth 100000 in
theorem sw_n11 : ∀ j, j < 17 → 0 < swR.getD j 0 → lwF[([179, 284, 309, 118, 132, 147, 161, 199, 218, 239, 261, 0, 58, 67, 76, 92, 107] : List Nat).getD j 0]? = some (Cond.not (.eq (swT 11) (swT j))) := by decide +kernel
set_option maxRecDepth 100000 in
theorem sw_n12 : ∀ j, j < 17 → 1 < swR.getD j 0 → lwF[([180, 285, 310, 119, 133, 148, 162, 200, 219, 240, 262, 0, 0, 68, 77, 93, 108] : List Nat).getD j 0]? = some (Cond.not (.eq (swT 12) (swT j))) := by decide +kernel
set_option maxRecDepth 100000 in
theorem sw_n13 : ∀ j, j < 17 → 2 < swR.getD j 0 → lwF[([181, 286, 311, 120, 134, 149, 163, 201, 220, 241, 263, 0, 0, 0, 78, 94, 109] : List Nat).getD j 0]? = some (Cond.not (.eq (swT 13) (swT j))) := by decide +kernel
set_option maxRecDepth 100000 in
theorem sw_n14 : ∀ j, j < 17 → 3 < swR.getD j 0 → lwF[([182, 287, 312, 121, 135, 150, 164, 202, 221, 242, 264, 0, 0, 0, 0, 95, 110] : List Nat).getD j 0]? = some (Cond.not (.eq (swT 14) (swT j))) := by decide +kernel
set_option maxRecDepth 100000 in
theorem sw_n15 : ∀ j, j < 17 → 4 < swR.getD j 0 → lwF[([183, 288, 313, 122, 136, 151, 165, 203, 222, 243, 265, 0, 0, 0, 0, 0, 111] : List Nat).getD j 0]? = some (Cond.not (.eq (swT 15) (swT j))) := by decide +kernel
set_option maxRecDepth 100000 in
theorem sw_n16 : ∀ j, j < 17 → 5 < swR.getD j 0 → lwF[([184, 289, 314, 123, 137, 152, 166, 204, 223, 244, 266, 0, 0, 0, 0, 0, 0] : List Nat).getD j 0]? = some (Cond.not (.eq (swT 16) (swT j))) := by decide +kernel
set_option maxRecDepth 100000 in
theorem sw_nn : ∀ i, i < 17 → ∀ j, j < 17 → swR.getD i 0 < swR.getD j 0 → Cond.not (.eq (swT i) (swT j)) ∈ lwF := by
  intro i hi j hj h
  obtain rfl | rfl | rfl | rfl | rfl | rfl | rfl | rfl | rfl | rfl | rfl | rfl | rfl | rfl | rfl | rfl | rfl : i = 0 ∨ i = 1 ∨ i = 2 ∨ i = 3 ∨ i = 4 ∨ i = 5 ∨ i = 6 ∨ i = 7 ∨ i = 8 ∨ i = 9 ∨ i = 10 ∨ i = 11 ∨ i = 12 ∨ i = 13 ∨ i = 14 ∨ i = 15 ∨ i = 16 := by omega
  · exact List.mem_of_getElem? (sw_n0 j hj h)
  · exact List.mem_of_getElem? (sw_n1 j hj h)
  · exact List.mem_of_getElem? (sw_n2 j hj h)
  · exact List.mem_of_getElem? (sw_n3 j hj h)
  · exact List.mem_of_getElem? (sw_n4 j hj h)
  · exact List.mem_of_getElem? (sw_n5 j hj h)
  · exact List.mem_of_getElem? (sw_n6 j hj h)
  · exact List.mem_of_getElem? (sw_n7 j hj h)
  · exact List.mem_of_getElem? (sw_n8 j hj h)
  · exact List.mem_of_getElem? (sw_n9 j hj h)
  · exact List.mem_of_getElem? (sw_n10 j hj h)
  · exact List.mem_of_getElem? (sw_n11 j hj h)
  · exact List.mem_of_getElem? (sw_n12 j hj h)
  · exact List.mem_of_getElem? (sw_n13 j hj h)
  · exact List.mem_of_getElem? (sw_n14 j hj h)
  · exact List.mem_of_getElem? (sw_n15 j hj h)
  · exact List.mem_of_getElem? (sw_n16 j hj h)
set_option maxRecDepth 100000 in
theorem sw_rk : ∀ i, i < 17 → ∀ j, j < 17 → i ≠ j → (swR.getD i 0 < swR.getD j 0 ∨ swR.getD j 0 < swR.getD i 0) := by decide +kernel
set_option maxRecDepth 100000 in
theorem sw_ne : ∀ i, i < 17 → ∀ j, j < 17 → i ≠ j → (Cond.not (.eq (swT i) (swT j)) ∈ lwF ∨ Cond.not (.eq (swT j) (swT i)) ∈ lwF) := fun i hi j hj hij => (sw_rk i hi j hj hij).imp (sw_nn i hi j hj) (sw_nn j hj i hi)
set_option maxRecDepth 100000 in
theorem sw_rf : ∀ i, i < 17 → lw_tbl[swI.getD i 0]? = some (Cond.stringRef RX2 (sIx.getD i 0) (sTx.getD i "")) := by decide +kernel
set_option maxRecDepth 100000 in
theorem sw_lst : ∀ j, j < 5 → Cond.eq (.elem (.static RX0 "LEAST" "[I") (.int (Int32.ofNat j))) (.int (lstF j)) ∈ lwF := by decide +kernel
set_option maxRecDepth 100000 in
theorem sw_mst : ∀ j, j < 5 → Cond.eq (.elem (.static RX0 "MOST" "[I") (.int (Int32.ofNat j))) (.int (mstF j)) ∈ lwF := by decide +kernel
set_option maxRecDepth 100000 in
theorem lw_in (i : Nat) {w : Cond} (h : lw_tbl[i]? = some w) : w ∈ lw_tbl := List.mem_of_getElem? h
set_option maxRecDepth 100000 in
theorem sw_all {s : State} {b : Nat} {A : Nat → Prop} (hts : ∀ w ∈ lw_tbl, w.before #[Value.ref b] s = true) (hgv : (Jvm.Cond.and given_1 narrow_1).before #[Value.ref b] s = true) (hA : ∀ a : Nat, a < s.heap.size → ¬ A a) :
    ∃ (a97 a98 a99 : Nat) (adK adV : Nat → Nat),
      (va_Z RX0 "LEAST" "[I" (.ref a98) A s s.heap ∧ va_T .int a98 5 (fun j => .int (lstF j)) A s s.heap) ∧
      (va_Z RX0 "MOST" "[I" (.ref a99) A s s.heap ∧ va_T .int a99 5 (fun j => .int (mstF j)) A s s.heap) ∧
      (∀ q ∈ nstL, va_Nw (.methodLinkNest q.1 q.2.1 q.2.2.1 q.2.2.2) s) ∧
      vk_S 17 sLen sByt adK adV A s s.heap ∧
      (∀ i, i < 17 → vk_R RX2 (sIx.getD i 0) (sTx.getD i "") (adK i) s) ∧
      va_Z RJ0 "COMPACT_STRINGS" "Z" (.int 1) A s s.heap ∧
      (va_Z RJ3 "SIOOBE_FORMATTER" "Ljava/util/function/BiFunction;" .null A s s.heap ∨ va_Z RJ3 "SIOOBE_FORMATTER" "Ljava/util/function/BiFunction;" (.ref a97) A s s.heap) := by
  have hs := flat_of_before _ hgv
  obtain ⟨a98, e98, t98⟩ := va_Tof (tm := .static RX0 "LEAST" "[I") (ty := .int) (N := 5) (f := fun j => .int (lstF j)) (A := A) (by decide) (hs _ (by decide +kernel)) (va_eqt (hs _ (by decide +kernel))) (fun j hj => va_eqt (hs _ (sw_lst j hj))) hA
  obtain ⟨a99, e99, t99⟩ := va_Tof (tm := .static RX0 "MOST" "[I") (ty := .int) (N := 5) (f := fun j => .int (mstF j)) (A := A) (by decide) (hs _ (by decide +kernel)) (va_eqt (hs _ (by decide +kernel))) (fun j hj => va_eqt (hs _ (sw_mst j hj))) hA
  have i0 : (Cond.initialized RX0).before #[Value.ref b] s = true := hts _ (by decide +kernel)
  have iJ0 : (Cond.initialized RJ0).before #[Value.ref b] s = true := hts _ (by decide +kernel)
  have iJ3 : (Cond.initialized RJ3).before #[Value.ref b] s = true := hts _ (by decide +kernel)
  obtain ⟨adK, adV, hS, hE⟩ := vk_Sof (args := #[Value.ref b]) (s := s) (N := 17) (tm := swT) (len := sLen) (byt := sByt) (A := A) (by decide) (fun i hi => hs _ (sw_ex i hi)) (fun i hi => hs _ (sw_co i hi)) (fun i hi => hs _ (sw_ar i hi)) (fun i hi => hs _ (sw_le i hi)) (fun i hi j hj => hs _ (sw_el i hi j hj)) (fun i j hi hj hij => (sw_ne i hi j hj hij).imp (hs _) (hs _)) hA
  have hF : ∃ a97 : Nat, va_Z RJ3 "SIOOBE_FORMATTER" "Ljava/util/function/BiFunction;" .null A s s.heap ∨ va_Z RJ3 "SIOOBE_FORMATTER" "Ljava/util/function/BiFunction;" (.ref a97) A s s.heap := by
    rcases va_Zqof (A := A) (hts (.laysStatic RJ3 "SIOOBE_FORMATTER" "Ljava/util/function/BiFunction;") (lw_in 672 (by decide +kernel))) iJ3 (hs _ (by decide +kernel)) hA with z | ⟨t, z⟩
    · exact ⟨0, Or.inl z⟩
    · exact ⟨t, Or.inr z⟩
  obtain ⟨a97, hF⟩ := hF
  refine ⟨a97, a98, a99, adK, adV, ⟨va_Zof (hts _ (lw_in 282 (by decide +kernel))) i0 e98 hA, t98⟩, ⟨va_Zof (hts _ (lw_in 284 (by decide +kernel))) i0 e99 hA, t99⟩, ?_, hS, fun i hi => vk_R.of (hts _ (lw_in _ (sw_rf i hi))) (hE i hi), va_Zof (hts _ (lw_in 656 (by decide +kernel))) iJ0 (va_eqt (hs _ (by decide +kernel))) hA, hF⟩
  intro q hq
  simp only [nstL, List.mem_cons, List.not_mem_nil, or_false] at hq
  rcases hq with rfl | rfl | rfl | rfl | rfl | rfl
  · exact va_Nw.of rfl (hts _ (lw_in 278 (by decide +kernel)))
  · exact va_Nw.of rfl (hts _ (lw_in 435 (by decide +kernel)))
  · exact va_Nw.of rfl (hts _ (lw_in 438 (by decide +kernel)))
  · exact va_Nw.of rfl (hts _ (lw_in 454 (by decide +kernel)))
  · exact va_Nw.of rfl (hts _ (lw_in 700 (by decide +kernel)))
  · exact va_Nw.of rfl (hts _ (lw_in 715 (by decide +kernel)))
set_option maxRecDepth 100000 in
theorem sw_NU {s : State} {b : Nat} (hts : ∀ w ∈ lw_tbl, w.before #[Value.ref b] s = true) : NU s := ⟨va_AO.of (hts _ (lw_in 119 (by decide +kernel))), va_AO.of (hts _ (lw_in 229 (by decide +kernel))), va_Nw.of rfl (hts _ (lw_in 121 (by decide +kernel)))⟩
