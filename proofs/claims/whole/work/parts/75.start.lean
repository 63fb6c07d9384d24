def GA (l : List Nat) (b a97 a98 a99 : Nat) (adK adV : Nat → Nat) : Nat → Nat := fun c => if c < 62 then l.getD c 0 else if c < 100 then (if c = 96 then b else if c = 97 then a97 else if c = 98 then a98 else a99) else if c < 200 then adK (c - 100) else adV (c - 200)
theorem GA_K {l : List Nat} {b a97 a98 a99 : Nat} {adK adV : Nat → Nat} {i : Nat} (h : i < 17) : GA l b a97 a98 a99 adK adV (100 + i) = adK i := by
  unfold GA
  rw [if_neg (by omega), if_neg (by omega), if_pos (by omega), show 100 + i - 100 = i by omega]
theorem GA_V {l : List Nat} {b a97 a98 a99 : Nat} {adK adV : Nat → Nat} {i : Nat} (h : i < 17) : GA l b a97 a98 a99 adK adV (200 + i) = adV i := by
  unfold GA
  rw [if_neg (by omega), if_neg (by omega), if_neg (by omega), show 200 + i - 200 = i by omega]
def ix8 : List Nat := [91, 85, 190, 120, 230, 196, 77, 835]
theorem inst8 : ∀ ci, ci < 8 → lw_tbl[ix8.getD ci 0]? = some (Cond.instantiable (clC ci).1 (clC ci).2.2) := by decide +kernel
theorem kn8 {s : State} {b : Nat} (hts : ∀ w ∈ lw_tbl, w.before #[Value.ref b] s = true) : ∃ D : va_G, va_K D vwCl [] s := by
  have hgt : ∀ w ∈ gt, w.before #[Value.ref b] s = true := fun w h => hts w (gt_tbl h)
  have h0 : ∀ ci : Nat, ∃ q : ClassId × (Nat → Nat), ci < 8 → u_Kn s (clC ci).1 (clC ci).2.1 (clC ci).2.2 q.1 q.2 := by
    intro ci
    by_cases hc : ci < 8
    · obtain ⟨q1, q2, q3, -, -⟩ := cl_all hc
      obtain ⟨cC, iS, hk⟩ := u_known (n := (clC ci).2.2) hgt q3 (hts _ (lw_in _ (inst8 ci hc)))
      exact ⟨(cC, iS), fun _ => hk⟩
    · exact ⟨(0, fun _ => 0), fun h => absurd h hc⟩
  obtain ⟨f, hf⟩ := Classical.axiomOfChoice h0
  refine ⟨(fun k => (f k).1, fun k => (f k).2), fun c q hq => ?_, fun k q h => by simp at h⟩
  have hc : c < 8 := (List.getElem?_eq_some_iff.mp hq).1
  have e1 : some (clC c) = some q := (cl_all hc).1.symm.trans hq
  have e2 := Option.some.inj e1
  subst e2
  exact hf c hc
set_option maxRecDepth 100000 in
set_option maxHeartbeats 4000000 in
theorem z_end {D : va_G} {b Ln : Nat} {xs : Nat → Int32} (hL3 : Ln ≤ 3072) {x0 m0 p1 p2 p3 qc1 qr1 qt1 qc2 qr2 qt2 qc3 qr3 qt3 tx tp by_ sa td a51 a52 a53 a54 a55 a56 a57 a58 a59 a60 a61 : Nat} {rr1 rr2 rr3 ss nn : Nat → Nat} {ff1 ff2 ff3 fS : Nat → Option Nat} {cR cI cS cL cI2 cL2 : ClassId} (h1 : ∀ j, j < 8 → ff1 j = some (rr1 j)) (h2 : ∀ j, j < 8 → ff2 j = some (rr2 j)) (h3 : ∀ j, j < 8 → ff3 j = some (rr3 j)) (h4 : ∀ j, j < 4 → fS j = some (ss j)) :
    ZP D b Ln xs 18 [some (.ref b), some (.ref x0), some (.ref m0), some (.int 0)] [] ([(x0, .inr (6, [.ref p1, .ref p2, .ref p3, .int 0, .ref tx, .ref sa, .ref td])), (p1, .inr (1, [.ref qc1, .ref qr1, .int 0, .int 0, .int 0, .int 1, .ref qt1])), (qc1, .inr (0, [.int 0, .int 0, .int 1, .int 20, .int 60])), (qr1, .inl (cR, 8, .inr (.inr (.inr (.inr (ff1)))))), ((rr1 0), .inr (3, [.int 0, .int 0, .int 0, .int 0, .int 0, .int 0, .int 0])), ((rr1 1), .inr (3, [.int 0, .int 0, .int 0, .int 0, .int 0, .int 0, .int 0])), ((rr1 2), .inr (3, [.int 0, .int 0, .int 0, .int 0, .int 0, .int 0, .int 0])), ((rr1 3), .inr (3, [.int 0, .int 0, .int 0, .int 0, .int 0, .int 0, .int 0])), ((rr1 4), .inr (3, [.int 0, .int 0, .int 0, .int 0, .int 0, .int 0, .int 0])), ((rr1 5), .inr (3, [.int 0, .int 0, .int 0, .int 0, .int 0, .int 0, .int 0])), ((rr1 6), .inr (3, [.int 0, .int 0, .int 0, .int 0, .int 0, .int 0, .int 0])), ((rr1 7), .inr (3, [.int 0, .int 0, .int 0, .int 0, .int 0, .int 0, .int 0])), (qt1, .inl (cI, 16, .inl (fun _ => 0))), (p2, .inr (1, [.ref qc2, .ref qr2, .int 0, .int 0, .int 0, .int 1, .ref qt2])), (qc2, .inr (0, [.int 0, .int 0, .int 1, .int 20, .int 60])), (qr2, .inl (cR, 8, .inr (.inr (.inr (.inr (ff2)))))), ((rr2 0), .inr (3, [.int 0, .int 0, .int 0, .int 0, .int 0, .int 0, .int 0])), ((rr2 1), .inr (3, [.int 0, .int 0, .int 0, .int 0, .int 0, .int 0, .int 0])), ((rr2 2), .inr (3, [.int 0, .int 0, .int 0, .int 0, .int 0, .int 0, .int 0])), ((rr2 3), .inr (3, [.int 0, .int 0, .int 0, .int 0, .int 0, .int 0, .int 0])), ((rr2 4), .inr (3, [.int 0, .int 0, .int 0, .int 0, .int 0, .int 0, .int 0])), ((rr2 5), .inr (3, [.int 0, .int 0, .int 0, .int 0, .int 0, .int 0, .int 0])), ((rr2 6), .inr (3, [.int 0, .int 0, .int 0, .int 0, .int 0, .int 0, .int 0])), ((rr2 7), .inr (3, [.int 0, .int 0, .int 0, .int 0, .int 0, .int 0, .int 0])), (qt2, .inl (cI, 16, .inl (fun _ => 0))), (p3, .inr (1, [.ref qc3, .ref qr3, .int 0, .int 0, .int 0, .int 1, .ref qt3])), (qc3, .inr (0, [.int 0, .int 0, .int 1, .int 20, .int 60])), (qr3, .inl (cR, 8, .inr (.inr (.inr (.inr (ff3)))))), ((rr3 0), .inr (3, [.int 0, .int 0, .int 0, .int 0, .int 0, .int 0, .int 0])), ((rr3 1), .inr (3, [.int 0, .int 0, .int 0, .int 0, .int 0, .int 0, .int 0])), ((rr3 2), .inr (3, [.int 0, .int 0, .int 0, .int 0, .int 0, .int 0, .int 0])), ((rr3 3), .inr (3, [.int 0, .int 0, .int 0, .int 0, .int 0, .int 0, .int 0])), ((rr3 4), .inr (3, [.int 0, .int 0, .int 0, .int 0, .int 0, .int 0, .int 0])), ((rr3 5), .inr (3, [.int 0, .int 0, .int 0, .int 0, .int 0, .int 0, .int 0])), ((rr3 6), .inr (3, [.int 0, .int 0, .int 0, .int 0, .int 0, .int 0, .int 0])), ((rr3 7), .inr (3, [.int 0, .int 0, .int 0, .int 0, .int 0, .int 0, .int 0])), (qt3, .inl (cI, 16, .inl (fun _ => 0))), (tx, .inr (2, [.ref tp, .int 0, .int 0, .int 0, .int 0])), (tp, .inr (5, [.ref by_, .int 0])), (by_, .inl (cI, 120, .inl (fun _ => 0))), (sa, .inl (cS, 4, .inr (.inr (.inr (.inr (fS)))))), ((ss 0), .inr (4, [.ref (nn 0), .int 0, .int 0])), ((nn 0), .inl (cL, 40, .inr (.inl (fun _ => 0)))), ((ss 1), .inr (4, [.ref (nn 1), .int 0, .int 0])), ((nn 1), .inl (cL, 40, .inr (.inl (fun _ => 0)))), ((ss 2), .inr (4, [.ref (nn 2), .int 0, .int 0])), ((nn 2), .inl (cL, 40, .inr (.inl (fun _ => 0)))), ((ss 3), .inr (4, [.ref (nn 3), .int 0, .int 0])), ((nn 3), .inl (cL, 40, .inr (.inl (fun _ => 0)))), (td, .inl (cI, 7, .inl (fun _ => 0)))] ++ [(m0, .inr (7, [.ref a51, .ref a52, .ref a53, .int 0, .int 0, .int 0, .int 0, .ref a54, .int 0, .ref a55, .int 0, .int 0, .int 0, .int 0, .long 0, .int 0, .int 0, .ref a56, .ref a57, .ref a58, .ref a59, .ref a60, .ref a61, .int 0])), (a51, .inl (cI2, 65, .inl (upd (upd (upd (upd (fun _ => 0) 2 1) 3 20) 4 60) 7 1))), (a52, .inl (cI2, 7, .inl (fun _ => 0))), (a53, .inl (cI2, 65, .inl (fun _ => 0))), (a54, .inl (cI2, 65, .inl (fun _ => 0))), (a55, .inl (cI2, 120, .inl (fun _ => 0))), (a56, .inl (cI2, 4, .inl (fun _ => 0))), (a57, .inl (cI2, 4, .inl (fun _ => 0))), (a58, .inl (cL2, 160, .inr (.inl (fun _ => 0)))), (a59, .inl (cL2, 40, .inr (.inl (fun _ => 0)))), (a60, .inl (cI2, 65, .inl (fun _ => 0))), (a61, .inl (cI2, 65, .inl (fun _ => 0)))]) [(cR, .object RX3), (cI, .int), (cS, .object RX4), (cL, .long), (cI2, .int), (cL2, .long)] 62 1277 := by
  intro l p e s m below meth c H locs ls C hK hP hD hS hl
  obtain rfl : cI = cI2 := n_uniq hK (i := 1) (j := 4) (ty := .int) rfl rfl
  obtain rfl : cL = cL2 := n_uniq hK (i := 3) (j := 5) (ty := .long) rfl rfl
  obtain ⟨a97, a98, a99, adK, adV, ⟨y1, y2⟩, ⟨y3, y4⟩, y5, y6, y7, y8, y9⟩ := sw_all (A := fun q : Nat => s.heap.size ≤ q) C.2.2.2.2.2.1 C.2.2.2.2.2.2.2.2.2 (fun a h => Nat.not_le.mpr h)
  obtain ⟨ad, hAd⟩ : ∃ ad : Nat → Nat, ad = GA ([x0, p1, p2, p3, tx, tp, sa, td, by_, qc1, qc2, qc3, qr1, qr2, qr3, qt1, qt2, qt3, ss 0, ss 1, ss 2, ss 3, nn 0, nn 1, nn 2, nn 3, rr1 0, rr1 1, rr1 2, rr1 3, rr1 4, rr1 5, rr1 6, rr1 7, rr2 0, rr2 1, rr2 2, rr2 3, rr2 4, rr2 5, rr2 6, rr2 7, rr3 0, rr3 1, rr3 2, rr3 3, rr3 4, rr3 5, rr3 6, rr3 7, m0, a51, a52, a53, a54, a55, a56, a57, a58, a59, a60, a61]) b a97 a98 a99 adK adV := ⟨_, rfl⟩
  have hP1 : va_P D vwCl (W62 ad cI cL cR cS ff1 ff2 ff3 fS) H := by
    subst hAd
    exact hP.sub [0, 1, 13, 25, 37, 38, 40, 49, 39, 2, 14, 26, 3, 15, 27, 12, 24, 36, 41, 43, 45, 47, 42, 44, 46, 48, 4, 5, 6, 7, 8, 9, 10, 11, 16, 17, 18, 19, 20, 21, 22, 23, 28, 29, 30, 31, 32, 33, 34, 35, 50, 51, 52, 53, 54, 55, 56, 57, 58, 59, 60, 61] rfl
  have hD1 : va_D (fun q : Nat => s.heap.size ≤ q) (W62 ad cI cL cR cS ff1 ff2 ff3 fS) := by
    subst hAd
    exact hD.sub [0, 1, 13, 25, 37, 38, 40, 49, 39, 2, 14, 26, 3, 15, 27, 12, 24, 36, 41, 43, 45, 47, 42, 44, 46, 48, 4, 5, 6, 7, 8, 9, 10, 11, 16, 17, 18, 19, 20, 21, 22, 23, 28, 29, 30, 31, 32, 33, 34, 35, 50, 51, 52, 53, 54, 55, 56, 57, 58, 59, 60, 61] (by decide) rfl
  have hW : Wd (D, ad, cs0 cI cL cR cS) sg0 H := by
    refine wd62 hP1 (fun j hj => ?_) (fun j hj => ?_) (fun j hj => ?_) (fun j hj => ?_)
    · rw [h1 j hj, hAd]
      obtain rfl | rfl | rfl | rfl | rfl | rfl | rfl | rfl : j = 0 ∨ j = 1 ∨ j = 2 ∨ j = 3 ∨ j = 4 ∨ j = 5 ∨ j = 6 ∨ j = 7 := by omega
      all_goals rfl
    · rw [h2 j hj, hAd]
      obtain rfl | rfl | rfl | rfl | rfl | rfl | rfl | rfl : j = 0 ∨ j = 1 ∨ j = 2 ∨ j = 3 ∨ j = 4 ∨ j = 5 ∨ j = 6 ∨ j = 7 := by omega
      all_goals rfl
    · rw [h3 j hj, hAd]
      obtain rfl | rfl | rfl | rfl | rfl | rfl | rfl | rfl : j = 0 ∨ j = 1 ∨ j = 2 ∨ j = 3 ∨ j = 4 ∨ j = 5 ∨ j = 6 ∨ j = 7 := by omega
      all_goals rfl
    · rw [h4 j hj, hAd]
      obtain rfl | rfl | rfl | rfl : j = 0 ∨ j = 1 ∨ j = 2 ∨ j = 3 := by omega
      all_goals rfl
  obtain ⟨hI, hB⟩ := in62 (D := D) hD1
  have e96 : ad 96 = b := by rw [hAd]; rfl
  have e97 : ad 97 = a97 := by rw [hAd]; rfl
  have e98 : ad 98 = a98 := by rw [hAd]; rfl
  have e99 : ad 99 = a99 := by rw [hAd]; rfl
  have ex0 : ad 0 = x0 := by rw [hAd]; rfl
  have em0 : ad 50 = m0 := by rw [hAd]; rfl
  have eK : ∀ i, i < 17 → ad (100 + i) = adK i := fun i hi => by rw [hAd]; exact GA_K hi
  have eV : ∀ i, i < 17 → ad (200 + i) = adV i := fun i hi => by rw [hAd]; exact GA_V hi
  have hST : ST (D, ad, cs0 cI cL cR cS) s := by
    refine ⟨⟨?_, ?_⟩, ⟨?_, ?_⟩, y5, ⟨fun i hi => ?_, fun i j hi hj e => ?_⟩, fun i hi => ?_, y8.narrow hB, ?_⟩
    · show va_Z RX0 "LEAST" "[I" (.ref (ad 98)) _ s s.heap
      rw [e98]
      exact y1.narrow hB
    · show va_T .int (ad 98) 5 (fun j => .int (lstF j)) _ s s.heap
      rw [e98]
      exact y2.narrow hB
    · show va_Z RX0 "MOST" "[I" (.ref (ad 99)) _ s s.heap
      rw [e99]
      exact y3.narrow hB
    · show va_T .int (ad 99) 5 (fun j => .int (mstF j)) _ s s.heap
      rw [e99]
      exact y4.narrow hB
    · have hh := (y6.narrow hB).1 i hi
      rw [← eK i hi, ← eV i hi] at hh
      exact hh
    · have e' : ad (100 + i) = ad (100 + j) := e
      rw [eK i hi, eK j hj] at e'
      exact y6.2 i j hi hj e'
    · show vk_R RX2 (sIx.getD i 0) (sTx.getD i "") (ad (100 + i)) s
      rw [eK i hi]
      exact y7 i hi
    · show va_Z RJ3 "SIOOBE_FORMATTER" "Ljava/util/function/BiFunction;" .null _ s s.heap ∨ va_Z RJ3 "SIOOBE_FORMATTER" "Ljava/util/function/BiFunction;" (.ref (ad 97)) _ s s.heap
      rw [e97]
      exact y9.imp (fun z => z.narrow hB) (fun z => z.narrow hB)
  have hKK : KK (D, ad, cs0 cI cL cR cS) s := ⟨hI, hK.sub [1, 3, 0, 2] rfl, hST⟩
  refine lw_loop (G := (D, ad, cs0 cI cL cR cS)) hL3 (Ln + 6) 0 0 sg0 (by omega) (by omega) rc0 l p e s m below meth c H locs ls ⟨C, hKK, hB, e96⟩ hW hS ⟨hl.1, hl.2.1, fun i v hi => ?_⟩
  match i, hi with
  | 0, hi =>
    cases hi
    show ls[0]? = some (.val (.ref (ad 96)))
    rw [e96]
    exact hl.2.2 0 (.ref b) rfl
  | 1, hi =>
    cases hi
    show ls[1]? = some (.val (.ref (ad 0)))
    rw [ex0]
    exact hl.2.2 1 (.ref x0) rfl
  | 2, hi =>
    cases hi
    show ls[2]? = some (.val (.ref (ad 50)))
    rw [em0]
    exact hl.2.2 2 (.ref m0) rfl
  | 3, hi =>
    cases hi
    exact hl.2.2 3 (.int 0) rfl
  | k + 4, hi => simp [Lk] at hi
theorem zl_7 : Cond.classLink R_law 7 (clC 6).1 ∈ gt := gt_at 76 (by decide +kernel) (by decide +kernel)
theorem zl_10 : Cond.classLink R_law 10 (clC 7).1 ∈ gt := gt_at 834 (by decide +kernel) (by decide +kernel)
theorem zb_6 : Cond.instantiable (clC 6).1 (clC 6).2.2 ∈ gt := gt_at 77 (by decide +kernel) (by decide +kernel)
theorem zb_7 : Cond.instantiable (clC 7).1 (clC 7).2.2 ∈ gt := gt_at 835 (by decide +kernel) (by decide +kernel)
theorem zd_6 : Cond.initialized (clC 6).1 ∈ gt := gt_at 61 (by decide +kernel) (by decide +kernel)
theorem zd_7 : Cond.initialized (clC 7).1 ∈ gt := gt_at 68 (by decide +kernel) (by decide +kernel)
theorem zl_9 : Cond.methodLink R_law 9 yX6_init ∈ gt := gt_at 78 (by decide +kernel) (by decide +kernel)
theorem zl_12 : Cond.methodLink R_law 12 yX7_init ∈ gt := gt_at 836 (by decide +kernel) (by decide +kernel)
set_option maxRecDepth 100000 in
theorem zc_6 : cdW mX6_init ∈ gt := gt_at 80 rfl rfl
set_option maxRecDepth 100000 in
theorem zc_7 : cdW mX7_init ∈ gt := gt_at 838 rfl rfl
theorem zm_6 : Cond.instanceMethod mX6_init.2.1 ∈ gt ∧ Cond.initialized mX6_init.2.1.cls ∈ gt ∧ cdW mX6_init ∈ gt := ⟨gt_at 79 (by decide +kernel) (by decide +kernel), gt_at 61 (by decide +kernel) (by decide +kernel), zc_6⟩
theorem zm_7 : Cond.instanceMethod mX7_init.2.1 ∈ gt ∧ Cond.initialized mX7_init.2.1.cls ∈ gt ∧ cdW mX7_init ∈ gt := ⟨gt_at 837 (by decide +kernel) (by decide +kernel), gt_at 68 (by decide +kernel) (by decide +kernel), zc_7⟩
set_option maxRecDepth 100000 in
set_option maxHeartbeats 4000000 in
theorem z_start {D : va_G} {b Ln : Nat} {xs : Nat → Int32} (hL3 : Ln ≤ 3072) : ZP D b Ln xs 0 [some (.ref b), none, none, none] [] [] [] 0 0 := by
  refine z_new (ci := 6) (ty := tyX6) (fs := [.null, .null, .null, .int 0, .null, .null, .null]) dLw_0 zl_7 (by decide) zb_6 zd_6 tyX6_ok (fun j hj => by
    have hj2 : j < 7 := hj
    rcases (show j = 0 ∨ j = 1 ∨ j = 2 ∨ j = 3 ∨ j = 4 ∨ j = 5 ∨ j = 6 by omega) with rfl | rfl | rfl | rfl | rfl | rfl | rfl <;> rfl) (by decide) (fun x0 => ?_)
  dsimp only [List.cons_append, List.nil_append]
  refine z_dup dLw_3 rfl ?_
  refine z_call (wr := []) (j := 0) [] dLw_4 zl_9 zm_6 (by decide +kernel) rfl rfl rfl (nv_X6 D x0) rfl rfl (by decide) (by decide) (Nat.le_of_ble_eq_true rfl) (by decide) (fun w1 t1 hp => ?_)
  obtain ⟨p1, p2, p3, qc1, qr1, qt1, qc2, qr2, qt2, qc3, qr3, qt3, tx, tp, by_, sa, td, rr1, rr2, rr3, ss, nn, ff1, ff2, ff3, fS, cR, cI, cS, cL, rfl, h1, h2, h3, h4, rfl⟩ := hp
  dsimp only [List.cons_append, List.nil_append]
  refine z_astore (L' := [some (.ref b), some (.ref x0), none, none]) dLw_7 rfl rfl ?_
  refine z_new (ci := 7) (ty := tyX7) (fs := [.null, .null, .null, .int 0, .int 0, .int 0, .int 0, .null, .int 0, .null, .int 0, .int 0, .int 0, .int 0, .long 0, .int 0, .int 0, .null, .null, .null, .null, .null, .null, .int 0]) dLw_8 zl_10 (by decide) zb_7 zd_7 tyX7_ok (fun j hj => by
    have hj2 : j < 24 := hj
    rcases (show j = 0 ∨ j = 1 ∨ j = 2 ∨ j = 3 ∨ j = 4 ∨ j = 5 ∨ j = 6 ∨ j = 7 ∨ j = 8 ∨ j = 9 ∨ j = 10 ∨ j = 11 ∨ j = 12 ∨ j = 13 ∨ j = 14 ∨ j = 15 ∨ j = 16 ∨ j = 17 ∨ j = 18 ∨ j = 19 ∨ j = 20 ∨ j = 21 ∨ j = 22 ∨ j = 23 by omega) with rfl | rfl | rfl | rfl | rfl | rfl | rfl | rfl | rfl | rfl | rfl | rfl | rfl | rfl | rfl | rfl | rfl | rfl | rfl | rfl | rfl | rfl | rfl | rfl <;> rfl) (by decide) (fun m0 => ?_)
  dsimp only [List.cons_append, List.nil_append]
  refine z_dup dLw_11 rfl ?_
  refine z_call (wr := [(x0, .inr (6, [.ref p1, .ref p2, .ref p3, .int 0, .ref tx, .ref sa, .ref td])), (p1, .inr (1, [.ref qc1, .ref qr1, .int 0, .int 0, .int 0, .int 1, .ref qt1])), (qc1, .inr (0, [.int 0, .int 0, .int 1, .int 20, .int 60])), (qr1, .inl (cR, 8, .inr (.inr (.inr (.inr (ff1)))))), ((rr1 0), .inr (3, [.int 0, .int 0, .int 0, .int 0, .int 0, .int 0, .int 0])), ((rr1 1), .inr (3, [.int 0, .int 0, .int 0, .int 0, .int 0, .int 0, .int 0])), ((rr1 2), .inr (3, [.int 0, .int 0, .int 0, .int 0, .int 0, .int 0, .int 0])), ((rr1 3), .inr (3, [.int 0, .int 0, .int 0, .int 0, .int 0, .int 0, .int 0])), ((rr1 4), .inr (3, [.int 0, .int 0, .int 0, .int 0, .int 0, .int 0, .int 0])), ((rr1 5), .inr (3, [.int 0, .int 0, .int 0, .int 0, .int 0, .int 0, .int 0])), ((rr1 6), .inr (3, [.int 0, .int 0, .int 0, .int 0, .int 0, .int 0, .int 0])), ((rr1 7), .inr (3, [.int 0, .int 0, .int 0, .int 0, .int 0, .int 0, .int 0])), (qt1, .inl (cI, 16, .inl (fun _ => 0))), (p2, .inr (1, [.ref qc2, .ref qr2, .int 0, .int 0, .int 0, .int 1, .ref qt2])), (qc2, .inr (0, [.int 0, .int 0, .int 1, .int 20, .int 60])), (qr2, .inl (cR, 8, .inr (.inr (.inr (.inr (ff2)))))), ((rr2 0), .inr (3, [.int 0, .int 0, .int 0, .int 0, .int 0, .int 0, .int 0])), ((rr2 1), .inr (3, [.int 0, .int 0, .int 0, .int 0, .int 0, .int 0, .int 0])), ((rr2 2), .inr (3, [.int 0, .int 0, .int 0, .int 0, .int 0, .int 0, .int 0])), ((rr2 3), .inr (3, [.int 0, .int 0, .int 0, .int 0, .int 0, .int 0, .int 0])), ((rr2 4), .inr (3, [.int 0, .int 0, .int 0, .int 0, .int 0, .int 0, .int 0])), ((rr2 5), .inr (3, [.int 0, .int 0, .int 0, .int 0, .int 0, .int 0, .int 0])), ((rr2 6), .inr (3, [.int 0, .int 0, .int 0, .int 0, .int 0, .int 0, .int 0])), ((rr2 7), .inr (3, [.int 0, .int 0, .int 0, .int 0, .int 0, .int 0, .int 0])), (qt2, .inl (cI, 16, .inl (fun _ => 0))), (p3, .inr (1, [.ref qc3, .ref qr3, .int 0, .int 0, .int 0, .int 1, .ref qt3])), (qc3, .inr (0, [.int 0, .int 0, .int 1, .int 20, .int 60])), (qr3, .inl (cR, 8, .inr (.inr (.inr (.inr (ff3)))))), ((rr3 0), .inr (3, [.int 0, .int 0, .int 0, .int 0, .int 0, .int 0, .int 0])), ((rr3 1), .inr (3, [.int 0, .int 0, .int 0, .int 0, .int 0, .int 0, .int 0])), ((rr3 2), .inr (3, [.int 0, .int 0, .int 0, .int 0, .int 0, .int 0, .int 0])), ((rr3 3), .inr (3, [.int 0, .int 0, .int 0, .int 0, .int 0, .int 0, .int 0])), ((rr3 4), .inr (3, [.int 0, .int 0, .int 0, .int 0, .int 0, .int 0, .int 0])), ((rr3 5), .inr (3, [.int 0, .int 0, .int 0, .int 0, .int 0, .int 0, .int 0])), ((rr3 6), .inr (3, [.int 0, .int 0, .int 0, .int 0, .int 0, .int 0, .int 0])), ((rr3 7), .inr (3, [.int 0, .int 0, .int 0, .int 0, .int 0, .int 0, .int 0])), (qt3, .inl (cI, 16, .inl (fun _ => 0))), (tx, .inr (2, [.ref tp, .int 0, .int 0, .int 0, .int 0])), (tp, .inr (5, [.ref by_, .int 0])), (by_, .inl (cI, 120, .inl (fun _ => 0))), (sa, .inl (cS, 4, .inr (.inr (.inr (.inr (fS)))))), ((ss 0), .inr (4, [.ref (nn 0), .int 0, .int 0])), ((nn 0), .inl (cL, 40, .inr (.inl (fun _ => 0)))), ((ss 1), .inr (4, [.ref (nn 1), .int 0, .int 0])), ((nn 1), .inl (cL, 40, .inr (.inl (fun _ => 0)))), ((ss 2), .inr (4, [.ref (nn 2), .int 0, .int 0])), ((nn 2), .inl (cL, 40, .inr (.inl (fun _ => 0)))), ((ss 3), .inr (4, [.ref (nn 3), .int 0, .int 0])), ((nn 3), .inl (cL, 40, .inr (.inl (fun _ => 0)))), (td, .inl (cI, 7, .inl (fun _ => 0)))]) (j := 50) [0, 1, 2, 3, 4, 5, 6, 7, 8, 9, 10, 11, 12, 13, 14, 15, 16, 17, 18, 19, 20, 21, 22, 23, 24, 25, 26, 27, 28, 29, 30, 31, 32, 33, 34, 35, 36, 37, 38, 39, 40, 41, 42, 43, 44, 45, 46, 47, 48, 49] dLw_12 zl_12 zm_7 (by decide +kernel) rfl rfl rfl (nv_X7 D m0) rfl rfl (by decide) (by decide) (Nat.le_of_ble_eq_true rfl) (by decide) (fun w2 t2 hp => ?_)
  obtain ⟨a51, a52, a53, a54, a55, a56, a57, a58, a59, a60, a61, cI2, cL2, rfl, rfl⟩ := hp
  refine z_astore (L' := [some (.ref b), some (.ref x0), some (.ref m0), none]) dLw_15 rfl rfl ?_
  refine z_iconst (v := 0) dLw_16 (by decide) ?_
  refine z_istore (L' := [some (.ref b), some (.ref x0), some (.ref m0), some (.int 0)]) dLw_17 rfl rfl ?_
  exact z_end hL3 h1 h2 h3 h4
theorem whole_start {p : Program} {e : Env} {s : State} {m : MethodId} {below : List Frame} {meth : Method} {c : Code} (l : Launch) {b L : Nat} {xs : Nat → Int32} (hL : L ≤ 3072) (C0 : lw_At p s m meth c b L xs) : W p l e room_1 s m #[Value.ref b] below meth c s.heap [] 0 0 (lw_Z below #[Value.ref b] s) (entryFrame m ([Value.ref b] : List Value).toArray 4) := by
  have hl := lv_entry ([.ref b]) (n := 4) (Nat.le_of_ble_eq_true rfl)
  rw [lg_entry_eq]
  obtain ⟨D, hK⟩ := kn8 C0.2.2.2.2.2.1
  refine z_start (D := D) hL l p e s m below meth c s.heap [] _ C0 hK (fun k q h => by simp at h) ⟨fun i j p q h => by simp at h, fun k q h => by simp at h⟩ va_S.rf ⟨hl.1, hl.2.1, fun i v hi => ?_⟩
  match i, hi with
  | 0, hi =>
    cases hi
    exact hl.2.2 (0, .ref b) List.mem_cons_self
  | 1, hi => cases hi
  | 2, hi => cases hi
  | 3, hi => cases hi
  | k + 4, hi => simp at hi
