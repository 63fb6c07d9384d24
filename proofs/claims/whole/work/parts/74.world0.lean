/-! the world at the loop's head -/
def W62 (A : Nat → Nat) (cI cL cR cS : ClassId) (ff1 ff2 ff3 fS : Nat → Option Nat) : va_W := [(A 0, .inr (6, [.ref (A 1), .ref (A 2), .ref (A 3), .int 0, .ref (A 4), .ref (A 6), .ref (A 7)])), (A 1, .inr (1, [.ref (A 9), .ref (A 12), .int 0, .int 0, .int 0, .int 1, .ref (A 15)])), (A 2, .inr (1, [.ref (A 10), .ref (A 13), .int 0, .int 0, .int 0, .int 1, .ref (A 16)])), (A 3, .inr (1, [.ref (A 11), .ref (A 14), .int 0, .int 0, .int 0, .int 1, .ref (A 17)])), (A 4, .inr (2, [.ref (A 5), .int 0, .int 0, .int 0, .int 0])), (A 5, .inr (5, [.ref (A 8), .int 0])), (A 6, .inl (cS, 4, .inr (.inr (.inr (.inr fS))))), (A 7, .inl (cI, 7, .inl (fun _ => 0))), (A 8, .inl (cI, 120, .inl (fun _ => 0))), (A 9, .inr (0, [.int 0, .int 0, .int 1, .int 20, .int 60])), (A 10, .inr (0, [.int 0, .int 0, .int 1, .int 20, .int 60])), (A 11, .inr (0, [.int 0, .int 0, .int 1, .int 20, .int 60])), (A 12, .inl (cR, 8, .inr (.inr (.inr (.inr ff1))))), (A 13, .inl (cR, 8, .inr (.inr (.inr (.inr ff2))))), (A 14, .inl (cR, 8, .inr (.inr (.inr (.inr ff3))))), (A 15, .inl (cI, 16, .inl (fun _ => 0))), (A 16, .inl (cI, 16, .inl (fun _ => 0))), (A 17, .inl (cI, 16, .inl (fun _ => 0))), (A 18, .inr (4, [.ref (A 22), .int 0, .int 0])), (A 19, .inr (4, [.ref (A 23), .int 0, .int 0])), (A 20, .inr (4, [.ref (A 24), .int 0, .int 0])), (A 21, .inr (4, [.ref (A 25), .int 0, .int 0])), (A 22, .inl (cL, 40, .inr (.inl (fun _ => 0)))), (A 23, .inl (cL, 40, .inr (.inl (fun _ => 0)))), (A 24, .inl (cL, 40, .inr (.inl (fun _ => 0)))), (A 25, .inl (cL, 40, .inr (.inl (fun _ => 0)))), (A 26, .inr (3, [.int 0, .int 0, .int 0, .int 0, .int 0, .int 0, .int 0])), (A 27, .inr (3, [.int 0, .int 0, .int 0, .int 0, .int 0, .int 0, .int 0])), (A 28, .inr (3, [.int 0, .int 0, .int 0, .int 0, .int 0, .int 0, .int 0])), (A 29, .inr (3, [.int 0, .int 0, .int 0, .int 0, .int 0, .int 0, .int 0])), (A 30, .inr (3, [.int 0, .int 0, .int 0, .int 0, .int 0, .int 0, .int 0])), (A 31, .inr (3, [.int 0, .int 0, .int 0, .int 0, .int 0, .int 0, .int 0])), (A 32, .inr (3, [.int 0, .int 0, .int 0, .int 0, .int 0, .int 0, .int 0])), (A 33, .inr (3, [.int 0, .int 0, .int 0, .int 0, .int 0, .int 0, .int 0])), (A 34, .inr (3, [.int 0, .int 0, .int 0, .int 0, .int 0, .int 0, .int 0])), (A 35, .inr (3, [.int 0, .int 0, .int 0, .int 0, .int 0, .int 0, .int 0])), (A 36, .inr (3, [.int 0, .int 0, .int 0, .int 0, .int 0, .int 0, .int 0])), (A 37, .inr (3, [.int 0, .int 0, .int 0, .int 0, .int 0, .int 0, .int 0])), (A 38, .inr (3, [.int 0, .int 0, .int 0, .int 0, .int 0, .int 0, .int 0])), (A 39, .inr (3, [.int 0, .int 0, .int 0, .int 0, .int 0, .int 0, .int 0])), (A 40, .inr (3, [.int 0, .int 0, .int 0, .int 0, .int 0, .int 0, .int 0])), (A 41, .inr (3, [.int 0, .int 0, .int 0, .int 0, .int 0, .int 0, .int 0])), (A 42, .inr (3, [.int 0, .int 0, .int 0, .int 0, .int 0, .int 0, .int 0])), (A 43, .inr (3, [.int 0, .int 0, .int 0, .int 0, .int 0, .int 0, .int 0])), (A 44, .inr (3, [.int 0, .int 0, .int 0, .int 0, .int 0, .int 0, .int 0])), (A 45, .inr (3, [.int 0, .int 0, .int 0, .int 0, .int 0, .int 0, .int 0])), (A 46, .inr (3, [.int 0, .int 0, .int 0, .int 0, .int 0, .int 0, .int 0])), (A 47, .inr (3, [.int 0, .int 0, .int 0, .int 0, .int 0, .int 0, .int 0])), (A 48, .inr (3, [.int 0, .int 0, .int 0, .int 0, .int 0, .int 0, .int 0])), (A 49, .inr (3, [.int 0, .int 0, .int 0, .int 0, .int 0, .int 0, .int 0])), (A 50, .inr (7, [.ref (A 51), .ref (A 52), .ref (A 53), .int 0, .int 0, .int 0, .int 0, .ref (A 54), .int 0, .ref (A 55), .int 0, .int 0, .int 0, .int 0, .long 0, .int 0, .int 0, .ref (A 56), .ref (A 57), .ref (A 58), .ref (A 59), .ref (A 60), .ref (A 61), .int 0])), (A 51, .inl (cI, 65, .inl (upd (upd (upd (upd (fun _ => 0) 2 1) 3 20) 4 60) 7 1))), (A 52, .inl (cI, 7, .inl (fun _ => 0))), (A 53, .inl (cI, 65, .inl (fun _ => 0))), (A 54, .inl (cI, 65, .inl (fun _ => 0))), (A 55, .inl (cI, 120, .inl (fun _ => 0))), (A 56, .inl (cI, 4, .inl (fun _ => 0))), (A 57, .inl (cI, 4, .inl (fun _ => 0))), (A 58, .inl (cL, 160, .inr (.inl (fun _ => 0)))), (A 59, .inl (cL, 40, .inr (.inl (fun _ => 0)))), (A 60, .inl (cI, 65, .inl (fun _ => 0))), (A 61, .inl (cI, 65, .inl (fun _ => 0)))]
def ini0 (c : Nat) : Nat → Int32 :=
  if c < 12 then (if c < 9 then (if c < 4 then (if c = 0 then (fun _ => 0) else (fun k => if k = 5 then 1 else 0)) else (fun _ => 0)) else (fun k => if k = 2 then 1 else if k = 3 then 20 else if k = 4 then 60 else 0))
  else if c = 51 then upd (upd (upd (upd (fun _ => 0) 2 1) 3 20) 4 60) 7 1 else (fun _ => 0)
def sg0 : Sg := (ini0, fun _ _ => 0, fun c j => 18 + 8 * (c - 11) + j)
def cs0 (cI cL cR cS : ClassId) (k : Nat) : ClassId := ([cI, cL, cR, cS] : List ClassId).getD k cI
theorem lt62 {c : Nat} (h : c < 62) : c = 0 ∨ c = 1 ∨ c = 2 ∨ c = 3 ∨ c = 4 ∨ c = 5 ∨ c = 6 ∨ c = 7 ∨ c = 8 ∨ c = 9 ∨ c = 10 ∨ c = 11 ∨ c = 12 ∨ c = 13 ∨ c = 14 ∨ c = 15 ∨ c = 16 ∨ c = 17 ∨ c = 18 ∨ c = 19 ∨ c = 20 ∨ c = 21 ∨ c = 22 ∨ c = 23 ∨ c = 24 ∨ c = 25 ∨ c = 26 ∨ c = 27 ∨ c = 28 ∨ c = 29 ∨ c = 30 ∨ c = 31 ∨ c = 32 ∨ c = 33 ∨ c = 34 ∨ c = 35 ∨ c = 36 ∨ c = 37 ∨ c = 38 ∨ c = 39 ∨ c = 40 ∨ c = 41 ∨ c = 42 ∨ c = 43 ∨ c = 44 ∨ c = 45 ∨ c = 46 ∨ c = 47 ∨ c = 48 ∨ c = 49 ∨ c = 50 ∨ c = 51 ∨ c = 52 ∨ c = 53 ∨ c = 54 ∨ c = 55 ∨ c = 56 ∨ c = 57 ∨ c = 58 ∨ c = 59 ∨ c = 60 ∨ c = 61 := by omega
theorem arrV_cg (cA : ClassId) (n : Nat) {f g : Nat → Value} (h : ∀ j, j < n → f j = g j) : arrV cA n f = arrV cA n g := by
  have e : (fun j : Fin n => f j.val) = (fun j : Fin n => g j.val) := funext fun j => h j.val j.isLt
  unfold arrV
  rw [e]
section W0
variable {D : va_G} {A : Nat → Nat} {cI cL cR cS : ClassId} {ff1 ff2 ff3 fS : Nat → Option Nat} {H : Heap}
theorem at_cg {a : Nat} {cA : ClassId} {n : Nat} {f g : Nat → Option Nat} (h : va_at D vwCl (a, .inl (cA, n, .inr (.inr (.inr (.inr f))))) H) (e : ∀ j, j < n → f j = g j) : va_at D vwCl (a, .inl (cA, n, .inr (.inr (.inr (.inr g))))) H := by
  have h1 : H[a]? = some (arrV cA n (fun j => va_rf (f j))) := h
  show H[a]? = some (arrV cA n (fun j => va_rf (g j)))
  rw [h1, arrV_cg cA n (fun j hj => by rw [e j hj])]
theorem wd62 (hP : va_P D vwCl (W62 A cI cL cR cS ff1 ff2 ff3 fS) H) (h1 : ∀ j, j < 8 → ff1 j = some (A (26 + j))) (h2 : ∀ j, j < 8 → ff2 j = some (A (34 + j))) (h3 : ∀ j, j < 8 → ff3 j = some (A (42 + j))) (hS : ∀ j, j < 4 → fS j = some (A (18 + j))) : Wd (D, A, cs0 cI cL cR cS) sg0 H := by
  intro k q hq
  obtain ⟨hk, rfl⟩ := wsW_in hq
  obtain rfl | rfl | rfl | rfl | rfl | rfl | rfl | rfl | rfl | rfl | rfl | rfl | rfl | rfl | rfl | rfl | rfl | rfl | rfl | rfl | rfl | rfl | rfl | rfl | rfl | rfl | rfl | rfl | rfl | rfl | rfl | rfl | rfl | rfl | rfl | rfl | rfl | rfl | rfl | rfl | rfl | rfl | rfl | rfl | rfl | rfl | rfl | rfl | rfl | rfl | rfl | rfl | rfl | rfl | rfl | rfl | rfl | rfl | rfl | rfl | rfl | rfl := lt62 hk
  · exact hP 0 _ rfl
  · exact hP 1 _ rfl
  · exact hP 2 _ rfl
  · exact hP 3 _ rfl
  · exact hP 4 _ rfl
  · exact hP 5 _ rfl
  · exact at_cg (hP 6 _ rfl) hS
  · exact hP 7 _ rfl
  · exact hP 8 _ rfl
  · exact hP 9 _ rfl
  · exact hP 10 _ rfl
  · exact hP 11 _ rfl
  · exact at_cg (hP 12 _ rfl) h1
  · exact at_cg (hP 13 _ rfl) h2
  · exact at_cg (hP 14 _ rfl) h3
  · exact hP 15 _ rfl
  · exact hP 16 _ rfl
  · exact hP 17 _ rfl
  · exact hP 18 _ rfl
  · exact hP 19 _ rfl
  · exact hP 20 _ rfl
  · exact hP 21 _ rfl
  · exact hP 22 _ rfl
  · exact hP 23 _ rfl
  · exact hP 24 _ rfl
  · exact hP 25 _ rfl
  · exact hP 26 _ rfl
  · exact hP 27 _ rfl
  · exact hP 28 _ rfl
  · exact hP 29 _ rfl
  · exact hP 30 _ rfl
  · exact hP 31 _ rfl
  · exact hP 32 _ rfl
  · exact hP 33 _ rfl
  · exact hP 34 _ rfl
  · exact hP 35 _ rfl
  · exact hP 36 _ rfl
  · exact hP 37 _ rfl
  · exact hP 38 _ rfl
  · exact hP 39 _ rfl
  · exact hP 40 _ rfl
  · exact hP 41 _ rfl
  · exact hP 42 _ rfl
  · exact hP 43 _ rfl
  · exact hP 44 _ rfl
  · exact hP 45 _ rfl
  · exact hP 46 _ rfl
  · exact hP 47 _ rfl
  · exact hP 48 _ rfl
  · exact hP 49 _ rfl
  · exact hP 50 _ rfl
  · exact hP 51 _ rfl
  · exact hP 52 _ rfl
  · exact hP 53 _ rfl
  · exact hP 54 _ rfl
  · exact hP 55 _ rfl
  · exact hP 56 _ rfl
  · exact hP 57 _ rfl
  · exact hP 58 _ rfl
  · exact hP 59 _ rfl
  · exact hP 60 _ rfl
  · exact hP 61 _ rfl
theorem in62 {B : Nat → Prop} (hD : va_D B (W62 A cI cL cR cS ff1 ff2 ff3 fS)) : InjG (D, A, cs0 cI cL cR cS) ∧ ∀ q, AG (D, A, cs0 cI cL cR cS) q → B q := by
  have key : ∀ c, c < 62 → ∃ e, (W62 A cI cL cR cS ff1 ff2 ff3 fS)[c]? = some (A c, e) := by
    intro c hc
    obtain rfl | rfl | rfl | rfl | rfl | rfl | rfl | rfl | rfl | rfl | rfl | rfl | rfl | rfl | rfl | rfl | rfl | rfl | rfl | rfl | rfl | rfl | rfl | rfl | rfl | rfl | rfl | rfl | rfl | rfl | rfl | rfl | rfl | rfl | rfl | rfl | rfl | rfl | rfl | rfl | rfl | rfl | rfl | rfl | rfl | rfl | rfl | rfl | rfl | rfl | rfl | rfl | rfl | rfl | rfl | rfl | rfl | rfl | rfl | rfl | rfl | rfl := lt62 hc
    all_goals exact ⟨_, rfl⟩
  refine ⟨fun c d hc hd h => ?_, fun q hq => ?_⟩
  · obtain ⟨e1, k1⟩ := key c hc
    obtain ⟨e2, k2⟩ := key d hd
    exact hD.1 c d _ _ k1 k2 h
  · obtain ⟨c, hc, rfl⟩ := hq
    obtain ⟨e1, k1⟩ := key c hc
    exact hD.2 c _ k1
end W0
theorem rc0 : RC sg0 (obs sg0) 0 := by
  have pm : ∀ p, Pm sg0 p := fun p => ⟨fun r hr => ⟨by show 18 + 8 * p ≤ 18 + 8 * (p + 11 - 11) + r; omega, by show 18 + 8 * (p + 11 - 11) + r < 26 + 8 * p; omega⟩, fun r s _ _ e => by
    have e1 : 18 + 8 * (p + 11 - 11) + r = 18 + 8 * (p + 11 - 11) + s := e
    omega⟩
  refine ⟨⟨⟨by decide +kernel, by decide⟩, ⟨by decide +kernel, by decide +kernel⟩, ⟨by decide +kernel, by decide +kernel⟩, ⟨by decide +kernel, by decide +kernel⟩, ⟨by decide +kernel, by decide +kernel⟩, ⟨by decide +kernel, by decide +kernel⟩, ⟨by decide +kernel, by decide +kernel⟩, fun r hr => absurd hr (by omega)⟩, ⟨by decide +kernel, by decide +kernel⟩, ⟨by decide +kernel, by decide +kernel, by decide +kernel, by decide +kernel, by decide +kernel, fun r hr => absurd hr (by omega)⟩, ⟨pm 1, pm 2, pm 3⟩, fun j hj => rfl, ⟨Or.inl (by decide +kernel), by decide +kernel, fun h => absurd h (by decide +kernel)⟩, ⟨0, by decide, by decide +kernel, by decide +kernel, fun j hj => absurd hj (by omega)⟩, fun s hs => ⟨0, by decide, rfl, ?_, ?_, Or.inl rfl, fun j hj => absurd hj (by omega)⟩⟩
  · show ini0 (18 + s) 1 = 0
    obtain rfl | rfl | rfl | rfl : s = 0 ∨ s = 1 ∨ s = 2 ∨ s = 3 := by omega
    all_goals decide +kernel
  · show ini0 (18 + s) 2 = nI 0
    obtain rfl | rfl | rfl | rfl : s = 0 ∨ s = 1 ∨ s = 2 ∨ s = 3 := by omega
    all_goals decide +kernel
