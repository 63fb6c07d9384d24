/-! more public calls as functions -/
def p_fst (p : Nat → Int32) : Nat → Nat → Nat
  | 0, i => i
  | m + 1, i => if p i = 0 then p_fst p m (i + 1) else i
theorem p_fst_le (p : Nat → Int32) : ∀ m i, p_fst p m i ≤ i + m
  | 0, i => Nat.le_refl _
  | m + 1, i => by
    unfold p_fst
    split
    · have := p_fst_le p m (i + 1); omega
    · omega
def p_lst (p : Nat → Int32) : Nat → Option Nat
  | 0 => none
  | m + 1 => if p m = 0 then some m else p_lst p m
theorem p_lst_0 (p : Nat → Int32) : p_lst p 0 = none := rfl
theorem p_lst_s (p : Nat → Int32) (m : Nat) : p_lst p (m + 1) = if p m = 0 then some m else p_lst p m := rfl
def M_steals (μ : MO) (r : Int32) : Int32 × MO :=
  if p_in r 0 (μ.1 8 - 1) = 0 then (-1000000001, sFnd μ 0)
  else if p_fst (fun i => p_isStr μ.1 (nR μ) r.toNatClampNeg (nI i)) 61 0 = 61 then (-1000000004, sFnd μ 3) else (nI (p_fst (fun i => p_isStr μ.1 (nR μ) r.toNatClampNeg (nI i)) 61 0), μ)
def M_opt (μ : MO) : Option Nat → Int32 × MO
  | none => (-1000000004, sFnd μ 3)
  | some k => (nI k, μ)
def M_ducks (μ : MO) (r : Int32) : Int32 × MO :=
  if p_in r 0 (μ.1 8 - 1) = 0 then (-1000000001, sFnd μ 0) else M_opt μ (p_lst (fun i => p_isStr μ.1 (nR μ) r.toNatClampNeg (nI i)) 61)
def p_plc (f : Nat → Int32) (n k q : Nat) : Nat → Int32 × Int32
  | 0 => (0, -1)
  | p + 1 => (if (p_plc f n k q p).2 < p_pass (upd f (9 + 7 * k + 1) (nI p)) n q (9 + 7 * k + 6) then nI p else (p_plc f n k q p).1, if (p_plc f n k q p).2 < p_pass (upd f (9 + 7 * k + 1) (nI p)) n q (9 + 7 * k + 6) then p_pass (upd f (9 + 7 * k + 1) (nI p)) n q (9 + 7 * k + 6) else (p_plc f n k q p).2)
def M_place (μ : MO) (r q : Int32) : Int32 × MO :=
  if p_in r 0 (μ.1 8 - 1) = 0 then (-1000000001, sFnd μ 0) else if p_in q 0 100 = 0 then (-1000000001, sFnd μ 0) else ((p_plc μ.1 (nR μ) r.toNatClampNeg q.toNatClampNeg 16).1, μ)
/-- BOLTS of rod k if o were taken down -/
def p_wo (f : Nat → Int32) (n k q o : Nat) : Int32 := p_pass (p_down f n o) (n - 1) q (9 + 7 * (if o < k then k - 1 else k) + 6)
def p_thf (f : Nat → Int32) (n k q : Nat) : Nat → Option Nat × Int32
  | 0 => (none, p_pass f n q (9 + 7 * k + 6))
  | o + 1 => if o = k then p_thf f n k q o else (if (p_thf f n k q o).2 < p_wo f n k q o then some o else (p_thf f n k q o).1, if (p_thf f n k q o).2 < p_wo f n k q o then p_wo f n k q o else (p_thf f n k q o).2)
def M_thief (μ : MO) (r q : Int32) : Int32 × MO :=
  if p_in r 0 (μ.1 8 - 1) = 0 then (-1000000001, sFnd μ 0) else if p_in q 0 60 = 0 then (-1000000001, sFnd μ 0) else M_opt μ (p_thf μ.1 (nR μ) r.toNatClampNeg q.toNatClampNeg (nR μ)).1
/-- the best kind: kind, BOLTS, BILL -/
def p_knd (f : Nat → Int32) (n k q : Nat) : Nat → Int32 × Int32 × Int32
  | 0 => (-1, 0, 0)
  | j + 1 =>
    let g := p_pass (upd f (9 + 7 * k) (nI j)) n q
    let s := p_knd f n k q j
    if s.1 < 0 ∨ s.2.1 < g (9 + 7 * k + 6) ∨ (g (9 + 7 * k + 6) = s.2.1 ∧ g (9 + 7 * k + 5) < s.2.2) then (nI j, g (9 + 7 * k + 6), g (9 + 7 * k + 5)) else s
def M_kind (μ : MO) (r q : Int32) : Int32 × MO :=
  if p_in r 0 (μ.1 8 - 1) = 0 then (-1000000001, sFnd μ 0) else if p_in q 0 60 = 0 then (-1000000001, sFnd μ 0) else ((p_knd μ.1 (nR μ) r.toNatClampNeg q.toNatClampNeg 6).1, μ)
def M_clocks (μ : MO) (r q : Int32) : Int32 × MO :=
  if p_in r 0 (μ.1 8 - 1) = 0 then (-1000000001, sFnd μ 0) else if p_in q 0 100 = 0 then (-1000000001, sFnd μ 0) else (p_clk μ.1 (nR μ) r.toNatClampNeg q.toNatClampNeg, μ)
def M_strays (μ : MO) (q : Int32) : Int32 × MO :=
  if p_in q 0 100 = 0 then (-1000000001, sFnd μ 0) else (p_pass μ.1 (nR μ) q.toNatClampNeg 6, μ)
def M_count (μ : MO) (what : Int32) : Int32 × MO :=
  if what = 0 then (μ.1 8, μ) else if what = 1 then (μ.2.2.2.2.1, μ) else if what = 2 then (p_sum μ.1 2 (nR μ), μ) else if what = 3 then (p_paidSum μ.1 (nR μ), μ) else (-1000000001, sFnd μ 0)
def s_sum (g : Nat → Int32) : Nat → Int32
  | 0 => 0
  | i + 1 => s_sum g i + g i
def M_status (μ : MO) (which : Int32) : Int32 × MO :=
  if p_in which (-1) 6 = 0 then (-1000000001, sFnd μ 0) else if which < 0 then (s_sum μ.2.1 7, μ) else (μ.2.1 which.toNatClampNeg, μ)
def M_wipe (μ : MO) : Int32 × MO := (μ.2.2.2.2.1, sTm μ 0)
def M_image (μ : MO) : Int32 × MO := (1, sKep (sImg μ (fun j => if j < 65 then μ.1 j else μ.2.2.1 j)) 1)
def M_undo (μ : MO) : Int32 × MO :=
  if μ.2.2.2.1 = 0 then (-1000000004, sFnd μ 3) else (μ.2.2.1 8, sRow μ (fun j => if j < 65 then μ.2.2.1 j else μ.1 j))
def M_tear (μ : MO) : Int32 × MO := (if μ.2.2.2.1 = 0 then 0 else 1, sKep μ 0)
theorem obs_w10 (σ : Sg) (v : Int32) : obs (wI σ 50 10 v) = sTm (obs σ) v := by
  unfold obs sTm wI
  simp
theorem obs_w23 (σ : Sg) (v : Int32) : obs (wI σ 50 23 v) = sKep (obs σ) v := by
  unfold obs sKep wI
  simp
theorem obs_img (σ : Sg) : obs (cpN σ 51 60 65) = sImg (obs σ) (fun j => if j < 65 then (obs σ).1 j else (obs σ).2.2.1 j) := by
  unfold obs sImg cpN
  simp
theorem obs_und (σ : Sg) : obs (cpN σ 60 51 65) = sRow (obs σ) (fun j => if j < 65 then (obs σ).2.2.1 j else (obs σ).1 j) := by
  unfold obs sRow cpN
  simp
theorem obs_tm (σ : Sg) : (obs σ).2.2.2.2.1 = σ.1 50 10 := by simp [obs]
theorem p_thf_lt (f : Nat → Int32) (n k q : Nat) : ∀ o x, (p_thf f n k q o).1 = some x → x < o
  | 0, x, h => by cases h
  | o + 1, x, h => by
    simp only [p_thf] at h
    split at h
    · have := p_thf_lt f n k q o x h; omega
    · simp only at h
      split at h
      · cases h; omega
      · have := p_thf_lt f n k q o x h; omega
