/-! what the reference shows: row, found, image, kept, tapeMany, tape, bits, size, sheets; its public calls as functions -/
abbrev MO : Type := (Nat → Int32) × (Nat → Int32) × (Nat → Int32) × Int32 × Int32 × (Nat → Int32) × (Nat → Int32) × (Nat → Int32) × (Nat → Int64)
def obs (σ : Sg) : MO := (σ.1 51, σ.1 52, σ.1 60, σ.1 50 23, σ.1 50 10, σ.1 55, σ.1 56, σ.1 57, σ.2.1 58)
def sRow (μ : MO) (f : Nat → Int32) : MO := (f, μ.2)
def sFnd (μ : MO) (j : Nat) : MO := (μ.1, upd μ.2.1 j (μ.2.1 j + 1), μ.2.2)
def sImg (μ : MO) (g : Nat → Int32) : MO := (μ.1, μ.2.1, g, μ.2.2.2)
def sKep (μ : MO) (v : Int32) : MO := (μ.1, μ.2.1, μ.2.2.1, v, μ.2.2.2.2)
def sTm (μ : MO) (v : Int32) : MO := (μ.1, μ.2.1, μ.2.2.1, μ.2.2.2.1, v, μ.2.2.2.2.2)
def sTap (μ : MO) (g : Nat → Int32) : MO := (μ.1, μ.2.1, μ.2.2.1, μ.2.2.2.1, μ.2.2.2.2.1, g, μ.2.2.2.2.2.2)
def sBit (μ : MO) (g : Nat → Int32) : MO := (μ.1, μ.2.1, μ.2.2.1, μ.2.2.2.1, μ.2.2.2.2.1, μ.2.2.2.2.2.1, g, μ.2.2.2.2.2.2.2)
def sSiz (μ : MO) (g : Nat → Int32) : MO := (μ.1, μ.2.1, μ.2.2.1, μ.2.2.2.1, μ.2.2.2.2.1, μ.2.2.2.2.2.1, μ.2.2.2.2.2.2.1, g, μ.2.2.2.2.2.2.2.2)
def sShe (μ : MO) (g : Nat → Int64) : MO := (μ.1, μ.2.1, μ.2.2.1, μ.2.2.2.1, μ.2.2.2.2.1, μ.2.2.2.2.2.1, μ.2.2.2.2.2.2.1, μ.2.2.2.2.2.2.2.1, g)
theorem obs_1 (σ : Sg) : (obs σ).1 = σ.1 51 := by simp [obs]
def nR (μ : MO) : Nat := (μ.1 8).toNatClampNeg
theorem nR_of {σ : Sg} {n : Nat} (hn : σ.1 51 8 = nI n) (h8 : n ≤ 8) : nR (obs σ) = n := by
  unfold nR
  rw [obs_1, hn]
  exact nI_clamp (by omega)
/-- the class's cells are as they were -/
def Co (σ σ' : Sg) : Prop := (∀ c j, c < 50 → σ'.1 c j = σ.1 c j) ∧ (∀ c j, c < 50 → σ'.2.1 c j = σ.2.1 c j) ∧ σ'.2.2 = σ.2.2
theorem Co.rfl {σ : Sg} : Co σ σ := ⟨fun _ _ _ => Eq.refl _, fun _ _ _ => Eq.refl _, Eq.refl _⟩
theorem Co.trans {a b c : Sg} (h : Co a b) (k : Co b c) : Co a c := ⟨fun x j hx => (k.1 x j hx).trans (h.1 x j hx), fun x j hx => (k.2.1 x j hx).trans (h.2.1 x j hx), k.2.2.trans h.2.2⟩
theorem Co.w {σ : Sg} {c k : Nat} {v : Int32} (h : 50 ≤ c) : Co σ (wI σ c k v) := ⟨fun x j hx => wI_c (by omega), fun _ _ _ => Eq.refl _, Eq.refl _⟩
theorem Co.wl {σ : Sg} {c k : Nat} {v : Int64} (h : 50 ≤ c) : Co σ (wL σ c k v) := ⟨fun _ _ _ => Eq.refl _, fun x j hx => wL_c (by omega), Eq.refl _⟩
theorem Co.setR {σ : Sg} {f : Nat → Int32} : Co σ (setR σ f) := ⟨fun x j hx => setR_ne (by omega), fun _ _ _ => Eq.refl _, Eq.refl _⟩
theorem Co.cp {σ : Sg} {a b i : Nat} (h : 50 ≤ b) : Co σ (cpN σ a b i) := ⟨fun x j hx => cpN_ne (by omega), fun _ _ _ => Eq.refl _, Eq.refl _⟩
theorem Co.mr {σ σ' : Sg} (h : Mr σ σ') : Co σ σ' := ⟨fun c j hc => h.1 c j (by omega) (by omega) (by omega) (by omega) (by omega), fun c j hc => h.2.1 c j (by omega) (by omega), h.2.2⟩
theorem obs_fnd (σ : Sg) (j : Nat) : obs (wI σ 52 j (σ.1 52 j + 1)) = sFnd (obs σ) j := by
  unfold obs sFnd wI upd
  simp only [Prod.mk.injEq]
  refine ⟨funext fun _ => by simp, funext fun k => by by_cases h : k = j <;> simp [h], funext fun _ => by simp, by simp, by simp, funext fun _ => by simp, funext fun _ => by simp, funext fun _ => by simp, trivial⟩
theorem obs_mr {σ σ' : Sg} (h : Mr σ σ') : obs σ' = sRow (obs σ) (σ'.1 51) := by
  unfold obs sRow
  simp only [Prod.mk.injEq]
  refine ⟨trivial, funext fun j => h.1 _ _ (by decide) (by decide) (by decide) (by decide) (fun e => by cases e), funext fun j => h.1 _ _ (by decide) (by decide) (by decide) (by decide) (fun e => by cases e), h.1 _ _ (by decide) (by decide) (by decide) (by decide) (fun _ => rfl), h.1 _ _ (by decide) (by decide) (by decide) (by decide) (fun _ => rfl), funext fun j => h.1 _ _ (by decide) (by decide) (by decide) (by decide) (fun e => by cases e), funext fun j => h.1 _ _ (by decide) (by decide) (by decide) (by decide) (fun e => by cases e), funext fun j => h.1 _ _ (by decide) (by decide) (by decide) (by decide) (fun e => by cases e), funext fun j => h.2.1 _ _ (by decide) (fun e => by cases e)⟩
theorem obs_setR (σ : Sg) (f : Nat → Int32) : obs (setR σ f) = sRow (obs σ) f := by rw [obs_mr Mr.setR, setR_51]
theorem sRow_self (σ : Sg) : sRow (obs σ) (σ.1 51) = obs σ := by simp [sRow, obs]
theorem obs_mq {σ σ' : Sg} (h : Mq σ σ') : obs σ' = obs σ := by rw [obs_mr h.2, h.1, sRow_self]
/-- a public call's end -/
def PQ (σ : Sg) (R : Int32 × MO) : Option Value → Sg → Prop := fun v σ' => v = some (.int R.1) ∧ obs σ' = R.2 ∧ Co σ σ'
theorem PQ.fnd {σ : Sg} {R : Int32 × MO} {x : Int32} {j : Nat} (h : R = (x, sFnd (obs σ) j)) : PQ σ R (some (.int x)) (wI σ 52 j (σ.1 52 j + 1)) := by
  subst h
  exact ⟨rfl, obs_fnd σ j, Co.w (by decide)⟩
theorem PQ.same {σ : Sg} {R : Int32 × MO} {x : Int32} (h : R = (x, obs σ)) : PQ σ R (some (.int x)) σ := by
  subst h
  exact ⟨rfl, rfl, Co.rfl⟩
theorem PQ.row {σ : Sg} {R : Int32 × MO} {x : Int32} {f : Nat → Int32} (h : R = (x, sRow (obs σ) f)) : PQ σ R (some (.int x)) (setR σ f) := by
  subst h
  exact ⟨rfl, obs_setR σ f, Co.setR⟩
theorem PQ.mq {σ σ' : Sg} {R : Int32 × MO} {x : Int32} (h : R = (x, obs σ)) (hq : Mq σ σ') : PQ σ R (some (.int x)) σ' := by
  subst h
  exact ⟨rfl, obs_mq hq, Co.mr hq.2⟩
theorem PQ.mqf {σ σ' : Sg} {R : Int32 × MO} {x : Int32} {j : Nat} (h : R = (x, sFnd (obs σ) j)) (hq : Mq σ σ') : PQ σ R (some (.int x)) (wI σ' 52 j (σ'.1 52 j + 1)) := by
  subst h
  exact ⟨rfl, by rw [obs_fnd, obs_mq hq], (Co.mr hq.2).trans (Co.w (by decide))⟩
/-- a number that passed the look for a rod is a rod's -/
theorem rod_of {r x : Int32} {n : Nat} (h : ¬ p_in r 0 (x - 1) = 0) (hn : x = nI n) (h8 : n ≤ 8) : ∃ k, k < n ∧ r = nI k := by
  unfold p_in at h
  split at h
  · exact absurd rfl h
  · rename_i h1
    split at h
    · exact absurd rfl h
    · rename_i h2
      obtain ⟨k, hk, e⟩ := nI_of h1
      refine ⟨k, ?_, e⟩
      subst e
      subst hn
      match n, h8, h2 with
      | 0, _, h2 =>
        exfalso
        apply h2
        have : (nI 0 - 1) < 0 := by decide
        exact Int32.lt_of_lt_of_le this (nI_pos' hk)
      | m + 1, h8, h2 =>
        rw [nI_pred] at h2
        exact Nat.lt_succ_of_le (nlt_nI (by omega) hk h2)
/-- and so with a bound that is told -/
theorem in_of {r a b : Int32} (h : ¬ p_in r a b = 0) : ¬ r < a ∧ ¬ b < r := by
  unfold p_in at h
  split at h
  · exact absurd rfl h
  · rename_i h1
    split at h
    · exact absurd rfl h
    · rename_i h2
      exact ⟨h1, h2⟩
theorem in_0 {r b : Int32} {m : Nat} (h : ¬ p_in r 0 b = 0) (hb : b = nI m) (hm : m < 2 ^ 31) : ∃ k, k ≤ m ∧ r = nI k := by
  obtain ⟨h1, h2⟩ := in_of h
  obtain ⟨k, hk, e⟩ := nI_of h1
  subst e
  subst hb
  exact ⟨k, nlt_nI hm hk h2, rfl⟩
/-- calls, as functions of what is shown -/
def c_told (what v : Int32) : Int32 := if what = 0 then p_in v 0 15 else if what = 1 then p_in v 0 99 else if what = 2 then p_in v (-1) 1 else if what = 3 then p_in v 0 50 else if what = 4 then p_in v 20 99 else 0
def M_cloud (μ : MO) (what v : Int32) : Int32 × MO := if c_told what v = 0 then (-1000000001, sFnd μ 0) else (μ.1 what.toNatClampNeg, sRow μ (upd μ.1 what.toNatClampNeg v))
def M_cloudOf (μ : MO) (what : Int32) : Int32 × MO := if p_in what 0 4 = 0 then (-1000000001, sFnd μ 0) else (μ.1 what.toNatClampNeg, μ)
def M_rod (μ : MO) (kind place : Int32) : Int32 × MO :=
  if p_in kind 0 5 = 0 then (-1000000001, sFnd μ 0) else if p_in place 0 15 = 0 then (-1000000001, sFnd μ 0) else if μ.1 8 = 8 then (-1000000002, sFnd μ 1)
  else (nI (nR μ), sRow μ (p_add μ.1 (nR μ) kind place 10 0 0))
def M_of (μ : MO) (r what : Int32) : Int32 × MO :=
  if p_in r 0 (μ.1 8 - 1) = 0 then (-1000000001, sFnd μ 0) else if p_in what 0 9 = 0 then (-1000000001, sFnd μ 0)
  else if what = 7 then (p_draws μ.1 r.toNatClampNeg (μ.1 0), μ) else if what = 8 then (p_owes μ.1 r.toNatClampNeg (μ.1 1), μ) else if what = 9 then (p_isPaid μ.1 r.toNatClampNeg, μ)
  else (μ.1 (9 + 7 * r.toNatClampNeg + what.toNatClampNeg), μ)
def s_told (what v : Int32) : Int32 := if what = 1 then p_in v 0 15 else if what = 2 then p_in v 0 60 else 0
def M_set (μ : MO) (r what v : Int32) : Int32 × MO :=
  if p_in r 0 (μ.1 8 - 1) = 0 then (-1000000001, sFnd μ 0) else if s_told what v = 0 then (-1000000001, sFnd μ 0)
  else (μ.1 (9 + 7 * r.toNatClampNeg + what.toNatClampNeg), sRow μ (upd μ.1 (9 + 7 * r.toNatClampNeg + what.toNatClampNeg) v))
def M_pays (μ : MO) (r a b : Int32) : Int32 × MO :=
  if p_in r 0 (μ.1 8 - 1) = 0 then (-1000000001, sFnd μ 0) else if p_in a 0 23 = 0 then (-1000000001, sFnd μ 0) else if p_in b 0 23 = 0 then (-1000000001, sFnd μ 0)
  else (p_paidMany (upd (upd μ.1 (9 + 7 * r.toNatClampNeg + 3) a) (9 + 7 * r.toNatClampNeg + 4) b) r.toNatClampNeg, sRow μ (upd (upd μ.1 (9 + 7 * r.toNatClampNeg + 3) a) (9 + 7 * r.toNatClampNeg + 4) b))
def M_turn (μ : MO) (r kind : Int32) : Int32 × MO :=
  if p_in r 0 (μ.1 8 - 1) = 0 then (-1000000001, sFnd μ 0) else if p_in kind 0 5 = 0 then (-1000000001, sFnd μ 0)
  else (μ.1 (9 + 7 * r.toNatClampNeg), sRow μ (upd μ.1 (9 + 7 * r.toNatClampNeg) kind))
def M_as2 (μ : MO) (k : Nat) (kind : Int32) : Int32 × MO :=
  if kind = 0 then (μ.1 (9 + 7 * k + 2), μ) else if kind = μ.1 (9 + 7 * k) then (μ.1 (9 + 7 * k + 2), μ)
  else if kind = 1 ∧ μ.1 (9 + 7 * k) = 4 then (μ.1 (9 + 7 * k + 2), μ) else if kind = 2 ∧ μ.1 (9 + 7 * k) = 5 then (μ.1 (9 + 7 * k + 2), μ)
  else (-1000000003, sFnd μ 2)
def M_as (μ : MO) (r kind : Int32) : Int32 × MO :=
  if p_in r 0 (μ.1 8 - 1) = 0 then (-1000000001, sFnd μ 0) else if p_in kind 0 5 = 0 then (-1000000001, sFnd μ 0) else M_as2 μ r.toNatClampNeg kind
def M_down (μ : MO) (r : Int32) : Int32 × MO :=
  if p_in r 0 (μ.1 8 - 1) = 0 then (-1000000001, sFnd μ 0) else (μ.1 (9 + 7 * r.toNatClampNeg + 5), sRow μ (p_down μ.1 (nR μ) r.toNatClampNeg))
def M_settle (μ : MO) (r : Int32) : Int32 × MO :=
  if p_in r 0 (μ.1 8 - 1) = 0 then (-1000000001, sFnd μ 0) else (μ.1 (9 + 7 * r.toNatClampNeg + 5), sRow μ (upd μ.1 (9 + 7 * r.toNatClampNeg + 5) 0))
def M_hours (μ : MO) (q : Int32) : Int32 × MO :=
  if p_in q 1 100 = 0 then (-1000000001, sFnd μ 0) else if 9999 < μ.1 5 + q then (-1000000005, sFnd μ 4)
  else (p_sum (p_pass μ.1 (nR μ) q.toNatClampNeg) 5 (nR μ), sRow μ (p_pass μ.1 (nR μ) q.toNatClampNeg))
def p_draw (f : Nat → Int32) : Nat → Int32 :=
  let g := upd f 7 (f 7 * 1103515245 + 12345)
  upd g 2 (p_rem ((g 7).toUInt32 >>> (Int32.toUInt32 8 &&& Int32.toUInt32 31)).toInt32 3 - 1)
def p_days (f : Nat → Int32) (n : Nat) : Nat → Nat → Int32
  | 0 => f
  | i + 1 => p_pass (p_draw (p_days f n i)) n 24
def M_days (μ : MO) (q : Int32) : Int32 × MO :=
  if p_in q 1 4 = 0 then (-1000000001, sFnd μ 0) else if 9999 < μ.1 5 + 24 * q then (-1000000005, sFnd μ 4)
  else (p_sum (p_days μ.1 (nR μ) q.toNatClampNeg) 5 (nR μ), sRow μ (p_days μ.1 (nR μ) q.toNatClampNeg))
def M_seed (μ : MO) (v : Int32) : Int32 × MO := (μ.1 7, sRow μ (upd μ.1 7 v))
def M_now (μ : MO) (what : Int32) : Int32 × MO :=
  if what = 0 then (μ.1 5, μ) else if what = 1 then (p_clock μ.1, μ) else if what = 2 then (p_sum μ.1 5 (nR μ), μ) else if what = 3 then (p_sum μ.1 6 (nR μ), μ) else if what = 4 then (μ.1 6, μ) else if what = 5 then (p_paidSet μ.1 (nR μ), μ) else (-1000000001, sFnd μ 0)
def M_on (μ : MO) (r q what : Int32) : Int32 × MO :=
  if p_in r 0 (μ.1 8 - 1) = 0 then (-1000000001, sFnd μ 0) else if p_in q 0 100 = 0 then (-1000000001, sFnd μ 0) else if p_in what 0 1 = 0 then (-1000000001, sFnd μ 0)
  else if what = 0 then (p_pass μ.1 (nR μ) q.toNatClampNeg (9 + 7 * r.toNatClampNeg + 5), μ) else (p_pass μ.1 (nR μ) q.toNatClampNeg (9 + 7 * r.toNatClampNeg + 6), μ)
def M_next (μ : MO) (what : Int32) : Int32 × MO :=
  if p_in what 0 3 = 0 then (-1000000001, sFnd μ 0) else if p_nx μ.1 (nR μ) < 100 then
    (if what = 0 then nI (p_nx μ.1 (nR μ)) else if what = 1 then oI (p_strk (p_nf μ.1 (nR μ)) (nR μ) (p_nf μ.1 (nR μ) 0)) else if what = 2 then p_nf μ.1 (nR μ) 1 else p_nf μ.1 (nR μ) 0, μ)
  else (-1000000004, sFnd μ 3)
def M_struck (μ : MO) (place : Int32) : Int32 × MO := if p_in place 0 15 = 0 then (-1000000001, sFnd μ 0) else (oI (p_strk μ.1 (nR μ) place), μ)
def p_reach (f : Nat → Int32) (n k : Nat) : Nat → Int32
  | 0 => 0
  | p + 1 => p_reach f n k p ||| (if oI (p_strk f n (nI p)) = nI k then (1 : Int32) <<< (nI p &&& 31) else 0)
def M_reach (μ : MO) (r : Int32) : Int32 × MO := if p_in r 0 (μ.1 8 - 1) = 0 then (-1000000001, sFnd μ 0) else (p_reach μ.1 (nR μ) r.toNatClampNeg 16, μ)
