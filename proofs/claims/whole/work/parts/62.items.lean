/-! items of the text, as the class reads them -/
section RIT
variable (g : Nat → Int32) (t : Nat)
def r_fr (f : Nat → Int32) (n : Nat) (kx pl hh : Int32) (q : Nat) : PS :=
  if t_is g t q 131638 = 0 then (p_add f n kx pl hh 0 0, 1, q)
  else if isN g t (tkE g t q) 0 23 = 0 then (f, 0, tkE g t q)
  else if t_is g t (tkE g t (tkE g t q)) 555 = 0 then (f, 0, tkE g t (tkE g t q))
  else if isN g t (tkE g t (tkE g t (tkE g t q))) 0 23 = 0 then (f, 0, tkE g t (tkE g t (tkE g t q)))
  else (p_add f n kx pl hh (tkV g t (tkE g t q)) (tkV g t (tkE g t (tkE g t (tkE g t q)))), 1, tkE g t (tkE g t (tkE g t (tkE g t q))))
def r_hi (f : Nat → Int32) (n : Nat) (kx pl : Int32) (q : Nat) : PS :=
  if t_is g t q 164222 = 0 then r_fr g t f n kx pl 10 q
  else if isN g t (tkE g t q) 0 60 = 0 then (f, 0, tkE g t q)
  else r_fr g t f n kx pl (tkV g t (tkE g t q)) (tkE g t (tkE g t q))
def r_rod (f : Nat → Int32) (n : Nat) (kx : Int32) (p : Nat) : PS :=
  if n < 8 then
    (if t_is g t (tkE g t p) 47 = 0 then (f, 0, tkE g t p)
    else if isN g t (tkE g t (tkE g t p)) 0 15 = 0 then (f, 0, tkE g t (tkE g t p))
    else r_hi g t f n kx (tkV g t (tkE g t (tkE g t p))) (tkE g t (tkE g t (tkE g t p))))
  else (f, 0, p)
def r_dr (f : Nat → Int32) (q : Nat) : PS :=
  if t_is g t q 240023 = 0 then (if t_is g t q 9748424 = 0 then (if t_is g t q 10497936 = 0 then (f, 1, q) else (upd f 2 0, 1, tkE g t q)) else (upd f 2 1, 1, tkE g t q)) else (upd f 2 (-1), 1, tkE g t q)
def r_ch (f0 f : Nat → Int32) (q : Nat) : PS :=
  if t_is g t q 47331248 = 0 then r_dr g t f q
  else if isN g t (tkE g t q) 0 99 = 0 then (f0, 0, tkE g t q)
  else r_dr g t (upd f 1 (tkV g t (tkE g t q))) (tkE g t (tkE g t q))
def r_cloud (f : Nat → Int32) (q : Nat) : PS :=
  if isN g t q 0 15 = 0 then (f, 0, q) else r_ch g t f (upd f 0 (tkV g t q)) (tkE g t q)
def r_rule (f : Nat → Int32) (k : Nat) (a b : Int32) (q : Nat) : PS :=
  if isN g t q a b = 0 then (f, 0, q) else (upd f k (tkV g t q), 1, tkE g t q)
end RIT
theorem gd_isN (g : Nat → Int32) (t : Nat) (a b : Int32) (f : Nat → Int32) (q : Nat) : t_gd g t a b (f, 1, q) = isN g t q a b := by
  unfold t_gd isN
  rw [if_neg (show ¬ ((f, (1 : Int32), q) : PS).2.1 = 0 from show ¬ (1 : Int32) = 0 by decide)]
theorem num_y {g : Nat → Int32} {t : Nat} {a b : Int32} {f : Nat → Int32} {q : Nat} (h : ¬ isN g t q a b = 0) : t_num g t a b (f, 1, q) = (f, 1, tkE g t q) := by
  unfold t_num
  rw [gd_isN, if_neg h, z_not h (isN_01 _ _ _ _ _)]
theorem num_n {g : Nat → Int32} {t : Nat} {a b : Int32} {f : Nat → Int32} {q : Nat} (h : isN g t q a b = 0) : t_num g t a b (f, 1, q) = (f, 0, q) := by
  unfold t_num
  rw [gd_isN, if_pos h, h]
theorem adv_e (g : Nat → Int32) (t : Nat) (f : Nat → Int32) (v : Int32) (q : Nat) : t_adv g t (f, v, q) = (f, v, tkE g t q) := rfl
theorem may_0 (g : Nat → Int32) (t : Nat) (w : Int64) (a b d : Int32) (f : Nat → Int32) (q : Nat) : t_may g t w a b d (f, 0, q) = (d, f, 0, q) := if_pos rfl
theorem may_n {g : Nat → Int32} {t : Nat} {w : Int64} {a b d : Int32} {f : Nat → Int32} {q : Nat} (h : t_is g t q w = 0) : t_may g t w a b d (f, 1, q) = (d, f, 1, q) := by
  unfold t_may
  rw [if_neg (show ¬ ((f, (1 : Int32), q) : PS).2.1 = 0 from show ¬ (1 : Int32) = 0 by decide), if_pos (show t_is g t ((f, (1 : Int32), q) : PS).2.2 w = 0 from h)]
theorem may_y {g : Nat → Int32} {t : Nat} {w : Int64} {a b d : Int32} {f : Nat → Int32} {q : Nat} (h : ¬ t_is g t q w = 0) : t_may g t w a b d (f, 1, q) = (tkV g t (tkE g t q), t_num g t a b (f, 1, tkE g t q)) := by
  unfold t_may
  rw [if_neg (show ¬ ((f, (1 : Int32), q) : PS).2.1 = 0 from show ¬ (1 : Int32) = 0 by decide), if_neg (show ¬ t_is g t ((f, (1 : Int32), q) : PS).2.2 w = 0 from h)]
  rfl
theorem fr_eq {g : Nat → Int32} {t : Nat} {f : Nat → Int32} {n q : Nat} {kx pl hh zf : Int32} {y5 y6 y8 : Int32 × PS} {y7 : PS} (h5 : y5 = (hh, f, 1, q)) (eF : zf = (if y5.2.2.1 = 0 then 0 else if t_is g t y5.2.2.2 131638 = 0 then 0 else 1)) (e6 : y6 = t_may g t 131638 0 23 0 y5.2) (e7 : y7 = (if zf = 0 then y6.2 else if y6.2.2.1 = 0 then y6.2 else (y6.2.1, t_is g t y6.2.2.2 555, y6.2.2.2))) (e8 : y8 = (if zf = 0 then (0, y7) else t_may g t 555 0 23 0 y7)) : (if y8.2.2.1 = 0 then y8.2 else (p_add y8.2.1 n kx pl y5.1 y6.1 y8.1, y8.2.2)) = r_fr g t f n kx pl hh q := by
  subst h5
  have eF2 : zf = if t_is g t q 131638 = 0 then 0 else 1 := by
    rw [eF]
    exact if_neg (show ¬ (1 : Int32) = 0 by decide)
  unfold r_fr
  by_cases h1 : t_is g t q 131638 = 0
  · rw [if_pos h1] at eF2
    have a6 : y6 = (0, f, 1, q) := by rw [e6]; exact may_n h1
    have a7 : y7 = (f, 1, q) := by rw [e7, if_pos eF2, a6]
    have a8 : y8 = (0, f, 1, q) := by rw [e8, if_pos eF2, a7]
    rw [if_pos h1, a8, a6]
    exact if_neg (show ¬ (1 : Int32) = 0 by decide)
  · rw [if_neg h1] at eF2
    have z1 : ¬ zf = 0 := by rw [eF2]; decide
    rw [if_neg h1]
    by_cases h2 : isN g t (tkE g t q) 0 23 = 0
    · have a6 : y6 = (tkV g t (tkE g t q), f, 0, tkE g t q) := by rw [e6]; exact (may_y h1).trans (by rw [num_n h2])
      have a7 : y7 = (f, 0, tkE g t q) := by rw [e7, if_neg z1, a6]; exact if_pos rfl
      have a8 : y8 = (0, f, 0, tkE g t q) := by rw [e8, if_neg z1, a7]; exact may_0 _ _ _ _ _ _ _ _
      rw [if_pos h2, a8]
      exact if_pos rfl
    · have a6 : y6 = (tkV g t (tkE g t q), f, 1, tkE g t (tkE g t q)) := by rw [e6]; exact (may_y h1).trans (by rw [num_y h2])
      have a7 : y7 = (f, t_is g t (tkE g t (tkE g t q)) 555, tkE g t (tkE g t q)) := by rw [e7, if_neg z1, a6]; exact if_neg (show ¬ (1 : Int32) = 0 by decide)
      rw [if_neg h2]
      by_cases h3 : t_is g t (tkE g t (tkE g t q)) 555 = 0
      · have a8 : y8 = (0, f, 0, tkE g t (tkE g t q)) := by rw [e8, if_neg z1, a7, h3]; exact may_0 _ _ _ _ _ _ _ _
        rw [if_pos h3, a8]
        exact if_pos rfl
      · have a7' : y7 = (f, 1, tkE g t (tkE g t q)) := by rw [a7, z_not h3 (t_is_01 _ _ _ _)]
        rw [if_neg h3]
        by_cases h4 : isN g t (tkE g t (tkE g t (tkE g t q))) 0 23 = 0
        · have a8 : y8 = (tkV g t (tkE g t (tkE g t (tkE g t q))), f, 0, tkE g t (tkE g t (tkE g t q))) := by rw [e8, if_neg z1, a7']; exact (may_y h3).trans (by rw [num_n h4])
          rw [if_pos h4, a8]
          exact if_pos rfl
        · have a8 : y8 = (tkV g t (tkE g t (tkE g t (tkE g t q))), f, 1, tkE g t (tkE g t (tkE g t (tkE g t q)))) := by rw [e8, if_neg z1, a7']; exact (may_y h3).trans (by rw [num_y h4])
          rw [if_neg h4, a8, a6]
          exact if_neg (show ¬ (1 : Int32) = 0 by decide)
theorem rod_eq {g : Nat → Int32} {t : Nat} {f : Nat → Int32} {n p : Nat} {kx : Int32} (hn : f 8 = nI n) (h8 : n ≤ 8) : t_rod g t (f, 1, p) kx = r_rod g t f n kx p := by
  obtain ⟨y0, y1, y2, y3, y4, y5, zf, y6, y7, y8, e0, e1, e2, e3, e4, e5, eF, e6, e7, e8, eR⟩ := t_rod_ex g t (f, 1, p) kx
  rw [eR]
  have hcn : (((f, (1 : Int32), p) : PS).1 8).toNatClampNeg = n := by
    show (f 8).toNatClampNeg = n
    rw [hn]
    exact nI_clamp (by omega)
  rw [hcn]
  unfold r_rod
  by_cases hf : n < 8
  · rw [if_pos hf]
    have c8 : f 8 < 8 := by rw [hn]; exact (nI_ltI (b := 8) (by omega) (by decide)).mpr hf
    have a0 : y0 = (f, 1, p) := by
      rw [e0]
      show (f, (if f 8 < 8 then (1 : Int32) else 0), p) = _
      rw [if_pos c8]
    have a1 : y1 = (f, 1, tkE g t p) := by rw [e1, a0, adv_e]
    have a2 : y2 = (f, t_is g t (tkE g t p) 47, tkE g t p) := by rw [e2, a1]
    rw [a0, if_neg (show ¬ ((f, (1 : Int32), p) : PS).2.1 = 0 from show ¬ (1 : Int32) = 0 by decide)]
    by_cases h1 : t_is g t (tkE g t p) 47 = 0
    · have a2' : y2 = (f, 0, tkE g t p) := by rw [a2, h1]
      rw [if_pos h1, a2']
      exact if_pos rfl
    · have a2' : y2 = (f, 1, tkE g t p) := by rw [a2, z_not h1 (t_is_01 _ _ _ _)]
      have a3 : y3 = (f, 1, tkE g t (tkE g t p)) := by rw [e3, a2', adv_e]
      rw [if_neg h1, a2', if_neg (show ¬ ((f, (1 : Int32), tkE g t p) : PS).2.1 = 0 from show ¬ (1 : Int32) = 0 by decide), a3]
      by_cases h2 : isN g t (tkE g t (tkE g t p)) 0 15 = 0
      · have a4 : y4 = (f, 0, tkE g t (tkE g t p)) := by rw [e4, a3]; exact num_n h2
        have a5 : y5 = (10, f, 0, tkE g t (tkE g t p)) := by rw [e5, a4]; exact may_0 _ _ _ _ _ _ _ _
        have aF : zf = 0 := by rw [eF, a5]; exact if_pos rfl
        have a6 : y6 = (0, f, 0, tkE g t (tkE g t p)) := by rw [e6, a5]; exact may_0 _ _ _ _ _ _ _ _
        have a7 : y7 = (f, 0, tkE g t (tkE g t p)) := by rw [e7, if_pos aF, a6]
        have a8 : y8 = (0, f, 0, tkE g t (tkE g t p)) := by rw [e8, if_pos aF, a7]
        rw [if_pos h2, a8]
        exact if_pos rfl
      · have a4 : y4 = (f, 1, tkE g t (tkE g t (tkE g t p))) := by rw [e4, a3]; exact num_y h2
        rw [if_neg h2]
        unfold r_hi
        by_cases h3 : t_is g t (tkE g t (tkE g t (tkE g t p))) 164222 = 0
        · have a5 : y5 = (10, f, 1, tkE g t (tkE g t (tkE g t p))) := by rw [e5, a4]; exact may_n h3
          rw [if_pos h3]
          exact fr_eq a5 eF e6 e7 e8
        · rw [if_neg h3]
          by_cases h4 : isN g t (tkE g t (tkE g t (tkE g t (tkE g t p)))) 0 60 = 0
          · have a5 : y5 = (tkV g t (tkE g t (tkE g t (tkE g t (tkE g t p)))), f, 0, tkE g t (tkE g t (tkE g t (tkE g t p)))) := by rw [e5, a4]; exact (may_y h3).trans (by rw [num_n h4])
            have aF : zf = 0 := by rw [eF, a5]; exact if_pos rfl
            have a6 : y6 = (0, f, 0, tkE g t (tkE g t (tkE g t (tkE g t p)))) := by rw [e6, a5]; exact may_0 _ _ _ _ _ _ _ _
            have a7 : y7 = (f, 0, tkE g t (tkE g t (tkE g t (tkE g t p)))) := by rw [e7, if_pos aF, a6]
            have a8 : y8 = (0, f, 0, tkE g t (tkE g t (tkE g t (tkE g t p)))) := by rw [e8, if_pos aF, a7]
            rw [if_pos h4, a8]
            exact if_pos rfl
          · have a5 : y5 = (tkV g t (tkE g t (tkE g t (tkE g t (tkE g t p)))), f, 1, tkE g t (tkE g t (tkE g t (tkE g t (tkE g t p))))) := by rw [e5, a4]; exact (may_y h3).trans (by rw [num_y h4])
            rw [if_neg h4]
            exact fr_eq a5 eF e6 e7 e8
  · rw [if_neg hf]
    have c8 : ¬ f 8 < 8 := by rw [hn]; exact fun z => hf ((nI_ltI (b := 8) (by omega) (by decide)).mp z)
    have a0 : y0 = (f, 0, p) := by
      rw [e0]
      show (f, (if f 8 < 8 then (1 : Int32) else 0), p) = _
      rw [if_neg c8]
    rw [a0]
    exact if_pos rfl
theorem rule_eq (g : Nat → Int32) (t : Nat) (f : Nat → Int32) (k p : Nat) (a b : Int32) : t_rule g t k a b (f, 1, p) = r_rule g t f k a b (tkE g t p) := by
  unfold t_rule r_rule
  rw [adv_e]
  by_cases h : isN g t (tkE g t p) a b = 0
  · rw [num_n h, if_pos h]
    exact if_pos rfl
  · rw [num_y h, if_neg h]
    exact if_neg (show ¬ (1 : Int32) = 0 by decide)
theorem dir_eq {g : Nat → Int32} {t : Nat} {f f0 : Nat → Int32} {q : Nat} {v1 v2 : Int32} (h2 : upd (upd f0 0 v1) 1 v2 = f) (hd : f 2 = f0 2) : t_cl3 g t v1 v2 (t_dir g t (f0, 1, q)) (t_dirS g t (f0, 1, q)) = r_dr g t f q := by
  have hg : ∀ a : PS, a = (f0, 1, q) ∨ a = (f0, 1, tkE g t q) → ∀ v3, t_cl3 g t v1 v2 v3 a = (upd f 2 v3, a.2) := fun a ha v3 => by
    unfold t_cl3
    rcases ha with rfl | rfl
    · rw [if_neg (show ¬ ((f0, (1 : Int32), q) : PS).2.1 = 0 from show ¬ (1 : Int32) = 0 by decide), h2]
    · rw [if_neg (show ¬ ((f0, (1 : Int32), tkE g t q) : PS).2.1 = 0 from show ¬ (1 : Int32) = 0 by decide), h2]
  have hi : t_isDir g t (f0, 1, q) = if t_is g t q 240023 = 0 then (if t_is g t q 9748424 = 0 then (if t_is g t q 10497936 = 0 then 0 else 1) else 1) else 1 := by
    unfold t_isDir
    exact if_neg (show ¬ (1 : Int32) = 0 by decide)
  unfold t_dir t_dirS r_dr
  rw [hi]
  show t_cl3 g t v1 v2 (if (if t_is g t q 240023 = 0 then (if t_is g t q 9748424 = 0 then (if t_is g t q 10497936 = 0 then 0 else 1) else 1) else (1 : Int32)) = 0 then f0 2 else if t_is g t q 240023 = 0 then (if t_is g t q 9748424 = 0 then 0 else 1) else -1) _ = _
  rw [adv_e]
  by_cases c1 : t_is g t q 240023 = 0
  · rw [if_pos c1, if_pos c1, if_pos c1]
    by_cases c2 : t_is g t q 9748424 = 0
    · rw [if_pos c2, if_pos c2, if_pos c2]
      by_cases c3 : t_is g t q 10497936 = 0
      · rw [if_pos c3, if_pos rfl, if_pos rfl, if_pos c3, hg _ (Or.inl rfl), ← hd, upd_same]
      · rw [if_neg c3, if_neg (by decide), if_neg (by decide), if_neg c3, hg _ (Or.inr rfl)]
    · rw [if_neg c2, if_neg c2, if_neg c2, if_neg (by decide), if_neg (by decide), hg _ (Or.inr rfl)]
  · rw [if_neg c1, if_neg c1, if_neg c1, if_neg (by decide), if_neg (by decide), hg _ (Or.inr rfl)]
theorem cloud_eq (g : Nat → Int32) (t : Nat) (f : Nat → Int32) (p : Nat) : t_cloud g t (f, 1, p) = r_cloud g t f (tkE g t p) := by
  have hb : ∀ (v1 v2 v3 : Int32) (q : Nat), t_cl3 g t v1 v2 (t_dir g t (f, 0, q)) (t_dirS g t (f, 0, q)) = (f, 0, q) := fun v1 v2 v3 q => by
    have hi : t_isDir g t (f, 0, q) = 0 := if_pos rfl
    unfold t_dirS t_cl3
    rw [if_pos hi]
    exact if_pos rfl
  unfold t_cloud r_cloud
  by_cases h1 : isN g t (tkE g t p) 0 15 = 0
  · have a1 : t_cl1 g t (f, 1, p) = (f, 0, tkE g t p) := by unfold t_cl1; rw [adv_e]; exact num_n h1
    have a2 : t_cl2 g t (f, 1, p) = (f 1, f, 0, tkE g t p) := by unfold t_cl2; rw [a1]; exact may_0 _ _ _ _ _ _ _ _
    rw [a2, if_pos h1]
    exact hb _ _ 0 _
  · have a1 : t_cl1 g t (f, 1, p) = (f, 1, tkE g t (tkE g t p)) := by unfold t_cl1; rw [adv_e]; exact num_y h1
    rw [if_neg h1]
    unfold r_ch
    by_cases h2 : t_is g t (tkE g t (tkE g t p)) 47331248 = 0
    · have a2 : t_cl2 g t (f, 1, p) = (f 1, f, 1, tkE g t (tkE g t p)) := by unfold t_cl2; rw [a1]; exact may_n h2
      rw [a2, if_pos h2]
      refine dir_eq ?_ (updN (by decide))
      show upd (upd f 0 (tkV g t (tkE g t p))) 1 (f 1) = _
      have e1 : f 1 = upd f 0 (tkV g t (tkE g t p)) 1 := (updN (by decide)).symm
      rw [e1, upd_same]
    · rw [if_neg h2]
      by_cases h3 : isN g t (tkE g t (tkE g t (tkE g t p))) 0 99 = 0
      · have a2 : t_cl2 g t (f, 1, p) = (tkV g t (tkE g t (tkE g t (tkE g t p))), f, 0, tkE g t (tkE g t (tkE g t p))) := by unfold t_cl2; rw [a1]; exact (may_y h2).trans (by rw [num_n h3])
        rw [a2, if_pos h3]
        exact hb _ _ 0 _
      · have a2 : t_cl2 g t (f, 1, p) = (tkV g t (tkE g t (tkE g t (tkE g t p))), f, 1, tkE g t (tkE g t (tkE g t (tkE g t p)))) := by unfold t_cl2; rw [a1]; exact (may_y h2).trans (by rw [num_y h3])
        rw [a2, if_neg h3]
        exact dir_eq rfl (by rw [updN (by decide), updN (by decide)])
