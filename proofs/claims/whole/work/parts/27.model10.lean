set_option maxRecDepth 100000 in
set_option maxHeartbeats 800000 in
theorem e7_byteAt (G : GT) (σ : Sg) (k : Nat) (hk : k ≤ 200) (tt : Nat) (htt : σ.1 50 10 = nI tt) (ht120 : tt ≤ 120) (gg : Nat → Int32) (hgg : σ.1 55 = gg) : Evi G mX7_byteAt [.ref 50, .int (nI k)] σ (bt gg tt k) (σ) := by
  refine Ev.ofL (m := 0) (L := [some (.ref 50), some (.int (nI k))]) rfl (Nat.le_of_ble_eq_true rfl) rfl rfl ?_
  refine w_iload_n dX7_byteAt_0 rfl ?_
  refine w_aload_n dX7_byteAt_1 rfl ?_
  refine w_getI dX7_byteAt_2 fl_X7_172 rfl rfl ?_
  refine w_eqi htt ?_
  · skip
    refine w2_icmp_ge (t := 17) dX7_byteAt_5 (by decide) (fun hz1 => ?_) (fun hz1 => ?_)
    · skip
      have hge := nlt_nI (by omega) (by omega) hz1
      refine w_iconst dX7_byteAt_17 ic_m1 ?_
      refine w_iret dX7_byteAt_18 rfl ?_
      exact ⟨by rw [bt_ge hge], rfl⟩
    · skip
      have hlt := lt_nI (by omega) (by omega) hz1
      refine w_aload_n dX7_byteAt_8 rfl ?_
      refine w_getR (t := 55) dX7_byteAt_9 fl_X7_22 rfl (by decide) (by decide) rfl ?_
      refine w_iload_n dX7_byteAt_12 rfl ?_
      refine w_iald (j := k) dX7_byteAt_13 rfl (by decide) rfl (show k < 120 by omega) ?_
      refine w_goto (t := 18) dX7_byteAt_14 (by decide) ?_
      refine w_iret dX7_byteAt_18 rfl ?_
      exact ⟨by rw [bt_lt hlt, ← hgg], rfl⟩
set_option maxRecDepth 100000 in
set_option maxHeartbeats 800000 in
theorem e7_isLetter (G : GT) (σ : Sg) (r : Int32) : Evi G mX7_isLetter [.int r] σ (p_in r 97 122) (σ) := by
  refine Ev.ofL (m := 0) (L := [some (.int r)]) rfl (Nat.le_of_ble_eq_true rfl) rfl rfl ?_
  refine w_iload_n dX7_isLetter_0 rfl ?_
  refine w_bipush dX7_isLetter_1 bp_97 ?_
  refine w_bipush dX7_isLetter_3 bp_122 ?_
  refine w_callSi dX7_isLetter_5 ml_X7_45 ms_X7_in rfl (e7_in G _ _ _ _) rfl rfl (Nat.le_of_ble_eq_true rfl) ?_
  refine w_zret dX7_isLetter_8 rfl (p_in_z _ _ _) ?_
  exact ⟨rfl, rfl⟩
set_option maxRecDepth 100000 in
set_option maxHeartbeats 800000 in
theorem e7_isDigit (G : GT) (σ : Sg) (r : Int32) : Evi G mX7_isDigit [.int r] σ (p_in r 48 57) (σ) := by
  refine Ev.ofL (m := 0) (L := [some (.int r)]) rfl (Nat.le_of_ble_eq_true rfl) rfl rfl ?_
  refine w_iload_n dX7_isDigit_0 rfl ?_
  refine w_bipush dX7_isDigit_1 bp_48 ?_
  refine w_bipush dX7_isDigit_3 bp_57 ?_
  refine w_callSi dX7_isDigit_5 ml_X7_45 ms_X7_in rfl (e7_in G _ _ _ _) rfl rfl (Nat.le_of_ble_eq_true rfl) ?_
  refine w_zret dX7_isDigit_8 rfl (p_in_z _ _ _) ?_
  exact ⟨rfl, rfl⟩
set_option maxRecDepth 100000 in
set_option maxHeartbeats 800000 in
theorem adv207a (G : GT) (σ : Sg) (xx : Int32) (PP : Option Value → Sg → Prop) (hs : ¬ σ.1 50 11 = 2) (hP : PP none σ) : WP G mX7_advance 207 [some (.ref 50), some (.int xx)] [] (σ) (PP) := by
  refine w_aload_n dX7_advance_207 rfl ?_
  refine w_getI dX7_advance_208 fl_X7_190 rfl rfl ?_
  refine w_iconst dX7_advance_211 ic_2 ?_
  refine w_icmp_ne (t := 280) dX7_advance_212 (by decide) (fun hz1 => ?_) (fun hz1 => absurd hz1 hs)
  refine w_vret dX7_advance_280 rfl ?_
  exact hP
set_option maxRecDepth 100000 in
set_option maxHeartbeats 800000 in
theorem adv126a (G : GT) (σ : Sg) (xx : Int32) (PP : Option Value → Sg → Prop) (hs : ¬ σ.1 50 11 = 1) (hP : WP G mX7_advance 207 [some (.ref 50), some (.int xx)] [] σ PP) : WP G mX7_advance 126 [some (.ref 50), some (.int xx)] [] (σ) (PP) := by
  refine w_aload_n dX7_advance_126 rfl ?_
  refine w_getI dX7_advance_127 fl_X7_190 rfl rfl ?_
  refine w_iconst dX7_advance_130 ic_1 ?_
  refine w_icmp_ne (t := 207) dX7_advance_131 (by decide) (fun hz1 => ?_) (fun hz1 => absurd hz1 hs)
  exact hP
set_option maxRecDepth 100000 in
set_option maxHeartbeats 800000 in
theorem adv126b (G : GT) (σ : Sg) (xx yy : Int32) (b ee : Nat) (PP : Option Value → Sg → Prop) (tt : Nat) (htt : σ.1 50 10 = nI tt) (ht120 : tt ≤ 120) (gg : Nat → Int32) (hgg : σ.1 55 = gg) (hb : b + 0 ≤ tt) (s11 : σ.1 50 11 = 1) (s12 : σ.1 50 12 = nI b) (s13 : σ.1 50 13 = nI (b + 0)) (s14 : σ.2.1 50 14 = p_wc gg b 0) (s15 : σ.1 50 15 = yy) (hps : p_fst (isLe gg tt) (tt - (b + 0)) (b + 0) = ee) (hP : ∀ τ, Tq σ τ → τ.1 50 11 = 1 → τ.1 50 12 = nI b → τ.1 50 13 = nI ee → τ.2.1 50 14 = p_wc gg b (ee - b) → τ.1 50 15 = yy → PP none τ) : WP G mX7_advance 126 [some (.ref 50), some (.int xx)] [] (σ) (PP) := by
  have lp : ∀ (m : Nat) (d : Nat) (τ : Sg), tt + 1 - (b + d) < m → b + d ≤ tt → Tq σ τ → τ.1 50 11 = 1 → τ.1 50 12 = nI b → τ.1 50 13 = nI (b + d) → τ.2.1 50 14 = p_wc gg b d → τ.1 50 15 = yy → (p_fst (isLe gg tt) (tt - (b + d)) (b + d)) = ee → WP G mX7_advance 126 [some (.ref 50), some (.int xx)] [] (τ) PP := by
    intro m
    induction m with
    | zero => intro d τ hm; exact absurd hm (Nat.not_lt_zero _)
    | succ m ih =>
      intro d τ hm hd htq s11 s12 s13 s14 s15 hps
      refine w_aload_n dX7_advance_126 rfl ?_
      refine w_getI dX7_advance_127 fl_X7_190 rfl rfl ?_
      refine w_iconst dX7_advance_130 ic_1 ?_
      refine w_icmp_ne (t := 207) dX7_advance_131 (by decide) (fun hz1 => absurd s11 hz1) (fun hz1 => ?_)
      refine w_aload_n dX7_advance_134 rfl ?_
      refine w_aload_n dX7_advance_135 rfl ?_
      refine w_getI dX7_advance_136 fl_X7_175 rfl rfl ?_
      refine w_eqi s13 ?_
      · skip
        refine w_callVi dX7_advance_139 ml_X7_181 mv_X7_byteAt rfl rfl (by decide) rfl (e7_byteAt G _ (b + d) (by omega) tt (htq.c10.trans htt) ht120 gg (htq.c55.trans hgg)) rfl rfl (Nat.le_of_ble_eq_true rfl) ?_
        refine w_callSi dX7_advance_142 ml_X7_184 ms_X7_isLetter rfl (e7_isLetter G _ _) rfl rfl (Nat.le_of_ble_eq_true rfl) ?_
        refine w_if_eq (t := 207) dX7_advance_145 (by decide) (fun hz2 => ?_) (fun hz2 => ?_)
        · skip
          refine adv207a G _ _ _ (by rw [s11]; decide) ?_
          rw [p_fst_stop (isLe_1 hz2)] at hps
          subst hps
          exact hP τ htq s11 s12 s13 (by rw [s14, Nat.add_sub_cancel_left]) s15
        · skip
          have hle := hz2
          have hlt : b + d < tt := bt_in (by decide) hle
          refine w_aload_n dX7_advance_148 rfl ?_
          refine w_aload_n dX7_advance_149 rfl ?_
          refine w_getI dX7_advance_150 fl_X7_175 rfl rfl ?_
          refine w_aload_n dX7_advance_153 rfl ?_
          refine w_getI dX7_advance_154 fl_X7_178 rfl rfl ?_
          refine w_isub dX7_advance_157 ?_
          refine w_bipush dX7_advance_158 bp_12 ?_
          refine w2_icmp_ge (t := 188) dX7_advance_160 (by decide) (fun hz3 => ?_) (fun hz3 => ?_)
          · skip
            have hd12 : 12 ≤ d := by
              have hx := hz3
              rw [s13, s12, nI_sub2] at hx
              exact nlt_nI (n := 12) (by omega) (by decide) hx
            refine w_ldc2 dX7_advance_188 kl_X7_204 ?_
            refine w_putL dX7_advance_191 fl_X7_193 rfl ?_
            refine w_aload_n dX7_advance_194 rfl ?_
            refine w_dup dX7_advance_195 rfl ?_
            refine w_getI dX7_advance_196 fl_X7_175 rfl rfl ?_
            refine w_iconst dX7_advance_199 ic_1 ?_
            refine w_iadd dX7_advance_200 ?_
            refine w_putI dX7_advance_201 fl_X7_175 rfl rfl (by decide +kernel) ?_
            refine w_goto (t := 126) dX7_advance_204 (by decide) ?_
            refine ih (d + 1) _ (by omega) (by omega) (htq.trans (Tq.wl.trans (Tq.w (by decide)))) ?_ ?_ ?_ ?_ ?_ ?_
            · exact (wI_k (by decide)).trans s11
            · exact (wI_k (by decide)).trans s12
            · refine (wI_s _ _ _ _).trans ?_
              show τ.1 50 13 + 1 = _
              rw [s13, nI_1]
              rfl
            · refine (wL_s _ _ _ _).trans ?_
              rw [p_wc_s, if_neg (Nat.not_lt.mpr hd12)]
            · exact (wI_k (by decide)).trans s15
            · rw [← hps, p_fst_go (isLe_0 hle) hlt]
              rfl
          · skip
            have hd12 : d < 12 := by
              have hx := hz3
              rw [s13, s12, nI_sub2] at hx
              exact lt_nI (n := 12) (by omega) (by decide) hx
            refine w_ldc2 dX7_advance_163 kl_X7_200 ?_
            refine w_aload_n dX7_advance_166 rfl ?_
            refine w_getL dX7_advance_167 fl_X7_193 rfl ?_
            refine w_lmul dX7_advance_170 ?_
            refine w_aload_n dX7_advance_171 rfl ?_
            refine w_aload_n dX7_advance_172 rfl ?_
            refine w_getI dX7_advance_173 fl_X7_175 rfl rfl ?_
            refine w_eqi s13 ?_
            · skip
              refine w_callVi dX7_advance_176 ml_X7_181 mv_X7_byteAt rfl rfl (by decide) rfl (e7_byteAt G _ (b + d) (by omega) tt (htq.c10.trans htt) ht120 gg (htq.c55.trans hgg)) rfl rfl (Nat.le_of_ble_eq_true rfl) ?_
              refine w_i2l dX7_advance_179 ?_
              refine w_ladd dX7_advance_180 ?_
              refine w_ldc2 dX7_advance_181 kl_X7_202 ?_
              refine w_lsub dX7_advance_184 ?_
              refine w_goto (t := 191) dX7_advance_185 (by decide) ?_
              refine w_putL dX7_advance_191 fl_X7_193 rfl ?_
              refine w_aload_n dX7_advance_194 rfl ?_
              refine w_dup dX7_advance_195 rfl ?_
              refine w_getI dX7_advance_196 fl_X7_175 rfl rfl ?_
              refine w_iconst dX7_advance_199 ic_1 ?_
              refine w_iadd dX7_advance_200 ?_
              refine w_putI dX7_advance_201 fl_X7_175 rfl rfl (by decide +kernel) ?_
              refine w_goto (t := 126) dX7_advance_204 (by decide) ?_
              refine ih (d + 1) _ (by omega) (by omega) (htq.trans (Tq.wl.trans (Tq.w (by decide)))) ?_ ?_ ?_ ?_ ?_ ?_
              · exact (wI_k (by decide)).trans s11
              · exact (wI_k (by decide)).trans s12
              · refine (wI_s _ _ _ _).trans ?_
                show τ.1 50 13 + 1 = _
                rw [s13, nI_1]
                rfl
              · refine (wL_s _ _ _ _).trans ?_
                rw [p_wc_s, if_pos hd12, bt_lt hlt, s14]
              · exact (wI_k (by decide)).trans s15
              · rw [← hps, p_fst_go (isLe_0 hle) hlt]
                rfl
  exact lp (tt + 2) 0 σ (by omega) hb Tq.rfl s11 s12 s13 s14 s15 hps
set_option maxRecDepth 100000 in
set_option maxHeartbeats 800000 in
theorem adv207b (G : GT) (σ : Sg) (xx : Int32) (yl : Int64) (b ee : Nat) (PP : Option Value → Sg → Prop) (tt : Nat) (htt : σ.1 50 10 = nI tt) (ht120 : tt ≤ 120) (gg : Nat → Int32) (hgg : σ.1 55 = gg) (hb : b + 0 ≤ tt) (s11 : σ.1 50 11 = 2) (s12 : σ.1 50 12 = nI b) (s13 : σ.1 50 13 = nI (b + 0)) (s14 : σ.2.1 50 14 = yl) (s15 : σ.1 50 15 = p_vc gg b 0) (hps : p_fst (isDi gg tt) (tt - (b + 0)) (b + 0) = ee) (hP : ∀ τ, Tq σ τ → τ.1 50 11 = 2 → τ.1 50 12 = nI b → τ.1 50 13 = nI ee → τ.2.1 50 14 = yl → τ.1 50 15 = p_vc gg b (ee - b) → PP none τ) : WP G mX7_advance 207 [some (.ref 50), some (.int xx)] [] (σ) (PP) := by
  have lp : ∀ (m : Nat) (d : Nat) (τ : Sg), tt + 1 - (b + d) < m → b + d ≤ tt → Tq σ τ → τ.1 50 11 = 2 → τ.1 50 12 = nI b → τ.1 50 13 = nI (b + d) → τ.2.1 50 14 = yl → τ.1 50 15 = p_vc gg b d → (p_fst (isDi gg tt) (tt - (b + d)) (b + d)) = ee → WP G mX7_advance 207 [some (.ref 50), some (.int xx)] [] (τ) PP := by
    intro m
    induction m with
    | zero => intro d τ hm; exact absurd hm (Nat.not_lt_zero _)
    | succ m ih =>
      intro d τ hm hd htq s11 s12 s13 s14 s15 hps
      refine w_aload_n dX7_advance_207 rfl ?_
      refine w_getI dX7_advance_208 fl_X7_190 rfl rfl ?_
      refine w_iconst dX7_advance_211 ic_2 ?_
      refine w_icmp_ne (t := 280) dX7_advance_212 (by decide) (fun hz1 => absurd s11 hz1) (fun hz1 => ?_)
      refine w_aload_n dX7_advance_215 rfl ?_
      refine w_aload_n dX7_advance_216 rfl ?_
      refine w_getI dX7_advance_217 fl_X7_175 rfl rfl ?_
      refine w_eqi s13 ?_
      · skip
        refine w_callVi dX7_advance_220 ml_X7_181 mv_X7_byteAt rfl rfl (by decide) rfl (e7_byteAt G _ (b + d) (by omega) tt (htq.c10.trans htt) ht120 gg (htq.c55.trans hgg)) rfl rfl (Nat.le_of_ble_eq_true rfl) ?_
        refine w_callSi dX7_advance_223 ml_X7_187 ms_X7_isDigit rfl (e7_isDigit G _ _) rfl rfl (Nat.le_of_ble_eq_true rfl) ?_
        refine w_if_eq (t := 280) dX7_advance_226 (by decide) (fun hz2 => ?_) (fun hz2 => ?_)
        · skip
          refine w_vret dX7_advance_280 rfl ?_
          rw [p_fst_stop (isDi_1 hz2)] at hps
          subst hps
          exact hP τ htq s11 s12 s13 s14 (by rw [s15, Nat.add_sub_cancel_left])
        · skip
          have hle := hz2
          have hlt : b + d < tt := bt_in (by decide) hle
          refine w_aload_n dX7_advance_229 rfl ?_
          refine w_aload_n dX7_advance_230 rfl ?_
          refine w_getI dX7_advance_231 fl_X7_197 rfl rfl ?_
          refine w_bipush dX7_advance_234 bp_99 ?_
          refine w2_icmp_le (t := 245) dX7_advance_236 (by decide) (fun hz3 => ?_) (fun hz3 => ?_)
          · skip
            refine w_bipush dX7_advance_245 bp_10 ?_
            refine w_aload_n dX7_advance_247 rfl ?_
            refine w_getI dX7_advance_248 fl_X7_197 rfl rfl ?_
            refine w_imul dX7_advance_251 ?_
            refine w_aload_n dX7_advance_252 rfl ?_
            refine w_aload_n dX7_advance_253 rfl ?_
            refine w_getI dX7_advance_254 fl_X7_175 rfl rfl ?_
            refine w_eqi s13 ?_
            · skip
              refine w_callVi dX7_advance_257 ml_X7_181 mv_X7_byteAt rfl rfl (by decide) rfl (e7_byteAt G _ (b + d) (by omega) tt (htq.c10.trans htt) ht120 gg (htq.c55.trans hgg)) rfl rfl (Nat.le_of_ble_eq_true rfl) ?_
              refine w_iadd dX7_advance_260 ?_
              refine w_bipush dX7_advance_261 bp_48 ?_
              refine w_isub dX7_advance_263 ?_
              refine w_putI dX7_advance_264 fl_X7_197 rfl rfl (by decide +kernel) ?_
              refine w_aload_n dX7_advance_267 rfl ?_
              refine w_dup dX7_advance_268 rfl ?_
              refine w_getI dX7_advance_269 fl_X7_175 rfl rfl ?_
              refine w_iconst dX7_advance_272 ic_1 ?_
              refine w_iadd dX7_advance_273 ?_
              refine w_putI dX7_advance_274 fl_X7_175 rfl rfl (by decide +kernel) ?_
              refine w_goto (t := 207) dX7_advance_277 (by decide) ?_
              refine ih (d + 1) _ (by omega) (by omega) (htq.trans ((Tq.w (by decide)).trans (Tq.w (by decide)))) ?_ ?_ ?_ ?_ ?_ ?_
              · exact (wI_k (by decide)).trans ((wI_k (by decide)).trans s11)
              · exact (wI_k (by decide)).trans ((wI_k (by decide)).trans s12)
              · refine (wI_s _ _ _ _).trans ?_
                rw [wI_k (by decide), s13, nI_1]
                rfl
              · exact s14
              · refine ((wI_k (by decide)).trans (wI_s _ _ _ _)).trans ?_
                have hx := hz3
                rw [s15] at hx
                rw [p_vc_s, if_neg hx, bt_lt hlt, s15]
              · rw [← hps, p_fst_go (isDi_0 hle) hlt]
                rfl
          · skip
            refine w_sipush dX7_advance_239 sp_1000 ?_
            refine w_goto (t := 264) dX7_advance_242 (by decide) ?_
            refine w_putI dX7_advance_264 fl_X7_197 rfl rfl (by decide +kernel) ?_
            refine w_aload_n dX7_advance_267 rfl ?_
            refine w_dup dX7_advance_268 rfl ?_
            refine w_getI dX7_advance_269 fl_X7_175 rfl rfl ?_
            refine w_iconst dX7_advance_272 ic_1 ?_
            refine w_iadd dX7_advance_273 ?_
            refine w_putI dX7_advance_274 fl_X7_175 rfl rfl (by decide +kernel) ?_
            refine w_goto (t := 207) dX7_advance_277 (by decide) ?_
            refine ih (d + 1) _ (by omega) (by omega) (htq.trans ((Tq.w (by decide)).trans (Tq.w (by decide)))) ?_ ?_ ?_ ?_ ?_ ?_
            · exact (wI_k (by decide)).trans ((wI_k (by decide)).trans s11)
            · exact (wI_k (by decide)).trans ((wI_k (by decide)).trans s12)
            · refine (wI_s _ _ _ _).trans ?_
              rw [wI_k (by decide), s13, nI_1]
              rfl
            · exact s14
            · refine ((wI_k (by decide)).trans (wI_s _ _ _ _)).trans ?_
              have hx := hz3
              rw [s15] at hx
              rw [p_vc_s, if_pos hx]
            · rw [← hps, p_fst_go (isDi_0 hle) hlt]
              rfl
  exact lp (tt + 2) 0 σ (by omega) hb Tq.rfl s11 s12 s13 s14 s15 hps
theorem tq_wp {G : GT} {M : MT} {pc : Nat} {L : List (Option Value)} {st : List Value} {σ τ : Sg} {PP : Option Value → Sg → Prop} (h : Tq σ τ) (k : Tq σ τ → WP G M pc L st τ PP) : WP G M pc L st τ PP := k h
theorem tkS_0 {g : Nat → Int32} {t p b : Nat} (hB : tkB g t p = b) (h : bt g t b < 0) : tkS g t p = 0 := by
  unfold tkS
  rw [hB, if_pos h]
theorem tkS_1 {g : Nat → Int32} {t p b : Nat} (hB : tkB g t p = b) (h : ¬ bt g t b < 0) (h1 : ¬ p_in (bt g t b) 97 122 = 0) : tkS g t p = 1 := by
  unfold tkS
  rw [hB, if_neg h, if_pos h1]
theorem tkS_2 {g : Nat → Int32} {t p b : Nat} (hB : tkB g t p = b) (h : ¬ bt g t b < 0) (h1 : p_in (bt g t b) 97 122 = 0) (h2 : ¬ p_in (bt g t b) 48 57 = 0) : tkS g t p = 2 := by
  unfold tkS
  rw [hB, if_neg h, if_neg (fun z => z h1), if_pos h2]
theorem tkS_3 {g : Nat → Int32} {t p b : Nat} (hB : tkB g t p = b) (h : ¬ bt g t b < 0) (h1 : p_in (bt g t b) 97 122 = 0) (h2 : p_in (bt g t b) 48 57 = 0) : tkS g t p = 3 := by
  unfold tkS
  rw [hB, if_neg h, if_neg (fun z => z h1), if_neg (fun z => z h2)]
theorem TkQ.k0 {σ : Sg} {g : Nat → Int32} {t p b : Nat} (hB : tkB g t p = b) (hS : tkS g t p = 0) (a11 : σ.1 50 11 = 0) (a12 : σ.1 50 12 = nI b) (a13 : σ.1 50 13 = nI b) (a14 : σ.2.1 50 14 = 0) (a15 : σ.1 50 15 = bt g t b) : TkQ σ g t p := by
  unfold TkQ tkE tkW tkV
  rw [hS, hB]
  exact ⟨a11, a12, a13, a14, a15⟩
theorem TkQ.k3 {σ : Sg} {g : Nat → Int32} {t p b : Nat} (hB : tkB g t p = b) (hS : tkS g t p = 3) (a11 : σ.1 50 11 = 3) (a12 : σ.1 50 12 = nI b) (a13 : σ.1 50 13 = nI (b + 1)) (a14 : σ.2.1 50 14 = 0) (a15 : σ.1 50 15 = bt g t b) : TkQ σ g t p := by
  unfold TkQ tkE tkW tkV
  rw [hS, hB]
  exact ⟨a11, a12, a13, a14, a15⟩
theorem TkQ.k1 {σ : Sg} {g : Nat → Int32} {t p b ee : Nat} (hB : tkB g t p = b) (hS : tkS g t p = 1) (hE : p_fst (isLe g t) (t - b) b = ee) (a11 : σ.1 50 11 = 1) (a12 : σ.1 50 12 = nI b) (a13 : σ.1 50 13 = nI ee) (a14 : σ.2.1 50 14 = p_wc g b (ee - b)) (a15 : σ.1 50 15 = bt g t b) : TkQ σ g t p := by
  unfold TkQ tkW tkV tkE
  rw [hS, hB]
  simp only [if_true, Nat.one_ne_zero, if_false]
  rw [hE]
  exact ⟨a11, a12, a13, a14, by simpa using a15⟩
theorem TkQ.k2 {σ : Sg} {g : Nat → Int32} {t p b ee : Nat} (hB : tkB g t p = b) (hS : tkS g t p = 2) (hE : p_fst (isDi g t) (t - b) b = ee) (a11 : σ.1 50 11 = 2) (a12 : σ.1 50 12 = nI b) (a13 : σ.1 50 13 = nI ee) (a14 : σ.2.1 50 14 = 0) (a15 : σ.1 50 15 = p_vc g b (ee - b)) : TkQ σ g t p := by
  unfold TkQ tkW tkV tkE
  rw [hS, hB]
  simp only [if_true, if_false, show ¬ (2 : Nat) = 0 by decide, show ¬ (2 : Nat) = 1 by decide]
  rw [hE]
  exact ⟨a11, a12, a13, a14, a15⟩
set_option maxRecDepth 100000 in
set_option maxHeartbeats 800000 in
theorem e7_advance (G : GT) (σ : Sg) (p0 : Nat) (hp0 : σ.1 50 13 = nI p0) (tt : Nat) (htt : σ.1 50 10 = nI tt) (ht120 : tt ≤ 120) (gg : Nat → Int32) (hgg : σ.1 55 = gg) (hp : p0 ≤ tt) : Ev G mX7_advance [.ref 50] σ (fun v σ' => v = none ∧ Tq σ σ' ∧ TkQ σ' gg tt p0) := by
  refine Ev.ofL (m := 1) (L := [some (.ref 50), none]) rfl (Nat.le_of_ble_eq_true rfl) rfl rfl ?_
  refine w_aload_n dX7_advance_0 rfl ?_
  refine w_aload_n dX7_advance_1 rfl ?_
  refine w_getI dX7_advance_2 fl_X7_175 rfl rfl ?_
  refine w_putI dX7_advance_5 fl_X7_178 rfl rfl (by decide +kernel) ?_
  have lp : ∀ (m : Nat) (i : Nat) (τ : Sg), tt + 1 - i < m → i ≤ tt → Tq σ τ → τ.1 50 12 = nI i → p_fst (isBl gg tt) (tt - i) i = tkB gg tt p0 → WP G mX7_advance 8 [some (.ref 50), none] [] (τ) (fun v σ' => v = none ∧ Tq σ σ' ∧ TkQ σ' gg tt p0) := by
    intro m
    induction m with
    | zero => intro i τ hm; exact absurd hm (Nat.not_lt_zero _)
    | succ m ih =>
      intro i τ hm hi htq h12 hps
      refine w_aload_n dX7_advance_8 rfl ?_
      refine w_aload_n dX7_advance_9 rfl ?_
      refine w_getI dX7_advance_10 fl_X7_178 rfl rfl ?_
      refine w_eqi h12 ?_
      · skip
        refine w_callVi dX7_advance_13 ml_X7_181 mv_X7_byteAt rfl rfl (by decide) rfl (e7_byteAt G _ i (by omega) tt (htq.c10.trans htt) ht120 gg (htq.c55.trans hgg)) rfl rfl (Nat.le_of_ble_eq_true rfl) ?_
        refine w_bipush dX7_advance_16 bp_32 ?_
        refine w_icmp_ne (t := 34) dX7_advance_18 (by decide) (fun hz1 => ?_) (fun hz1 => ?_)
        · skip
          have hib : tkB gg tt p0 = i := by rw [← hps, p_fst_stop (isBl_1 hz1)]
          refine w_aload_n dX7_advance_34 rfl ?_
          refine w_aload_n dX7_advance_35 rfl ?_
          refine w_getI dX7_advance_36 fl_X7_178 rfl rfl ?_
          refine w_putI dX7_advance_39 fl_X7_175 rfl rfl (by decide +kernel) ?_
          refine w_aload_n dX7_advance_42 rfl ?_
          refine w_aload_n dX7_advance_43 rfl ?_
          refine w_getI dX7_advance_44 fl_X7_178 rfl rfl ?_
          refine w_eqi (y := nI i) (by simp [wI, h12]) ?_
          · skip
            refine w_callVi dX7_advance_47 ml_X7_181 mv_X7_byteAt rfl rfl (by decide) rfl (e7_byteAt G _ i (by omega) tt ((htq.trans (Tq.w (by decide))).c10.trans htt) ht120 gg ((htq.trans (Tq.w (by decide))).c55.trans hgg)) rfl rfl (Nat.le_of_ble_eq_true rfl) ?_
            refine w_istore_n dX7_advance_50 (by decide) rfl rfl ?_
            dsimp only [List.set]
            refine w_aload_n dX7_advance_51 rfl ?_
            refine w_iload_n dX7_advance_52 rfl ?_
            refine w2_if_ge (t := 60) dX7_advance_53 (by decide) (fun hz2 => ?_) (fun hz2 => ?_)
            · skip
              refine w_iload_n dX7_advance_60 rfl ?_
              refine w_callSi dX7_advance_61 ml_X7_184 ms_X7_isLetter rfl (e7_isLetter G _ _) rfl rfl (Nat.le_of_ble_eq_true rfl) ?_
              refine w_if_eq (t := 71) dX7_advance_64 (by decide) (fun hz3 => ?_) (fun hz3 => ?_)
              · skip
                refine w_iload_n dX7_advance_71 rfl ?_
                refine w_callSi dX7_advance_72 ml_X7_187 ms_X7_isDigit rfl (e7_isDigit G _ _) rfl rfl (Nat.le_of_ble_eq_true rfl) ?_
                refine w_if_eq (t := 82) dX7_advance_75 (by decide) (fun hz4 => ?_) (fun hz4 => ?_)
                · skip
                  refine w_iconst dX7_advance_82 ic_3 ?_
                  refine w_putI dX7_advance_83 fl_X7_190 rfl rfl (by decide +kernel) ?_
                  refine w_aload_n dX7_advance_86 rfl ?_
                  refine w_lconst dX7_advance_87 lc_0 ?_
                  refine w_putL dX7_advance_88 fl_X7_193 rfl ?_
                  refine w_aload_n dX7_advance_91 rfl ?_
                  refine w_aload_n dX7_advance_92 rfl ?_
                  refine w_getI dX7_advance_93 fl_X7_190 rfl rfl ?_
                  refine w_iconst dX7_advance_96 ic_2 ?_
                  refine w_icmp_ne (t := 104) dX7_advance_97 (by decide) (fun hz5 => ?_) (fun hz5 => absurd hz5 (by simp [wI, wL]))
                  refine w_iload_n dX7_advance_104 rfl ?_
                  refine w_putI dX7_advance_105 fl_X7_197 rfl rfl (by decide +kernel) ?_
                  refine w_aload_n dX7_advance_108 rfl ?_
                  refine w_getI dX7_advance_109 fl_X7_190 rfl rfl ?_
                  refine w_iconst dX7_advance_112 ic_3 ?_
                  refine w_icmp_ne (t := 126) dX7_advance_113 (by decide) (fun hz6 => absurd (by simp [wI, wL]) hz6) (fun hz6 => ?_)
                  refine w_aload_n dX7_advance_116 rfl ?_
                  refine w_dup dX7_advance_117 rfl ?_
                  refine w_getI dX7_advance_118 fl_X7_175 rfl rfl ?_
                  refine w_iconst dX7_advance_121 ic_1 ?_
                  refine w_iadd dX7_advance_122 ?_
                  refine w_putI dX7_advance_123 fl_X7_175 rfl rfl (by decide +kernel) ?_
                  refine adv126a G _ _ _ (by simp [wI, wL]) (adv207a G _ _ _ (by simp [wI, wL]) ⟨rfl, (htq.trans ((Tq.w (by decide)).trans ((Tq.w (by decide)).trans (Tq.wl.trans (Tq.w (by decide)))))).trans (Tq.w (by decide)), TkQ.k3 hib (tkS_3 hib hz2 hz3 hz4) ?_ ?_ ?_ ?_ ?_⟩)
                  · simp [wI, wL]
                  · simp [wI, wL, h12]
                  · simp [wI, wL, h12, nI_1]
                  · simp [wI, wL]
                  · simp [wI, wL]
                · skip
                  refine w_iconst dX7_advance_78 ic_2 ?_
                  refine w_goto (t := 83) dX7_advance_79 (by decide) ?_
                  refine w_putI dX7_advance_83 fl_X7_190 rfl rfl (by decide +kernel) ?_
                  refine w_aload_n dX7_advance_86 rfl ?_
                  refine w_lconst dX7_advance_87 lc_0 ?_
                  refine w_putL dX7_advance_88 fl_X7_193 rfl ?_
                  refine w_aload_n dX7_advance_91 rfl ?_
                  refine w_aload_n dX7_advance_92 rfl ?_
                  refine w_getI dX7_advance_93 fl_X7_190 rfl rfl ?_
                  refine w_iconst dX7_advance_96 ic_2 ?_
                  refine w_icmp_ne (t := 104) dX7_advance_97 (by decide) (fun hz7 => absurd (by simp [wI, wL]) hz7) (fun hz7 => ?_)
                  refine w_iconst dX7_advance_100 ic_0 ?_
                  refine w_goto (t := 105) dX7_advance_101 (by decide) ?_
                  refine w_putI dX7_advance_105 fl_X7_197 rfl rfl (by decide +kernel) ?_
                  refine w_aload_n dX7_advance_108 rfl ?_
                  refine w_getI dX7_advance_109 fl_X7_190 rfl rfl ?_
                  refine w_iconst dX7_advance_112 ic_3 ?_
                  refine w_icmp_ne (t := 126) dX7_advance_113 (by decide) (fun hz8 => ?_) (fun hz8 => absurd hz8 (by simp [wI, wL]))
                  refine tq_wp (σ := σ) (htq.trans ((Tq.w (by decide)).trans ((Tq.w (by decide)).trans (Tq.wl.trans (Tq.w (by decide)))))) (fun hT => ?_)
                  refine adv126a G _ _ _ (by simp [wI, wL]) (adv207b G _ _ 0 i _ _ tt (hT.c10.trans htt) ht120 gg (hT.c55.trans hgg) (by omega) (by simp [wI, wL, h12, p_wc, p_vc]) (by simp [wI, wL, h12, p_wc, p_vc]) (by simp [wI, wL, h12, p_wc, p_vc]) (by simp [wI, wL, h12, p_wc, p_vc]) (by simp [wI, wL, h12, p_wc, p_vc]) rfl (fun τ' hq b11 b12 b13 b14 b15 => ⟨rfl, hT.trans hq, TkQ.k2 hib (tkS_2 hib hz2 hz3 hz4) rfl b11 b12 b13 b14 b15⟩))
              · skip
                refine w_iconst dX7_advance_67 ic_1 ?_
                refine w_goto (t := 83) dX7_advance_68 (by decide) ?_
                refine w_putI dX7_advance_83 fl_X7_190 rfl rfl (by decide +kernel) ?_
                refine w_aload_n dX7_advance_86 rfl ?_
                refine w_lconst dX7_advance_87 lc_0 ?_
                refine w_putL dX7_advance_88 fl_X7_193 rfl ?_
                refine w_aload_n dX7_advance_91 rfl ?_
                refine w_aload_n dX7_advance_92 rfl ?_
                refine w_getI dX7_advance_93 fl_X7_190 rfl rfl ?_
                refine w_iconst dX7_advance_96 ic_2 ?_
                refine w_icmp_ne (t := 104) dX7_advance_97 (by decide) (fun hz9 => ?_) (fun hz9 => absurd hz9 (by simp [wI, wL]))
                refine w_iload_n dX7_advance_104 rfl ?_
                refine w_putI dX7_advance_105 fl_X7_197 rfl rfl (by decide +kernel) ?_
                refine w_aload_n dX7_advance_108 rfl ?_
                refine w_getI dX7_advance_109 fl_X7_190 rfl rfl ?_
                refine w_iconst dX7_advance_112 ic_3 ?_
                refine w_icmp_ne (t := 126) dX7_advance_113 (by decide) (fun hz10 => ?_) (fun hz10 => absurd hz10 (by simp [wI, wL]))
                refine tq_wp (σ := σ) (htq.trans ((Tq.w (by decide)).trans ((Tq.w (by decide)).trans (Tq.wl.trans (Tq.w (by decide)))))) (fun hT => ?_)
                refine adv126b G _ _ (bt gg tt i) i _ _ tt (hT.c10.trans htt) ht120 gg (hT.c55.trans hgg) (by omega) (by simp [wI, wL, h12, p_wc, p_vc]) (by simp [wI, wL, h12, p_wc, p_vc]) (by simp [wI, wL, h12, p_wc, p_vc]) (by simp [wI, wL, h12, p_wc, p_vc]) (by simp [wI, wL, h12, p_wc, p_vc]) rfl (fun τ' hq b11 b12 b13 b14 b15 => ⟨rfl, hT.trans hq, TkQ.k1 hib (tkS_1 hib hz2 hz3) rfl b11 b12 b13 b14 b15⟩)
            · skip
              refine w_iconst dX7_advance_56 ic_0 ?_
              refine w_goto (t := 83) dX7_advance_57 (by decide) ?_
              refine w_putI dX7_advance_83 fl_X7_190 rfl rfl (by decide +kernel) ?_
              refine w_aload_n dX7_advance_86 rfl ?_
              refine w_lconst dX7_advance_87 lc_0 ?_
              refine w_putL dX7_advance_88 fl_X7_193 rfl ?_
              refine w_aload_n dX7_advance_91 rfl ?_
              refine w_aload_n dX7_advance_92 rfl ?_
              refine w_getI dX7_advance_93 fl_X7_190 rfl rfl ?_
              refine w_iconst dX7_advance_96 ic_2 ?_
              refine w_icmp_ne (t := 104) dX7_advance_97 (by decide) (fun hz11 => ?_) (fun hz11 => absurd hz11 (by simp [wI, wL]))
              refine w_iload_n dX7_advance_104 rfl ?_
              refine w_putI dX7_advance_105 fl_X7_197 rfl rfl (by decide +kernel) ?_
              refine w_aload_n dX7_advance_108 rfl ?_
              refine w_getI dX7_advance_109 fl_X7_190 rfl rfl ?_
              refine w_iconst dX7_advance_112 ic_3 ?_
              refine w_icmp_ne (t := 126) dX7_advance_113 (by decide) (fun hz12 => ?_) (fun hz12 => absurd hz12 (by simp [wI, wL]))
              refine adv126a G _ _ _ (by simp [wI, wL]) (adv207a G _ _ _ (by simp [wI, wL]) ⟨rfl, htq.trans ((Tq.w (by decide)).trans ((Tq.w (by decide)).trans (Tq.wl.trans (Tq.w (by decide))))), TkQ.k0 hib (tkS_0 hib hz2) ?_ ?_ ?_ ?_ ?_⟩)
              all_goals simp [wI, wL, h12]
        · skip
          refine w_aload_n dX7_advance_21 rfl ?_
          refine w_dup dX7_advance_22 rfl ?_
          refine w_getI dX7_advance_23 fl_X7_178 rfl rfl ?_
          refine w_iconst dX7_advance_26 ic_1 ?_
          refine w_iadd dX7_advance_27 ?_
          refine w_putI dX7_advance_28 fl_X7_178 rfl rfl (by decide +kernel) ?_
          refine w_goto (t := 8) dX7_advance_31 (by decide) ?_
          have hbl := hz1
          have hlt := bt_32 hbl
          refine ih (i + 1) _ (by omega) (by omega) (htq.trans (Tq.w (by decide))) (by rw [wI_s, h12, nI_1]) ?_
          rw [← hps, p_fst_go (isBl_0 hbl) hlt]
  exact lp (tt + 2) p0 _ (by omega) hp (Tq.w (by decide)) (by rw [wI_s, hp0]) rfl
