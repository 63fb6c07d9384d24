set_option maxRecDepth 100000 in
set_option maxHeartbeats 800000 in
theorem e7_byteAt (G : GT) (σ : Sg) (k : Nat) (hk : k ≤ 200) (tt : Nat) (htt : σ.1 50 10 = nI tt) (ht120 : tt ≤ 120) (gg : Nat → Int32) (hgg : σ.1 55 = gg) : Evi G mX7_byteAt [.ref 50, .int (nI k)] σ (bt gg tt k) (σ) := by
  refine Ev.ofL (m := 0) (L := [some (.ref 50), some (.int (nI k))]) rfl (Nat.le_of_ble_eq_true rfl) rfl rfl ?_
  refine w_iload_n dX7_byteAt_0 rfl ?_
  refine w_aload_n dX7_byteAt_1 rfl ?_
  refine w_getI dX7_byteAt_2 fl_X7_172 rfl rfl ?_
  refine w_eqi htt ?_
  · skip
    refine w2_icmp_ge (t := 17) dX7_byteAt_5 (by decide) (fun hz1 => ?_) (fun hz1 => ?_)
    · skip
      have hge := nlt_nI (by omega) (by omega) hz1
      refine w_iconst dX7_byteAt_17 ic_m1 ?_
      refine w_iret dX7_byteAt_18 rfl ?_
      exact ⟨by rw [bt_ge hge], rfl⟩
    · skip
      have hlt := lt_nI (by omega) (by omega) hz1
      refine w_aload_n dX7_byteAt_8 rfl ?_
      refine w_getR (t := 55) dX7_byteAt_9 fl_X7_22 rfl (by decide) (by decide) rfl ?_
      refine w_iload_n dX7_byteAt_12 rfl ?_
      refine w_iald (j := k) dX7_byteAt_13 rfl (by decide) rfl (show k < 120 by omega) ?_
      refine w_goto (t := 18) dX7_byteAt_14 (by decide) ?_
      refine w_iret dX7_byteAt_18 rfl ?_
      exact ⟨by rw [bt_lt hlt, ← hgg], rfl⟩
set_option maxRecDepth 100000 in
set_option maxHeartbeats 800000 in
theorem e7_isLetter (G : GT) (σ : Sg) (r : Int32) : Evi G mX7_isLetter [.int r] σ (p_in r 97 122) (σ) := by
  refine Ev.ofL (m := 0) (L := [some (.int r)]) rfl (Nat.le_of_ble_eq_true rfl) rfl rfl ?_
  refine w_iload_n dX7_isLetter_0 rfl ?_
  refine w_bipush dX7_isLetter_1 bp_97 ?_
  refine w_bipush dX7_isLetter_3 bp_122 ?_
  refine w_callSi dX7_isLetter_5 ml_X7_45 ms_X7_in rfl (e7_in G _ _ _ _) rfl rfl (Nat.le_of_ble_eq_true rfl) ?_
  refine w_zret dX7_isLetter_8 rfl (p_in_z _ _ _) ?_
  exact ⟨rfl, rfl⟩
set_option maxRecDepth 100000 in
set_option maxHeartbeats 800000 in
theorem e7_isDigit (G : GT) (σ : Sg) (r : Int32) : Evi G mX7_isDigit [.int r] σ (p_in r 48 57) (σ) := by
  refine Ev.ofL (m := 0) (L := [some (.int r)]) rfl (Nat.le_of_ble_eq_true rfl) rfl rfl ?_
  refine w_iload_n dX7_isDigit_0 rfl ?_
  refine w_bipush dX7_isDigit_1 bp_48 ?_
  refine w_bipush dX7_isDigit_3 bp_57 ?_
  refine w_callSi dX7_isDigit_5 ml_X7_45 ms_X7_in rfl (e7_in G _ _ _ _) rfl rfl (Nat.le_of_ble_eq_true rfl) ?_
  refine w_zret dX7_isDigit_8 rfl (p_in_z _ _ _) ?_
  exact ⟨rfl, rfl⟩
set_option maxRecDepth 100000 in
set_option maxHeartbeats 800000 in
theorem adv207a (G : GT) (σ : Sg) (xx : Int32) (PP : Option Value → Sg → Prop) (hs : ¬ σ.1 50 11 = 2) (hP : PP none σ) : WP G mX7_advance 207 [some (.ref 50), some (.int xx)] [] (σ) (PP) := by
  refine w_aload_n dX7_advance_207 rfl ?_
  refine w_getI dX7_advance_208 fl_X7_190 rfl rfl ?_
  refine w_iconst dX7_advance_211 ic_2 ?_
  refine w_icmp_ne (t := 280) dX7_advance_212 (by decide) (fun hz1 => ?_) (fun hz1 => absurd hz1 hs)
  refine w_vret dX7_advance_280 rfl ?_
  exact hP
set_option maxRecDepth 100000 in
set_option maxHeartbeats 800000 in
theorem adv126a (G : GT) (σ : Sg) (xx : Int32) (PP : Option Value → Sg → Prop) (hs : ¬ σ.1 50 11 = 1) (hP : WP G mX7_advance 207 [some (.ref 50), some (.int xx)] [] σ PP) : WP G mX7_advance 126 [some (.ref 50), some (.int xx)] [] (σ) (PP) := by
  refine w_aload_n dX7_advance_126 rfl ?_
  refine w_getI dX7_advance_127 fl_X7_190 rfl rfl ?_
  refine w_iconst dX7_advance_130 ic_1 ?_
  refine w_icmp_ne (t := 207) dX7_advance_131 (by decide) (fun hz1 => ?_) (fun hz1 => absurd hz1 hs)
  exact hP
set_option maxRecDepth 100000 in
set_option maxHeartbeats 800000 in
theorem adv126b (G : GT) (σ : Sg) (xx yy : Int32) (b ee : Nat) (PP : Option Value → Sg → Prop) (tt : Nat) (htt : σ.1 50 10 = nI tt) (ht120 : tt ≤ 120) (gg : Nat → Int32) (hgg : σ.1 55 = gg) (hb : b + 0 ≤ tt) (s11 : σ.1 50 11 = 1) (s12 : σ.1 50 12 = nI b) (s13 : σ.1 50 13 = nI (b + 0)) (s14 : σ.2.1 50 14 = p_wc gg b 0) (s15 : σ.1 50 15 = yy) (hps : p_fst (isLe gg tt) (tt - (b + 0)) (b + 0) = ee) (hP : ∀ τ, Tq σ τ → τ.1 50 11 = 1 → τ.1 50 12 = nI b → τ.1 50 13 = nI ee → τ.2.1 50 14 = p_wc gg b (ee - b) → τ.1 50 15 = yy → PP none τ) : WP G mX7_advance 126 [some (.ref 50), some (.int xx)] [] (σ) (PP) := by
  have lp : ∀ (m : Nat) (d : Nat) (τ : Sg), tt + 1 - (b + d) < m → b + d ≤ tt → Tq σ τ → τ.1 50 11 = 1 → τ.1 50 12 = nI b → τ.1 50 13 = nI (b + d) → τ.2.1 50 14 = p_wc gg b d → τ.1 50 15 = yy → (p_fst (isLe gg tt) (tt - (b + d)) (b + d)) = ee → WP G mX7_advance 126 [some (.ref 50), some (.int xx)] [] (τ) PP := by
    intro m
    induction m with
    | zero => intro d τ hm; exact absurd hm (Nat.not_lt_zero _)
    | succ m ih =>
      intro d τ hm hd htq s11 s12 s13 s14 s15 hps
      refine w_aload_n dX7_advance_126 rfl ?_
      refine w_getI dX7_advance_127 fl_X7_190 rfl rfl ?_
      refine w_iconst dX7_advance_130 ic_1 ?_
      refine w_icmp_ne (t := 207) dX7_advance_131 (by decide) (fun hz1 => absurd s11 hz1) (fun hz1 => ?_)
      refine w_aload_n dX7_advance_134 rfl ?_
      refine w_aload_n dX7_advance_135 rfl ?_
      refine w_getI dX7_advance_136 fl_X7_175 rfl rfl ?_
      refine w_eqi s13 ?_
      · skip
        refine w_callVi dX7_advance_139 ml_X7_181 mv_X7_byteAt rfl rfl (by decide) rfl (e7_byteAt G _ (b + d) (by omega) tt (htq.c10.trans htt) ht120 gg (htq.c55.trans hgg)) rfl rfl (Nat.le_of_ble_eq_true rfl) ?_
        refine w_callSi dX7_advance_142 ml_X7_184 ms_X7_isLetter rfl (e7_isLetter G _ _) rfl rfl (Nat.le_of_ble_eq_true rfl) ?_
        refine w_if_eq (t := 207) dX7_advance_145 (by decide) (fun hz2 => ?_) (fun hz2 => ?_)
        · skip
          refine adv207a G _ _ _ (by rw [s11]; decide) ?_
          rw [p_fst_stop (isLe_1 hz2)] at hps
          subst hps
          exact hP τ htq s11 s12 s13 (by rw [s14, Nat.add_sub_cancel_left]) s15
        · skip
          have hle := hz2
          have hlt : b + d < tt := bt_in (by decide) hle
          refine w_aload_n dX7_advance_148 rfl ?_
          refine w_aload_n dX7_advance_149 rfl ?_
          refine w_getI dX7_advance_150 fl_X7_175 rfl rfl ?_
          refine w_aload_n dX7_advance_153 rfl ?_
          refine w_getI dX7_advance_154 fl_X7_178 rfl rfl ?_
          refine w_isub dX7_advance_157 ?_
          refine w_bipush dX7_advance_158 bp_12 ?_
          refine w2_icmp_ge (t := 188) dX7_advance_160 (by decide) (fun hz3 => ?_) (fun hz3 => ?_)
          · skip
            have hd12 : 12 ≤ d := by
              have hx := hz3
              rw [s13, s12, nI_sub2] at hx
              exact nlt_nI (n := 12) (by omega) (by decide) hx
            refine w_ldc2 dX7_advance_188 kl_X7_204 ?_
            refine w_putL dX7_advance_191 fl_X7_193 rfl ?_
            refine w_aload_n dX7_advance_194 rfl ?_
            refine w_dup dX7_advance_195 rfl ?_
            refine w_getI dX7_advance_196 fl_X7_175 rfl rfl ?_
            refine w_iconst dX7_advance_199 ic_1 ?_
            refine w_iadd dX7_advance_200 ?_
            refine w_putI dX7_advance_201 fl_X7_175 rfl rfl (by decide +kernel) ?_
            refine w_goto (t := 126) dX7_advance_204 (by decide) ?_
            refine ih (d + 1) _ (by omega) (by omega) (htq.trans (Tq.wl.trans (Tq.w (by decide)))) ?_ ?_ ?_ ?_ ?_ ?_
            · exact (wI_k (by decide)).trans s11
            · exact (wI_k (by decide)).trans s12
            · refine (wI_s _ _ _ _).trans ?_
              show τ.1 50 13 + 1 = _
              rw [s13, nI_1]
              rfl
            · refine (wL_s _ _ _ _).trans ?_
              rw [p_wc_s, if_neg (Nat.not_lt.mpr hd12)]
            · exact (wI_k (by decide)).trans s15
            · rw [← hps, p_fst_go (isLe_0 hle) hlt]
              rfl
          · skip
            have hd12 : d < 12 := by
              have hx := hz3
              rw [s13, s12, nI_sub2] at hx
              exact lt_nI (n := 12) (by omega) (by decide) hx
            refine w_ldc2 dX7_advance_163 kl_X7_200 ?_
            refine w_aload_n dX7_advance_166 rfl ?_
            refine w_getL dX7_advance_167 fl_X7_193 rfl ?_
            refine w_lmul dX7_advance_170 ?_
            refine w_aload_n dX7_advance_171 rfl ?_
            refine w_aload_n dX7_advance_172 rfl ?_
            refine w_getI dX7_advance_173 fl_X7_175 rfl rfl ?_
            refine w_eqi s13 ?_
            · skip
              refine w_callVi dX7_advance_176 ml_X7_181 mv_X7_byteAt rfl rfl (by decide) rfl (e7_byteAt G _ (b + d) (by omega) tt (htq.c10.trans htt) ht120 gg (htq.c55.trans hgg)) rfl rfl (Nat.le_of_ble_eq_true rfl) ?_
              refine w_i2l dX7_advance_179 ?_
              refine w_ladd dX7_advance_180 ?_
              refine w_ldc2 dX7_advance_181 kl_X7_202 ?_
              refine w_lsub dX7_advance_184 ?_
              refine w_goto (t := 191) dX7_advance_185 (by decide) ?_
              refine w_putL dX7_advance_191 fl_X7_193 rfl ?_
              refine w_aload_n dX7_advance_194 rfl ?_
              refine w_dup dX7_advance_195 rfl ?_
              refine w_getI dX7_advance_196 fl_X7_175 rfl rfl ?_
              refine w_iconst dX7_advance_199 ic_1 ?_
              refine w_iadd dX7_advance_200 ?_
              refine w_putI dX7_advance_201 fl_X7_175 rfl rfl (by decide +kernel) ?_
              refine w_goto (t := 126) dX7_advance_204 (by decide) ?_
              refine ih (d + 1) _ (by omega) (by omega) (htq.trans (Tq.wl.trans (Tq.w (by decide)))) ?_ ?_ ?_ ?_ ?_ ?_
              · exact (wI_k (by decide)).trans s11
              · exact (wI_k (by decide)).trans s12
              · refine (wI_s _ _ _ _).trans ?_
                show τ.1 50 13 + 1 = _
                rw [s13, nI_1]
                rfl
              · refine (wL_s _ _ _ _).trans ?_
                rw [p_wc_s, if_pos hd12, bt_lt hlt, s14]
              · exact (wI_k (by decide)).trans s15
              · rw [← hps, p_fst_go (isLe_0 hle) hlt]
                rfl
  exact lp (tt + 2) 0 σ (by omega) hb Tq.rfl s11 s12 s13 s14 s15 hps
set_option maxRecDepth 100000 in
set_option maxHeartbeats 800000 in
theorem adv207b (G : GT) (σ : Sg) (xx : Int32) (yl : Int64) (b ee : Nat) (PP : Option Value → Sg → Prop) (tt : Nat) (htt : σ.1 50 10 = nI tt) (ht120 : tt ≤ 120) (gg : Nat → Int32) (hgg : σ.1 55 = gg) (hb : b + 0 ≤ tt) (s11 : σ.1 50 11 = 2) (s12 : σ.1 50 12 = nI b) (s13 : σ.1 50 13 = nI (b + 0)) (s14 : σ.2.1 50 14 = yl) (s15 : σ.1 50 15 = p_vc gg b 0) (hps : p_fst (isDi gg tt) (tt - (b + 0)) (b + 0) = ee) (hP : ∀ τ, Tq σ τ → τ.1 50 11 = 2 → τ.1 50 12 = nI b → τ.1 50 13 = nI ee → τ.2.1 50 14 = yl → τ.1 50 15 = p_vc gg b (ee - b) → PP none τ) : WP G mX7_advance 207 [some (.ref 50), some (.int xx)] [] (σ) (PP) := by
  have lp : ∀ (m : Nat) (d : Nat) (τ : Sg), tt + 1 - (b + d) < m → b + d ≤ tt → Tq σ τ → τ.1 50 11 = 2 → τ.1 50 12 = nI b → τ.1 50 13 = nI (b + d) → τ.2.1 50 14 = yl → τ.1 50 15 = p_vc gg b d → (p_fst (isDi gg tt) (tt - (b + d)) (b + d)) = ee → WP G mX7_advance 207 [some (.ref 50), some (.int xx)] [] (τ) PP := by
    intro m
    induction m with
    | zero => intro d τ hm; exact absurd hm (Nat.not_lt_zero _)
    | succ m ih =>
      intro d τ hm hd htq s11 s12 s13 s14 s15 hps
      refine w_aload_n dX7_advance_207 rfl ?_
      refine w_getI dX7_advance_208 fl_X7_190 rfl rfl ?_
      refine w_iconst dX7_advance_211 ic_2 ?_
      refine w_icmp_ne (t := 280) dX7_advance_212 (by decide) (fun hz1 => absurd s11 hz1) (fun hz1 => ?_)
      refine w_aload_n dX7_advance_215 rfl ?_
      refine w_aload_n dX7_advance_216 rfl ?_
      refine w_getI dX7_advance_217 fl_X7_175 rfl rfl ?_
      refine w_eqi s13 ?_
      · skip
        refine w_callVi dX7_advance_220 ml_X7_181 mv_X7_byteAt rfl rfl (by decide) rfl (e7_byteAt G _ (b + d) (by omega) tt (htq.c10.trans htt) ht120 gg (htq.c55.trans hgg)) rfl rfl (Nat.le_of_ble_eq_true rfl) ?_
        refine w_callSi dX7_advance_223 ml_X7_187 ms_X7_isDigit rfl (e7_isDigit G _ _) rfl rfl (Nat.le_of_ble_eq_true rfl) ?_
        refine w_if_eq (t := 280) dX7_advance_226 (by decide) (fun hz2 => ?_) (fun hz2 => ?_)
        · skip
          refine w_vret dX7_advance_280 rfl ?_
          rw [p_fst_stop (isDi_1 hz2)] at hps
          subst hps
          exact hP τ htq s11 s12 s13 s14 (by rw [s15, Nat.add_sub_cancel_left])
        · skip
          have hle := hz2
          have hlt : b + d < tt := bt_in (by decide) hle
          refine w_aload_n dX7_advance_229 rfl ?_
          refine w_aload_n dX7_advance_230 rfl ?_
          refine w_getI dX7_advance_231 fl_X7_197 rfl rfl ?_
          refine w_bipush dX7_advance_234 bp_99 ?_
          refine w2_icmp_le (t := 245) dX7_advance_236 (by decide) (fun hz3 => ?_) (fun hz3 => ?_)
          · skip
            refine w_bipush dX7_advance_245 bp_10 ?_
            refine w_aload_n dX7_advance_247 rfl ?_
            refine w_getI dX7_advance_248 fl_X7_197 rfl rfl ?_
            refine w_imul dX7_advance_251 ?_
            refine w_aload_n dX7_advance_252 rfl ?_
            refine w_aload_n dX7_advance_253 rfl ?_
            refine w_getI dX7_advance_254 fl_X7_175 rfl rfl ?_
            refine w_eqi s13 ?_
            · skip
              refine w_callVi dX7_advance_257 ml_X7_181 mv_X7_byteAt rfl rfl (by decide) rfl (e7_byteAt G _ (b + d) (by omega) tt (htq.c10.trans htt) ht120 gg (htq.c55.trans hgg)) rfl rfl (Nat.le_of_ble_eq_true rfl) ?_
              refine w_iadd dX7_advance_260 ?_
              refine w_bipush dX7_advance_261 bp_48 ?_
              refine w_isub dX7_advance_263 ?_
              refine w_putI dX7_advance_264 fl_X7_197 rfl rfl (by decide +kernel) ?_
              refine w_aload_n dX7_advance_267 rfl ?_
              refine w_dup dX7_advance_268 rfl ?_
              refine w_getI dX7_advance_269 fl_X7_175 rfl rfl ?_
              refine w_iconst dX7_advance_272 ic_1 ?_
              refine w_iadd dX7_advance_273 ?_
              refine w_putI dX7_advance_274 fl_X7_175 rfl rfl (by decide +kernel) ?_
              refine w_goto (t := 207) dX7_advance_277 (by decide) ?_
              refine ih (d + 1) _ (by omega) (by omega) (htq.trans ((Tq.w (by decide)).trans (Tq.w (by decide)))) ?_ ?_ ?_ ?_ ?_ ?_
              · exact (wI_k (by decide)).trans ((wI_k (by decide)).trans s11)
              · exact (wI_k (by decide)).trans ((wI_k (by decide)).trans s12)
              · refine (wI_s _ _ _ _).trans ?_
                rw [wI_k (by decide), s13, nI_1]
                rfl
              · exact s14
              · refine ((wI_k (by decide)).trans (wI_s _ _ _ _)).trans ?_
                have hx := hz3
                rw [s15] at hx
                rw [p_vc_s, if_neg hx, bt_lt hlt, s15]
              · rw [← hps, p_fst_go (isDi_0 hle) hlt]
                rfl
          · skip
            refine w_sipush dX7_advance_239 sp_1000 ?_
            refine w_goto (t := 264) dX7_advance_242 (by decide) ?_
            refine w_putI dX7_advance_264 fl_X7_197 rfl rfl (by decide +kernel) ?_
            refine w_aload_n dX7_advance_267 rfl ?_
            refine w_dup dX7_advance_268 rfl ?_
            refine w_getI dX7_advance_269 fl_X7_175 rfl rfl ?_
            refine w_iconst dX7_advance_272 ic_1 ?_
            refine w_iadd dX7_advance_273 ?_
            refine w_putI dX7_advance_274 fl_X7_175 rfl rfl (by decide +kernel) ?_
            refine w_goto (t := 207) dX7_advance_277 (by decide) ?_
            refine ih (d + 1) _ (by omega) (by omega) (htq.trans ((Tq.w (by decide)).trans (Tq.w (by decide)))) ?_ ?_ ?_ ?_ ?_ ?_
            · exact (wI_k (by decide)).trans ((wI_k (by decide)).trans s11)
            · exact (wI_k (by decide)).trans ((wI_k (by decide)).trans s12)
            · refine (wI_s _ _ _ _).trans ?_
              rw [wI_k (by decide), s13, nI_1]
              rfl
            · exact s14
            · refine ((wI_k (by decide)).trans (wI_s _ _ _ _)).trans ?_
              have hx := hz3
              rw [s15] at hx
              rw [p_vc_s, if_pos hx]
            · rw [← hps, p_fst_go (isDi_0 hle) hlt]
              rfl
  exact lp (tt + 2) 0 σ (by omega) hb Tq.rfl s11 s12 s13 s14 s15 hps
