section GM5
set_option maxRecDepth 100000 in
set_option maxHeartbeats 4000000 in
theorem c_X8_isLetter {Γ : Gm} {n : Nat} {E : Hp} {x : Int32}  : Ct Γ 1 MX8_isLetter 0 0 [.int x] (E) n (Rt (some (.int (bi (nI 97 ≤ x ∧ x ≤ nI 122)))) (E) n) X0 := by
  refine Ct.of (by decide +kernel) rfl (Nat.le_of_ble_eq_true rfl) ?_
  refine G.sub (lv2 := [(0, _)]) [0] rfl ?_
  refine g_iload_n 0 rfl dX8_isLetter_0 ?_
  refine gn_bp 97 (by decide) dX8_isLetter_1 ?_
  refine g_icmp_lt (tgt := 16) (by decide) dX8_isLetter_3 (fun h1 => ?_) (fun h1 => ?_)
  · -- t 16
    refine gn_ic 0 (by decide) dX8_isLetter_16 ?_
    exact g_iret ⟨by unfold bi; split <;> first | rfl | grind | simp_all, rfl, rfl⟩ rfl rfl dX8_isLetter_17
  · -- f 6
    refine g_iload_n 0 rfl dX8_isLetter_6 ?_
    refine gn_bp 122 (by decide) dX8_isLetter_7 ?_
    refine g_icmp_gt (tgt := 16) (by decide) dX8_isLetter_9 (fun h2 => ?_) (fun h2 => ?_)
    · -- t 16
      refine gn_ic 0 (by decide) dX8_isLetter_16 ?_
      exact g_iret ⟨by unfold bi; split <;> first | rfl | grind | simp_all, rfl, rfl⟩ rfl rfl dX8_isLetter_17
    · -- f 12
      refine gn_ic 1 (by decide) dX8_isLetter_12 ?_
      refine g_goto (tgt := 17) (by decide) dX8_isLetter_13 ?_
      exact g_iret ⟨by unfold bi; split <;> first | rfl | grind | simp_all, rfl, rfl⟩ rfl rfl dX8_isLetter_17
set_option maxRecDepth 100000 in
set_option maxHeartbeats 4000000 in
theorem c_X8_isDigit {Γ : Gm} {n : Nat} {E : Hp} {x : Int32}  : Ct Γ 1 MX8_isDigit 0 0 [.int x] (E) n (Rt (some (.int (bi (nI 48 ≤ x ∧ x ≤ nI 57)))) (E) n) X0 := by
  refine Ct.of (by decide +kernel) rfl (Nat.le_of_ble_eq_true rfl) ?_
  refine G.sub (lv2 := [(0, _)]) [0] rfl ?_
  refine g_iload_n 0 rfl dX8_isDigit_0 ?_
  refine gn_bp 48 (by decide) dX8_isDigit_1 ?_
  refine g_icmp_lt (tgt := 16) (by decide) dX8_isDigit_3 (fun h1 => ?_) (fun h1 => ?_)
  · -- t 16
    refine gn_ic 0 (by decide) dX8_isDigit_16 ?_
    exact g_iret ⟨by unfold bi; split <;> first | rfl | grind | simp_all, rfl, rfl⟩ rfl rfl dX8_isDigit_17
  · -- f 6
    refine g_iload_n 0 rfl dX8_isDigit_6 ?_
    refine gn_bp 57 (by decide) dX8_isDigit_7 ?_
    refine g_icmp_gt (tgt := 16) (by decide) dX8_isDigit_9 (fun h2 => ?_) (fun h2 => ?_)
    · -- t 16
      refine gn_ic 0 (by decide) dX8_isDigit_16 ?_
      exact g_iret ⟨by unfold bi; split <;> first | rfl | grind | simp_all, rfl, rfl⟩ rfl rfl dX8_isDigit_17
    · -- f 12
      refine gn_ic 1 (by decide) dX8_isDigit_12 ?_
      refine g_goto (tgt := 17) (by decide) dX8_isDigit_13 ?_
      exact g_iret ⟨by unfold bi; split <;> first | rfl | grind | simp_all, rfl, rfl⟩ rfl rfl dX8_isDigit_17
set_option maxRecDepth 100000 in
set_option maxHeartbeats 4000000 in
theorem c_X8_next {Γ : Gm} {mo n : Nat} {F : Hp} {J : Nat → Int32} {A : Nat → Nat → Int32} {f : Nat → Int32} {s : PS} {e : Nat}  (hJ : J 19 = nI e) (he : e ≤ 600) (hs1 : s.1 ≤ 4) (hs3 : s.2.2.1 ≤ e) : Ct Γ 2 MX8_next 0 0 [.ref mo] (MW Γ mo F (pI J s) A f) n (Rt none (MW Γ mo F (pI J (nxP (A 8) e s)) A f) n) X0 := by
  refine Ct.of (by decide +kernel) rfl (Nat.le_of_ble_eq_true rfl) ?_
  have hq := skP_le (inp := A 8) hs3
  have hq2 := skP_ge (inp := A 8) (e := e) (t := s.2.2.1)
  refine G.sub (lv2 := [(0, _)]) [0] rfl ?_
  have K103 : G Γ 2 MX8_next (Rt none (MW Γ mo F (pI J (nxP (A 8) e s)) A f) n) X0 103 [(0, .ref mo), (2, .int (bi ((ndB s.1 && decide ((skP (A 8) e s.2.2.1) = s.2.2.1)) = true)))] [] (MW Γ mo F (pI J (s.1, (skP (A 8) e s.2.2.1), s.2.2.1, s.2.2.2.1, s.2.2.2.2.1, s.2.2.2.2.2)) A f) n 0 0 := by
    refine g_aload_n 0 rfl dX8_next_103 ?_
    refine m_get (v := .int (nI ((skP (A 8) e s.2.2.1)))) 0 rfl f_X8_136 rfl dX8_next_104 dX8_next_105 ?_
    refine m_putP22 f_X8_133 dX8_next_108 ?_
    refine m_get (v := .int (nI ((skP (A 8) e s.2.2.1)))) 0 rfl f_X8_136 rfl dX8_next_111 dX8_next_112 ?_
    refine m_get 0 rfl f_X8_139 rfl dX8_next_115 dX8_next_116 ?_
    refine g_top (y := nI e) ((pI_o (by decide)).trans hJ) ?_
    refine gn_icmp_ne (by omega) (by omega) (tgt := 130) (by decide) dX8_next_119 (fun cc1 => ?_) (fun cc1 => ?_)
    · -- t 130
      refine m_get 0 rfl f_X8_41 rfl dX8_next_130 dX8_next_131 ?_
      refine m_get (v := .int (nI ((skP (A 8) e s.2.2.1)))) 0 rfl f_X8_136 rfl dX8_next_134 dX8_next_135 ?_
      refine gn_bald MW_9 (by omega) (by decide) dX8_next_138 ?_
      refine gv_S (c_X8_isLetter ) l_X8_142 rfl (Nat.le_of_ble_eq_true rfl) (Nat.le_of_ble_eq_true rfl) rfl dX8_next_139 ?_
      refine g_if_eq (tgt := 200) (by decide) dX8_next_142 (fun hl => ?_) (fun hl => ?_)
      · -- t 200
        refine m_get 0 rfl f_X8_41 rfl dX8_next_200 dX8_next_201 ?_
        refine m_get (v := .int (nI ((skP (A 8) e s.2.2.1)))) 0 rfl f_X8_136 rfl dX8_next_204 dX8_next_205 ?_
        refine gn_bald MW_9 (by omega) (by decide) dX8_next_208 ?_
        refine gv_S (c_X8_isDigit ) l_X8_145 rfl (Nat.le_of_ble_eq_true rfl) (Nat.le_of_ble_eq_true rfl) rfl dX8_next_209 ?_
        refine g_if_eq (tgt := 325) (by decide) dX8_next_212 (fun hdg => ?_) (fun hdg => ?_)
        · -- t 325
          refine g_aload_n 0 rfl dX8_next_325 ?_
          refine m_get (v := .int (nI ((skP (A 8) e s.2.2.1)))) 0 rfl f_X8_136 rfl dX8_next_326 dX8_next_327 ?_
          refine gn_ic 1 (by decide) dX8_next_330 ?_
          refine gn_iadd dX8_next_331 ?_
          refine m_putP22 f_X8_133 dX8_next_332 ?_
          refine g_aload_n 0 rfl dX8_next_335 ?_
          refine m_get 0 rfl f_X8_41 rfl dX8_next_336 dX8_next_337 ?_
          refine m_get (v := .int (nI ((skP (A 8) e s.2.2.1)))) 0 rfl f_X8_136 rfl dX8_next_340 dX8_next_341 ?_
          refine gn_bald MW_9 (by omega) (by decide) dX8_next_344 ?_
          refine gn_bp 59 (by decide) dX8_next_345 ?_
          refine g_icmp_ne (tgt := 354) (by decide) dX8_next_347 (fun cc2 => ?_) (fun cc2 => ?_)
          · -- t 354
            refine gn_ic 4 (by decide) dX8_next_354 ?_
            refine m_putP20 f_X8_130 dX8_next_355 ?_
            exact g_vret ⟨rfl, by unfold nxP tkP; rw [op_eq]; rw [if_neg (show ¬ skP (A 8) e s.2.2.1 = e by assumption)]; rw [if_neg (fun z => bi_0 hl (ltB_t.mp z))]; rw [if_neg (fun z => bi_0 hdg (dgB_t.mp z)), if_neg (by assumption)] <;> rfl, rfl⟩ rfl dX8_next_358
          · -- f 350
            refine gn_ic 3 (by decide) dX8_next_350 ?_
            refine g_goto (tgt := 355) (by decide) dX8_next_351 ?_
            refine m_putP20 f_X8_130 dX8_next_355 ?_
            exact g_vret ⟨rfl, by unfold nxP tkP; rw [op_eq]; rw [if_neg (show ¬ skP (A 8) e s.2.2.1 = e by assumption)]; rw [if_neg (fun z => bi_0 hl (ltB_t.mp z))]; rw [if_neg (fun z => bi_0 hdg (dgB_t.mp z)), if_pos (by assumption)] <;> rfl, rfl⟩ rfl dX8_next_358
        · -- f 215
          refine g_aload_n 0 rfl dX8_next_215 ?_
          refine gn_ic 0 (by decide) dX8_next_216 ?_
          refine m_putP23 f_X8_148 dX8_next_217 ?_
          have L220 : ∀ (m220 : Nat) (p : Nat), (p + m220 = e) → ((skP (A 8) e s.2.2.1) ≤ p) → (spn (dgB (A 8)) m220 p = (spn (dgB (A 8)) (e - (skP (A 8) e s.2.2.1)) (skP (A 8) e s.2.2.1))) → (vlN (A 8) (skP (A 8) e s.2.2.1) (lo3 (p - (skP (A 8) e s.2.2.1))) < 1000 ∨ True) → G Γ 2 MX8_next (Rt none (MW Γ mo F (pI J (nxP (A 8) e s)) A f) n) X0 220 [(0, .ref mo), (2, .int (bi ((ndB s.1 && decide ((skP (A 8) e s.2.2.1) = s.2.2.1)) = true)))] [] (MW Γ mo F (pI J (s.1, (skP (A 8) e s.2.2.1), p, vlN (A 8) (skP (A 8) e s.2.2.1) (lo3 (p - (skP (A 8) e s.2.2.1))), s.2.2.2.2.1, s.2.2.2.2.2)) A f) n 0 0 := by
            intro m220
            induction m220 with
            | zero =>
              intro p hp hqp hE hvb
              refine m_get (v := .int (nI (p))) 0 rfl f_X8_133 rfl dX8_next_220 dX8_next_221 ?_
              refine m_get 0 rfl f_X8_139 rfl dX8_next_224 dX8_next_225 ?_
              refine g_top (y := nI e) ((pI_o (by decide)).trans hJ) ?_
              refine gn_icmp_ge (by omega) (by omega) (tgt := 296) (by decide) dX8_next_228 (fun cc3 => ?_) (fun cc3 => ?_)
              · -- t 296
                obtain rfl : p = (spn (dgB (A 8)) (e - (skP (A 8) e s.2.2.1)) (skP (A 8) e s.2.2.1)) := hE
                refine g_aload_n 0 rfl dX8_next_296 ?_
                refine g_iload_n 1 rfl dX8_next_297 ?_
                refine g_if_ne (tgt := 314) (by decide) dX8_next_298 (fun hg2 => ?_) (fun hg2 => ?_)
                · -- t 314
                  refine gn_ic 4 (by decide) dX8_next_314 ?_
                  refine g_goto (tgt := 319) (by decide) dX8_next_315 ?_
                  refine m_putP20 f_X8_130 dX8_next_319 ?_
                  refine g_goto (tgt := 358) (by decide) dX8_next_322 ?_
                  exact g_vret ⟨rfl, by unfold nxP tkP; rw [op_eq]; rw [if_neg (show ¬ skP (A 8) e s.2.2.1 = e by assumption)]; rw [if_neg (fun z => bi_0 hl (ltB_t.mp z))]; rw [if_pos (dgB_t.mpr (bi_n0 hdg)), if_pos (Or.inl (bi_n0 hg2))] <;> rfl, rfl⟩ rfl dX8_next_358
                · -- f 301
                  refine m_get (v := .int (nI ((spn (dgB (A 8)) (e - (skP (A 8) e s.2.2.1)) (skP (A 8) e s.2.2.1))))) 0 rfl f_X8_133 rfl dX8_next_301 dX8_next_302 ?_
                  refine m_get (v := .int (nI ((skP (A 8) e s.2.2.1)))) 0 rfl f_X8_136 rfl dX8_next_305 dX8_next_306 ?_
                  refine gn_isub (by omega) dX8_next_309 ?_
                  refine gn_ic 3 (by decide) dX8_next_310 ?_
                  refine gn_icmp_le (by omega) (by omega) (tgt := 318) (by decide) dX8_next_311 (fun cc4 => ?_) (fun cc4 => ?_)
                  · -- t 318
                    refine gn_ic 2 (by decide) dX8_next_318 ?_
                    refine m_putP20 f_X8_130 dX8_next_319 ?_
                    refine g_goto (tgt := 358) (by decide) dX8_next_322 ?_
                    exact g_vret ⟨rfl, by unfold nxP tkP; rw [op_eq]; rw [if_neg (show ¬ skP (A 8) e s.2.2.1 = e by assumption)]; rw [if_neg (fun z => bi_0 hl (ltB_t.mp z))]; rw [if_pos (dgB_t.mpr (bi_n0 hdg)), if_neg (fun z => z.elim (bi_0 hg2) (by omega))] <;> rfl, rfl⟩ rfl dX8_next_358
                  · -- f 314
                    refine gn_ic 4 (by decide) dX8_next_314 ?_
                    refine g_goto (tgt := 319) (by decide) dX8_next_315 ?_
                    refine m_putP20 f_X8_130 dX8_next_319 ?_
                    refine g_goto (tgt := 358) (by decide) dX8_next_322 ?_
                    exact g_vret ⟨rfl, by unfold nxP tkP; rw [op_eq]; rw [if_neg (show ¬ skP (A 8) e s.2.2.1 = e by assumption)]; rw [if_neg (fun z => bi_0 hl (ltB_t.mp z))]; rw [if_pos (dgB_t.mpr (bi_n0 hdg)), if_pos (Or.inr (by omega))] <;> rfl, rfl⟩ rfl dX8_next_358
              · -- f 231
                exfalso; omega
            | succ m220 ih220 =>
              intro p hp hqp hE hvb
              refine m_get (v := .int (nI (p))) 0 rfl f_X8_133 rfl dX8_next_220 dX8_next_221 ?_
              refine m_get 0 rfl f_X8_139 rfl dX8_next_224 dX8_next_225 ?_
              refine g_top (y := nI e) ((pI_o (by decide)).trans hJ) ?_
              refine gn_icmp_ge (by omega) (by omega) (tgt := 296) (by decide) dX8_next_228 (fun cc5 => ?_) (fun cc5 => ?_)
              · -- t 296
                exfalso; omega
              · -- f 231
                refine m_get 0 rfl f_X8_41 rfl dX8_next_231 dX8_next_232 ?_
                refine m_get (v := .int (nI (p))) 0 rfl f_X8_133 rfl dX8_next_235 dX8_next_236 ?_
                refine gn_bald MW_9 (by omega) (by decide) dX8_next_239 ?_
                refine gv_S (c_X8_isDigit ) l_X8_145 rfl (Nat.le_of_ble_eq_true rfl) (Nat.le_of_ble_eq_true rfl) rfl dX8_next_240 ?_
                refine g_if_eq (tgt := 296) (by decide) dX8_next_243 (fun hd2 => ?_) (fun hd2 => ?_)
                · -- t 296
                  obtain rfl : p = (spn (dgB (A 8)) (e - (skP (A 8) e s.2.2.1)) (skP (A 8) e s.2.2.1)) := (spn_f (m := m220 + 1) (fun z => bi_0 hd2 (dgB_t.mp z))).symm.trans hE
                  refine g_aload_n 0 rfl dX8_next_296 ?_
                  refine g_iload_n 1 rfl dX8_next_297 ?_
                  refine g_if_ne (tgt := 314) (by decide) dX8_next_298 (fun hg2 => ?_) (fun hg2 => ?_)
                  · -- t 314
                    refine gn_ic 4 (by decide) dX8_next_314 ?_
                    refine g_goto (tgt := 319) (by decide) dX8_next_315 ?_
                    refine m_putP20 f_X8_130 dX8_next_319 ?_
                    refine g_goto (tgt := 358) (by decide) dX8_next_322 ?_
                    exact g_vret ⟨rfl, by unfold nxP tkP; rw [op_eq]; rw [if_neg (show ¬ skP (A 8) e s.2.2.1 = e by assumption)]; rw [if_neg (fun z => bi_0 hl (ltB_t.mp z))]; rw [if_pos (dgB_t.mpr (bi_n0 hdg)), if_pos (Or.inl (bi_n0 hg2))] <;> rfl, rfl⟩ rfl dX8_next_358
                  · -- f 301
                    refine m_get (v := .int (nI ((spn (dgB (A 8)) (e - (skP (A 8) e s.2.2.1)) (skP (A 8) e s.2.2.1))))) 0 rfl f_X8_133 rfl dX8_next_301 dX8_next_302 ?_
                    refine m_get (v := .int (nI ((skP (A 8) e s.2.2.1)))) 0 rfl f_X8_136 rfl dX8_next_305 dX8_next_306 ?_
                    refine gn_isub (by omega) dX8_next_309 ?_
                    refine gn_ic 3 (by decide) dX8_next_310 ?_
                    refine gn_icmp_le (by omega) (by omega) (tgt := 318) (by decide) dX8_next_311 (fun cc6 => ?_) (fun cc6 => ?_)
                    · -- t 318
                      refine gn_ic 2 (by decide) dX8_next_318 ?_
                      refine m_putP20 f_X8_130 dX8_next_319 ?_
                      refine g_goto (tgt := 358) (by decide) dX8_next_322 ?_
                      exact g_vret ⟨rfl, by unfold nxP tkP; rw [op_eq]; rw [if_neg (show ¬ skP (A 8) e s.2.2.1 = e by assumption)]; rw [if_neg (fun z => bi_0 hl (ltB_t.mp z))]; rw [if_pos (dgB_t.mpr (bi_n0 hdg)), if_neg (fun z => z.elim (bi_0 hg2) (by omega))] <;> rfl, rfl⟩ rfl dX8_next_358
                    · -- f 314
                      refine gn_ic 4 (by decide) dX8_next_314 ?_
                      refine g_goto (tgt := 319) (by decide) dX8_next_315 ?_
                      refine m_putP20 f_X8_130 dX8_next_319 ?_
                      refine g_goto (tgt := 358) (by decide) dX8_next_322 ?_
                      exact g_vret ⟨rfl, by unfold nxP tkP; rw [op_eq]; rw [if_neg (show ¬ skP (A 8) e s.2.2.1 = e by assumption)]; rw [if_neg (fun z => bi_0 hl (ltB_t.mp z))]; rw [if_pos (dgB_t.mpr (bi_n0 hdg)), if_pos (Or.inr (by omega))] <;> rfl, rfl⟩ rfl dX8_next_358
                · -- f 246
                  refine m_get (v := .int (nI (p))) 0 rfl f_X8_133 rfl dX8_next_246 dX8_next_247 ?_
                  refine m_get (v := .int (nI ((skP (A 8) e s.2.2.1)))) 0 rfl f_X8_136 rfl dX8_next_250 dX8_next_251 ?_
                  refine gn_isub (by omega) dX8_next_254 ?_
                  refine gn_ic 3 (by decide) dX8_next_255 ?_
                  refine gn_icmp_ge (by omega) (by omega) (tgt := 283) (by decide) dX8_next_256 (fun cc7 => ?_) (fun cc7 => ?_)
                  · -- t 283
                    refine g_aload_n 0 rfl dX8_next_283 ?_
                    refine g_dup rfl dX8_next_284 ?_
                    refine m_getS (v := .int (nI (p))) f_X8_133 rfl dX8_next_285 ?_
                    refine gn_ic 1 (by decide) dX8_next_288 ?_
                    refine gn_iadd dX8_next_289 ?_
                    refine m_putP22 f_X8_133 dX8_next_290 ?_
                    refine g_goto (tgt := 220) (by decide) dX8_next_293 ?_
                    refine G.sub [0, 1] rfl ?_
                    exact (by have h := ih220 (p + 1) (by omega) (by omega) ((spn_t (dgB_t.mpr (bi_n0 hd2))).symm.trans hE) (Or.inr trivial); rw [show lo3 (p + 1 - (skP (A 8) e s.2.2.1)) = lo3 (p - (skP (A 8) e s.2.2.1)) from by rw [lo3_ge (by omega), lo3_ge (by omega)]] at h; exact h)
                  · -- f 259
                    refine g_aload_n 0 rfl dX8_next_259 ?_
                    refine gn_bp 10 (by decide) dX8_next_260 ?_
                    refine m_get (v := .int (nI (vlN (A 8) (skP (A 8) e s.2.2.1) (lo3 (p - (skP (A 8) e s.2.2.1)))))) 0 rfl f_X8_148 rfl dX8_next_262 dX8_next_263 ?_
                    refine gn_imul dX8_next_266 ?_
                    refine m_get 0 rfl f_X8_41 rfl dX8_next_267 dX8_next_268 ?_
                    refine m_get (v := .int (nI (p))) 0 rfl f_X8_133 rfl dX8_next_271 dX8_next_272 ?_
                    refine gn_bald MW_9 (by omega) (by decide) dX8_next_275 ?_
                    refine g_iadd dX8_next_276 ?_
                    refine gn_bp 48 (by decide) dX8_next_277 ?_
                    refine g_isub dX8_next_279 ?_
                    refine g_top (y := nI (10 * vlN (A 8) (skP (A 8) e s.2.2.1) (lo3 (p - (skP (A 8) e s.2.2.1))) + ((A 8 p).toNatClampNeg - 48))) (vl_step (bi_n0 hd2)) ?_
                    refine m_putP23 f_X8_148 dX8_next_280 ?_
                    refine g_aload_n 0 rfl dX8_next_283 ?_
                    refine g_dup rfl dX8_next_284 ?_
                    refine m_getS (v := .int (nI (p))) f_X8_133 rfl dX8_next_285 ?_
                    refine gn_ic 1 (by decide) dX8_next_288 ?_
                    refine gn_iadd dX8_next_289 ?_
                    refine m_putP22 f_X8_133 dX8_next_290 ?_
                    refine g_goto (tgt := 220) (by decide) dX8_next_293 ?_
                    refine G.sub [0, 1] rfl ?_
                    exact (by have h := ih220 (p + 1) (by omega) (by omega) ((spn_t (dgB_t.mpr (bi_n0 hd2))).symm.trans hE) (Or.inr trivial); rw [show lo3 (p + 1 - (skP (A 8) e s.2.2.1)) = p - (skP (A 8) e s.2.2.1) + 1 from by rw [show p + 1 - (skP (A 8) e s.2.2.1) = p - (skP (A 8) e s.2.2.1) + 1 by omega, lo3_s (by omega)], vlN, show (skP (A 8) e s.2.2.1) + (p - (skP (A 8) e s.2.2.1)) = p by omega, ← lo3_lt (k := p - (skP (A 8) e s.2.2.1)) (by omega)] at h; exact h)
          refine G.sub [0, 1] rfl ?_
          refine g_world (E2 := MW Γ mo F (pI J (s.1, (skP (A 8) e s.2.2.1), (skP (A 8) e s.2.2.1), vlN (A 8) (skP (A 8) e s.2.2.1) (lo3 ((skP (A 8) e s.2.2.1) - (skP (A 8) e s.2.2.1))), s.2.2.2.2.1, s.2.2.2.2.2)) A f) (by rw [Nat.sub_self]; rfl) ?_
          exact L220 (e - (skP (A 8) e s.2.2.1)) (skP (A 8) e s.2.2.1) (by omega) (Nat.le_refl _) rfl (Or.inr trivial)
      · -- f 145
        have L145 : ∀ (m145 : Nat) (p : Nat), (p + m145 = e) → (spn (ltB (A 8)) m145 p = (spn (ltB (A 8)) (e - (skP (A 8) e s.2.2.1)) (skP (A 8) e s.2.2.1))) → G Γ 2 MX8_next (Rt none (MW Γ mo F (pI J (nxP (A 8) e s)) A f) n) X0 145 [(0, .ref mo), (2, .int (bi ((ndB s.1 && decide ((skP (A 8) e s.2.2.1) = s.2.2.1)) = true)))] [] (MW Γ mo F (pI J (s.1, (skP (A 8) e s.2.2.1), p, s.2.2.2.1, s.2.2.2.2.1, s.2.2.2.2.2)) A f) n 0 0 := by
          intro m145
          induction m145 with
          | zero =>
            intro p hp hE
            refine m_get (v := .int (nI (p))) 0 rfl f_X8_133 rfl dX8_next_145 dX8_next_146 ?_
            refine m_get 0 rfl f_X8_139 rfl dX8_next_149 dX8_next_150 ?_
            refine g_top (y := nI e) ((pI_o (by decide)).trans hJ) ?_
            refine gn_icmp_ge (by omega) (by omega) (tgt := 184) (by decide) dX8_next_153 (fun cc8 => ?_) (fun cc8 => ?_)
            · -- t 184
              obtain rfl : p = (spn (ltB (A 8)) (e - (skP (A 8) e s.2.2.1)) (skP (A 8) e s.2.2.1)) := hE
              refine g_aload_n 0 rfl dX8_next_184 ?_
              refine g_iload_n 1 rfl dX8_next_185 ?_
              refine g_if_eq (tgt := 193) (by decide) dX8_next_186 (fun hg => ?_) (fun hg => ?_)
              · -- t 193
                refine gn_ic 1 (by decide) dX8_next_193 ?_
                refine m_putP20 f_X8_130 dX8_next_194 ?_
                refine g_goto (tgt := 358) (by decide) dX8_next_197 ?_
                exact g_vret ⟨rfl, by unfold nxP tkP; rw [op_eq]; rw [if_neg (show ¬ skP (A 8) e s.2.2.1 = e by assumption)]; rw [if_pos (ltB_t.mpr (bi_n0 hl))]; rw [if_neg (bi_0 hg)] <;> rfl, rfl⟩ rfl dX8_next_358
              · -- f 189
                refine gn_ic 4 (by decide) dX8_next_189 ?_
                refine g_goto (tgt := 194) (by decide) dX8_next_190 ?_
                refine m_putP20 f_X8_130 dX8_next_194 ?_
                refine g_goto (tgt := 358) (by decide) dX8_next_197 ?_
                exact g_vret ⟨rfl, by unfold nxP tkP; rw [op_eq]; rw [if_neg (show ¬ skP (A 8) e s.2.2.1 = e by assumption)]; rw [if_pos (ltB_t.mpr (bi_n0 hl))]; rw [if_pos (bi_n0 hg)] <;> rfl, rfl⟩ rfl dX8_next_358
            · -- f 156
              exfalso; omega
          | succ m145 ih145 =>
            intro p hp hE
            refine m_get (v := .int (nI (p))) 0 rfl f_X8_133 rfl dX8_next_145 dX8_next_146 ?_
            refine m_get 0 rfl f_X8_139 rfl dX8_next_149 dX8_next_150 ?_
            refine g_top (y := nI e) ((pI_o (by decide)).trans hJ) ?_
            refine gn_icmp_ge (by omega) (by omega) (tgt := 184) (by decide) dX8_next_153 (fun cc9 => ?_) (fun cc9 => ?_)
            · -- t 184
              exfalso; omega
            · -- f 156
              refine m_get 0 rfl f_X8_41 rfl dX8_next_156 dX8_next_157 ?_
              refine m_get (v := .int (nI (p))) 0 rfl f_X8_133 rfl dX8_next_160 dX8_next_161 ?_
              refine gn_bald MW_9 (by omega) (by decide) dX8_next_164 ?_
              refine gv_S (c_X8_isLetter ) l_X8_142 rfl (Nat.le_of_ble_eq_true rfl) (Nat.le_of_ble_eq_true rfl) rfl dX8_next_165 ?_
              refine g_if_eq (tgt := 184) (by decide) dX8_next_168 (fun hl2 => ?_) (fun hl2 => ?_)
              · -- t 184
                obtain rfl : p = (spn (ltB (A 8)) (e - (skP (A 8) e s.2.2.1)) (skP (A 8) e s.2.2.1)) := (spn_f (m := m145 + 1) (fun z => bi_0 hl2 (ltB_t.mp z))).symm.trans hE
                refine g_aload_n 0 rfl dX8_next_184 ?_
                refine g_iload_n 1 rfl dX8_next_185 ?_
                refine g_if_eq (tgt := 193) (by decide) dX8_next_186 (fun hg => ?_) (fun hg => ?_)
                · -- t 193
                  refine gn_ic 1 (by decide) dX8_next_193 ?_
                  refine m_putP20 f_X8_130 dX8_next_194 ?_
                  refine g_goto (tgt := 358) (by decide) dX8_next_197 ?_
                  exact g_vret ⟨rfl, by unfold nxP tkP; rw [op_eq]; rw [if_neg (show ¬ skP (A 8) e s.2.2.1 = e by assumption)]; rw [if_pos (ltB_t.mpr (bi_n0 hl))]; rw [if_neg (bi_0 hg)] <;> rfl, rfl⟩ rfl dX8_next_358
                · -- f 189
                  refine gn_ic 4 (by decide) dX8_next_189 ?_
                  refine g_goto (tgt := 194) (by decide) dX8_next_190 ?_
                  refine m_putP20 f_X8_130 dX8_next_194 ?_
                  refine g_goto (tgt := 358) (by decide) dX8_next_197 ?_
                  exact g_vret ⟨rfl, by unfold nxP tkP; rw [op_eq]; rw [if_neg (show ¬ skP (A 8) e s.2.2.1 = e by assumption)]; rw [if_pos (ltB_t.mpr (bi_n0 hl))]; rw [if_pos (bi_n0 hg)] <;> rfl, rfl⟩ rfl dX8_next_358
              · -- f 171
                refine g_aload_n 0 rfl dX8_next_171 ?_
                refine g_dup rfl dX8_next_172 ?_
                refine m_getS (v := .int (nI (p))) f_X8_133 rfl dX8_next_173 ?_
                refine gn_ic 1 (by decide) dX8_next_176 ?_
                refine gn_iadd dX8_next_177 ?_
                refine m_putP22 f_X8_133 dX8_next_178 ?_
                refine g_goto (tgt := 145) (by decide) dX8_next_181 ?_
                refine G.sub [0, 1] rfl ?_
                exact ih145 (p + 1) (by omega) ((spn_t (ltB_t.mpr (bi_n0 hl2))).symm.trans hE)
        refine G.sub [0, 1] rfl ?_
        exact L145 (e - (skP (A 8) e s.2.2.1)) (skP (A 8) e s.2.2.1) (by omega) rfl
    · -- f 122
      refine g_aload_n 0 rfl dX8_next_122 ?_
      refine gn_ic 0 (by decide) dX8_next_123 ?_
      refine m_putP20 f_X8_130 dX8_next_124 ?_
      refine g_goto (tgt := 358) (by decide) dX8_next_127 ?_
      exact g_vret ⟨rfl, by unfold nxP tkP; rw [op_eq]; rw [if_pos (show skP (A 8) e s.2.2.1 = e by assumption)] <;> rfl, rfl⟩ rfl dX8_next_358
  have K82 : G Γ 2 MX8_next (Rt none (MW Γ mo F (pI J (nxP (A 8) e s)) A f) n) X0 82 [(0, .ref mo), (1, .int (bi (ndB s.1 = true)))] [] (MW Γ mo F (pI J (s.1, (skP (A 8) e s.2.2.1), s.2.2.1, s.2.2.2.1, s.2.2.2.2.1, s.2.2.2.2.2)) A f) n 0 0 := by
    refine g_iload_n 1 rfl dX8_next_82 ?_
    refine g_if_eq (tgt := 101) (by decide) dX8_next_83 (fun hn => ?_) (fun hn => ?_)
    · -- t 101
      refine gn_ic 0 (by decide) dX8_next_101 ?_
      refine g_istore_n (lv2 := [(2, _), (0, _), (1, _)]) (by decide) rfl dX8_next_102 ?_
      refine G.sub [1, 0] rfl ?_
      rw [bi_f (show ¬ ((ndB s.1 && decide ((skP (A 8) e s.2.2.1) = s.2.2.1))) = true by simp only [Bool.and_eq_true, decide_eq_true_eq]; exact fun z => bi_0 hn z.1)] at K103
      exact K103
    · -- f 86
      refine m_get (v := .int (nI ((skP (A 8) e s.2.2.1)))) 0 rfl f_X8_136 rfl dX8_next_86 dX8_next_87 ?_
      refine m_get (v := .int (nI (s.2.2.1))) 0 rfl f_X8_133 rfl dX8_next_90 dX8_next_91 ?_
      refine gn_icmp_ne (by omega) (by omega) (tgt := 101) (by decide) dX8_next_94 (fun cc10 => ?_) (fun cc10 => ?_)
      · -- t 101
        refine gn_ic 0 (by decide) dX8_next_101 ?_
        refine g_istore_n (lv2 := [(2, _), (0, _), (1, _)]) (by decide) rfl dX8_next_102 ?_
        refine G.sub [1, 0] rfl ?_
        rw [bi_f (show ¬ ((ndB s.1 && decide ((skP (A 8) e s.2.2.1) = s.2.2.1))) = true by simp only [Bool.and_eq_true, decide_eq_true_eq]; exact fun z => absurd z.2 (by assumption))] at K103
        exact K103
      · -- f 97
        refine gn_ic 1 (by decide) dX8_next_97 ?_
        refine g_goto (tgt := 102) (by decide) dX8_next_98 ?_
        refine g_istore_n (lv2 := [(2, _), (0, _), (1, _)]) (by decide) rfl dX8_next_102 ?_
        refine G.sub [1, 0] rfl ?_
        rw [bi_t (show ((ndB s.1 && decide ((skP (A 8) e s.2.2.1) = s.2.2.1))) = true by simp only [Bool.and_eq_true, decide_eq_true_eq]; exact ⟨bi_n0 hn, by assumption⟩)] at K103
        exact K103
  have K22 : G Γ 2 MX8_next (Rt none (MW Γ mo F (pI J (nxP (A 8) e s)) A f) n) X0 22 [(0, .ref mo), (1, .int (bi (ndB s.1 = true)))] [] (MW Γ mo F (pI J s) A f) n 0 0 := by
    refine g_aload_n 0 rfl dX8_next_22 ?_
    refine m_get (v := .int (nI ((s).2.2.1))) 0 rfl f_X8_133 rfl dX8_next_23 dX8_next_24 ?_
    refine m_putP21 f_X8_136 dX8_next_27 ?_
    have L30 : ∀ (m30 : Nat) (p : Nat), (p + m30 = e) → (spn (spB (A 8)) m30 p = (skP (A 8) e s.2.2.1)) → G Γ 2 MX8_next (Rt none (MW Γ mo F (pI J (nxP (A 8) e s)) A f) n) X0 30 [(0, .ref mo), (1, .int (bi (ndB s.1 = true)))] [] (MW Γ mo F (pI J (s.1, p, s.2.2.1, s.2.2.2.1, s.2.2.2.2.1, s.2.2.2.2.2)) A f) n 0 0 := by
      intro m30
      induction m30 with
      | zero =>
        intro p hp hE
        refine m_get (v := .int (nI (p))) 0 rfl f_X8_136 rfl dX8_next_30 dX8_next_31 ?_
        refine m_get 0 rfl f_X8_139 rfl dX8_next_34 dX8_next_35 ?_
        refine g_top (y := nI e) ((pI_o (by decide)).trans hJ) ?_
        refine gn_icmp_ge (by omega) (by omega) (tgt := 82) (by decide) dX8_next_38 (fun cc11 => ?_) (fun cc11 => ?_)
        · -- t 82
          refine G.sub [0, 1] rfl ?_
          obtain rfl : p = (skP (A 8) e s.2.2.1) := hE
          exact K82
        · -- f 41
          exfalso; omega
      | succ m30 ih30 =>
        intro p hp hE
        refine m_get (v := .int (nI (p))) 0 rfl f_X8_136 rfl dX8_next_30 dX8_next_31 ?_
        refine m_get 0 rfl f_X8_139 rfl dX8_next_34 dX8_next_35 ?_
        refine g_top (y := nI e) ((pI_o (by decide)).trans hJ) ?_
        refine gn_icmp_ge (by omega) (by omega) (tgt := 82) (by decide) dX8_next_38 (fun cc12 => ?_) (fun cc12 => ?_)
        · -- t 82
          exfalso; omega
        · -- f 41
          refine m_get 0 rfl f_X8_41 rfl dX8_next_41 dX8_next_42 ?_
          refine m_get (v := .int (nI (p))) 0 rfl f_X8_136 rfl dX8_next_45 dX8_next_46 ?_
          refine gn_bald MW_9 (by omega) (by decide) dX8_next_49 ?_
          refine gn_bp 32 (by decide) dX8_next_50 ?_
          refine g_icmp_eq (tgt := 69) (by decide) dX8_next_52 (fun cc13 => ?_) (fun cc13 => ?_)
          · -- t 69
            refine g_aload_n 0 rfl dX8_next_69 ?_
            refine g_dup rfl dX8_next_70 ?_
            refine m_getS (v := .int (nI (p))) f_X8_136 rfl dX8_next_71 ?_
            refine gn_ic 1 (by decide) dX8_next_74 ?_
            refine gn_iadd dX8_next_75 ?_
            refine m_putP21 f_X8_136 dX8_next_76 ?_
            refine g_goto (tgt := 30) (by decide) dX8_next_79 ?_
            refine G.sub [0, 1] rfl ?_
            exact ih30 (p + 1) (by omega) ((spn_t (spB_t.mpr (by first | exact Or.inl (by assumption) | exact Or.inr (by assumption)))).symm.trans hE)
          · -- f 55
            refine m_get 0 rfl f_X8_41 rfl dX8_next_55 dX8_next_56 ?_
            refine m_get (v := .int (nI (p))) 0 rfl f_X8_136 rfl dX8_next_59 dX8_next_60 ?_
            refine gn_bald MW_9 (by omega) (by decide) dX8_next_63 ?_
            refine gn_bp 10 (by decide) dX8_next_64 ?_
            refine g_icmp_ne (tgt := 82) (by decide) dX8_next_66 (fun cc14 => ?_) (fun cc14 => ?_)
            · -- t 82
              refine G.sub [0, 1] rfl ?_
              obtain rfl : p = (skP (A 8) e s.2.2.1) := (spn_f (m := m30 + 1) (fun z => by rcases spB_t.mp z with z | z <;> contradiction)).symm.trans hE
              exact K82
            · -- f 69
              refine g_aload_n 0 rfl dX8_next_69 ?_
              refine g_dup rfl dX8_next_70 ?_
              refine m_getS (v := .int (nI (p))) f_X8_136 rfl dX8_next_71 ?_
              refine gn_ic 1 (by decide) dX8_next_74 ?_
              refine gn_iadd dX8_next_75 ?_
              refine m_putP21 f_X8_136 dX8_next_76 ?_
              refine g_goto (tgt := 30) (by decide) dX8_next_79 ?_
              refine G.sub [0, 1] rfl ?_
              exact ih30 (p + 1) (by omega) ((spn_t (spB_t.mpr (by first | exact Or.inl (by assumption) | exact Or.inr (by assumption)))).symm.trans hE)
    refine G.sub [0, 1] rfl ?_
    exact L30 (e - s.2.2.1) s.2.2.1 (by omega) rfl
  refine m_get (v := .int (nI ((s).1))) 0 rfl f_X8_130 rfl dX8_next_0 dX8_next_1 ?_
  refine gn_ic 1 (by decide) dX8_next_4 ?_
  refine gn_icmp_eq (by omega) (by omega) (tgt := 16) (by decide) dX8_next_5 (fun cc15 => ?_) (fun cc15 => ?_)
  · -- t 16
    refine gn_ic 1 (by decide) dX8_next_16 ?_
    refine g_goto (tgt := 21) (by decide) dX8_next_17 ?_
    refine g_istore_n (lv2 := [(1, _), (0, _)]) (by decide) rfl dX8_next_21 ?_
    refine G.sub [1, 0] rfl ?_
    rw [bi_t (show ndB s.1 = true by unfold ndB; simp only [decide_eq_true_eq]; omega)] at K22
    exact K22
  · -- f 8
    refine m_get (v := .int (nI ((s).1))) 0 rfl f_X8_130 rfl dX8_next_8 dX8_next_9 ?_
    refine gn_ic 2 (by decide) dX8_next_12 ?_
    refine gn_icmp_ne (by omega) (by omega) (tgt := 20) (by decide) dX8_next_13 (fun cc16 => ?_) (fun cc16 => ?_)
    · -- t 20
      refine gn_ic 0 (by decide) dX8_next_20 ?_
      refine g_istore_n (lv2 := [(1, _), (0, _)]) (by decide) rfl dX8_next_21 ?_
      refine G.sub [1, 0] rfl ?_
      rw [bi_f (show ¬ ndB s.1 = true by unfold ndB; simp only [decide_eq_true_eq]; omega)] at K22
      exact K22
    · -- f 16
      refine gn_ic 1 (by decide) dX8_next_16 ?_
      refine g_goto (tgt := 21) (by decide) dX8_next_17 ?_
      refine g_istore_n (lv2 := [(1, _), (0, _)]) (by decide) rfl dX8_next_21 ?_
      refine G.sub [1, 0] rfl ?_
      rw [bi_t (show ndB s.1 = true by unfold ndB; simp only [decide_eq_true_eq]; omega)] at K22
      exact K22
end GM5
