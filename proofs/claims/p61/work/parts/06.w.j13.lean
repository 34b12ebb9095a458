section GJ13
set_option maxRecDepth 100000 in
set_option maxHeartbeats 4000000 in
theorem c_X6_isLetter {Γ : Gm} {n : Nat} {E : Hp} {x : Int32}  : Ct Γ 1 MX6_isLetter 0 0 [.int x] (E) n (Rt (some (.int (bi (nI 97 ≤ x ∧ x ≤ nI 122)))) (E) n) X0 := by
  refine Ct.of (by decide +kernel) rfl (Nat.le_of_ble_eq_true rfl) ?_
  refine G.sub (lv2 := [(0, _)]) [0] rfl ?_
  refine g_iload_n 0 rfl dX6_isLetter_0 ?_
  refine gn_bp 97 (by decide) dX6_isLetter_1 ?_
  refine g_icmp_lt (tgt := 16) (by decide) dX6_isLetter_3 (fun h3 => ?_) (fun h3 => ?_)
  · -- t 16
    refine gn_ic 0 (by decide) dX6_isLetter_16 ?_
    exact g_iret ⟨by rw [bi_f (fun z => Int32.not_lt.mpr z.1 h3)], rfl, rfl⟩ (by decide +kernel) rfl dX6_isLetter_17
  · -- f 6
    refine g_iload_n 0 rfl dX6_isLetter_6 ?_
    refine gn_bp 122 (by decide) dX6_isLetter_7 ?_
    refine g_icmp_gt (tgt := 16) (by decide) dX6_isLetter_9 (fun h9 => ?_) (fun h9 => ?_)
    · -- t 16
      refine gn_ic 0 (by decide) dX6_isLetter_16 ?_
      exact g_iret ⟨by rw [bi_f (fun z => Int32.not_lt.mpr z.2 h9)], rfl, rfl⟩ (by decide +kernel) rfl dX6_isLetter_17
    · -- f 12
      refine gn_ic 1 (by decide) dX6_isLetter_12 ?_
      refine g_goto (tgt := 17) (by decide) dX6_isLetter_13 ?_
      exact g_iret ⟨by rw [bi_t ⟨Int32.not_lt.mp h3, Int32.not_lt.mp h9⟩], rfl, rfl⟩ (by decide +kernel) rfl dX6_isLetter_17
set_option maxRecDepth 100000 in
set_option maxHeartbeats 4000000 in
theorem c_X6_isDigit {Γ : Gm} {n : Nat} {E : Hp} {x : Int32}  : Ct Γ 1 MX6_isDigit 0 0 [.int x] (E) n (Rt (some (.int (bi (nI 48 ≤ x ∧ x ≤ nI 57)))) (E) n) X0 := by
  refine Ct.of (by decide +kernel) rfl (Nat.le_of_ble_eq_true rfl) ?_
  refine G.sub (lv2 := [(0, _)]) [0] rfl ?_
  refine g_iload_n 0 rfl dX6_isDigit_0 ?_
  refine gn_bp 48 (by decide) dX6_isDigit_1 ?_
  refine g_icmp_lt (tgt := 16) (by decide) dX6_isDigit_3 (fun h3 => ?_) (fun h3 => ?_)
  · -- t 16
    refine gn_ic 0 (by decide) dX6_isDigit_16 ?_
    exact g_iret ⟨by rw [bi_f (fun z => Int32.not_lt.mpr z.1 h3)], rfl, rfl⟩ (by decide +kernel) rfl dX6_isDigit_17
  · -- f 6
    refine g_iload_n 0 rfl dX6_isDigit_6 ?_
    refine gn_bp 57 (by decide) dX6_isDigit_7 ?_
    refine g_icmp_gt (tgt := 16) (by decide) dX6_isDigit_9 (fun h9 => ?_) (fun h9 => ?_)
    · -- t 16
      refine gn_ic 0 (by decide) dX6_isDigit_16 ?_
      exact g_iret ⟨by rw [bi_f (fun z => Int32.not_lt.mpr z.2 h9)], rfl, rfl⟩ (by decide +kernel) rfl dX6_isDigit_17
    · -- f 12
      refine gn_ic 1 (by decide) dX6_isDigit_12 ?_
      refine g_goto (tgt := 17) (by decide) dX6_isDigit_13 ?_
      exact g_iret ⟨by rw [bi_t ⟨Int32.not_lt.mp h3, Int32.not_lt.mp h9⟩], rfl, rfl⟩ (by decide +kernel) rfl dX6_isDigit_17
set_option maxRecDepth 100000 in
set_option maxHeartbeats 4000000 in
theorem r_tkL {Γ : Gm} {n : Nat} {E : Hp} {tb ti lb e κ fr : Nat} {inp : Nat → Int32} (hne : ti ≠ tb) (hi : E ti = some (.inl (gA Γ 1, 600, .inl inp))) (he : e ≤ 600) (hfr : fr ≤ e) : G Γ 2 MX6_step (Rt none (hset E tb (.inr (9, tkF Γ ti lb e κ fr (spn (ltB inp) (e - fr) fr)))) n) X0 168 [(0, .ref tb)] [] (hset E tb (.inr (9, tkF Γ ti lb e κ fr fr))) n 0 0 := by
  refine G.sub (lv2 := [(0, _)]) [0] rfl ?_
  have L168 : ∀ (m168 : Nat) (p : Nat), (p + m168 = e) → (spn (ltB inp) (e - fr) fr = spn (ltB inp) m168 p) → G Γ 2 MX6_step (Rt none (hset E tb (.inr (9, tkF Γ ti lb e κ fr (spn (ltB inp) (e - fr) fr)))) n) X0 168 [(0, .ref tb)] [] (hset E tb (.inr (9, tkF Γ ti lb e κ fr p))) n 0 0 := by
    intro m168
    induction m168 with
    | zero =>
      intro p hp hsp
      refine g_aload_n 0 rfl dX6_step_168 ?_
      refine g_get f_X6_42 hset_s rfl dX6_step_169 ?_
      refine g_aload_n 0 rfl dX6_step_172 ?_
      refine g_get f_X6_35 hset_s rfl dX6_step_173 ?_
      refine gn_icmp_ge (by omega) (by omega) (tgt := 319) (by decide) dX6_step_176 (fun ha => ?_) (fun ha => ?_)
      · -- t 319
        exact g_vret ⟨rfl, by rw [hsp]; rfl, rfl⟩ rfl dX6_step_319
      · -- f 179
        exfalso; omega
    | succ m168 ih168 =>
      intro p hp hsp
      refine g_aload_n 0 rfl dX6_step_168 ?_
      refine g_get f_X6_42 hset_s rfl dX6_step_169 ?_
      refine g_aload_n 0 rfl dX6_step_172 ?_
      refine g_get f_X6_35 hset_s rfl dX6_step_173 ?_
      refine gn_icmp_ge (by omega) (by omega) (tgt := 319) (by decide) dX6_step_176 (fun ha => ?_) (fun ha => ?_)
      · -- t 319
        exfalso; omega
      · -- f 179
        refine g_aload_n 0 rfl dX6_step_179 ?_
        refine g_get f_X6_25 hset_s rfl dX6_step_180 ?_
        refine g_aload_n 0 rfl dX6_step_183 ?_
        refine g_get f_X6_42 hset_s rfl dX6_step_184 ?_
        refine gn_bald ((hset_n hne).trans hi) (by omega) (by decide) dX6_step_187 ?_
        refine gv_S (c_X6_isLetter ) l_X6_57 rfl (Nat.le_of_ble_eq_true rfl) (Nat.le_of_ble_eq_true rfl) rfl dX6_step_188 ?_
        refine g_if_eq (tgt := 319) (by decide) dX6_step_191 (fun hc => ?_) (fun hc => ?_)
        · -- t 319
          exact g_vret ⟨rfl, by rw [hsp, spn_f (fun z => bi_0 hc (ltB_t.mp z))], rfl⟩ rfl dX6_step_319
        · -- f 194
          refine g_aload_n 0 rfl dX6_step_194 ?_
          refine g_dup rfl dX6_step_195 ?_
          refine g_get f_X6_42 hset_s rfl dX6_step_196 ?_
          refine gn_ic 1 (by decide) dX6_step_199 ?_
          refine gn_iadd dX6_step_200 ?_
          refine g_put f_X6_42 w_X6_5 hset_s (Nat.le_of_ble_eq_true rfl) rfl rfl rfl dX6_step_201 ?_
          refine g_world hset_hs ?_
          refine g_goto (tgt := 168) (by decide) dX6_step_204 ?_
          refine G.sub [0] rfl ?_
          exact ih168 (p + 1) (by omega) (by rw [hsp, spn_t (ltB_t.mpr (bi_n0 hc))])
  refine G.sub [0] rfl ?_
  exact L168 (e - fr) fr (by omega) rfl
set_option maxRecDepth 100000 in
set_option maxHeartbeats 4000000 in
theorem r_tkD {Γ : Gm} {n : Nat} {E : Hp} {tb ti lb e κ fr : Nat} {inp : Nat → Int32} (hne : ti ≠ tb) (hi : E ti = some (.inl (gA Γ 1, 600, .inl inp))) (he : e ≤ 600) (hfr : fr ≤ e) : G Γ 2 MX6_step (Rt none (hset E tb (.inr (9, tkF Γ ti lb e κ fr (spn (dgB inp) (e - fr) fr)))) n) X0 243 [(0, .ref tb)] [] (hset E tb (.inr (9, tkF Γ ti lb e κ fr fr))) n 0 0 := by
  refine G.sub (lv2 := [(0, _)]) [0] rfl ?_
  have L243 : ∀ (m243 : Nat) (p : Nat), (p + m243 = e) → (spn (dgB inp) (e - fr) fr = spn (dgB inp) m243 p) → G Γ 2 MX6_step (Rt none (hset E tb (.inr (9, tkF Γ ti lb e κ fr (spn (dgB inp) (e - fr) fr)))) n) X0 243 [(0, .ref tb)] [] (hset E tb (.inr (9, tkF Γ ti lb e κ fr p))) n 0 0 := by
    intro m243
    induction m243 with
    | zero =>
      intro p hp hsp
      refine g_aload_n 0 rfl dX6_step_243 ?_
      refine g_get f_X6_42 hset_s rfl dX6_step_244 ?_
      refine g_aload_n 0 rfl dX6_step_247 ?_
      refine g_get f_X6_35 hset_s rfl dX6_step_248 ?_
      refine gn_icmp_ge (by omega) (by omega) (tgt := 319) (by decide) dX6_step_251 (fun ha => ?_) (fun ha => ?_)
      · -- t 319
        exact g_vret ⟨rfl, by rw [hsp]; rfl, rfl⟩ rfl dX6_step_319
      · -- f 254
        exfalso; omega
    | succ m243 ih243 =>
      intro p hp hsp
      refine g_aload_n 0 rfl dX6_step_243 ?_
      refine g_get f_X6_42 hset_s rfl dX6_step_244 ?_
      refine g_aload_n 0 rfl dX6_step_247 ?_
      refine g_get f_X6_35 hset_s rfl dX6_step_248 ?_
      refine gn_icmp_ge (by omega) (by omega) (tgt := 319) (by decide) dX6_step_251 (fun ha => ?_) (fun ha => ?_)
      · -- t 319
        exfalso; omega
      · -- f 254
        refine g_aload_n 0 rfl dX6_step_254 ?_
        refine g_get f_X6_25 hset_s rfl dX6_step_255 ?_
        refine g_aload_n 0 rfl dX6_step_258 ?_
        refine g_get f_X6_42 hset_s rfl dX6_step_259 ?_
        refine gn_bald ((hset_n hne).trans hi) (by omega) (by decide) dX6_step_262 ?_
        refine gv_S (c_X6_isDigit ) l_X6_64 rfl (Nat.le_of_ble_eq_true rfl) (Nat.le_of_ble_eq_true rfl) rfl dX6_step_263 ?_
        refine g_if_eq (tgt := 319) (by decide) dX6_step_266 (fun hc => ?_) (fun hc => ?_)
        · -- t 319
          exact g_vret ⟨rfl, by rw [hsp, spn_f (fun z => bi_0 hc (dgB_t.mp z))], rfl⟩ rfl dX6_step_319
        · -- f 269
          refine g_aload_n 0 rfl dX6_step_269 ?_
          refine g_dup rfl dX6_step_270 ?_
          refine g_get f_X6_42 hset_s rfl dX6_step_271 ?_
          refine gn_ic 1 (by decide) dX6_step_274 ?_
          refine gn_iadd dX6_step_275 ?_
          refine g_put f_X6_42 w_X6_5 hset_s (Nat.le_of_ble_eq_true rfl) rfl rfl rfl dX6_step_276 ?_
          refine g_world hset_hs ?_
          refine g_goto (tgt := 243) (by decide) dX6_step_279 ?_
          refine G.sub [0] rfl ?_
          exact ih243 (p + 1) (by omega) (by rw [hsp, spn_t (dgB_t.mpr (bi_n0 hc))])
  refine G.sub [0] rfl ?_
  exact L243 (e - fr) fr (by omega) rfl
set_option maxRecDepth 100000 in
set_option maxHeartbeats 4000000 in
theorem r_tk103 {Γ : Gm} {n : Nat} {E : Hp} {tb ti lb e κ en fr mt tc : Nat} {g : Bool} {inp : Nat → Int32} (hne : ti ≠ tb) (hi : E ti = some (.inl (gA Γ 1, 600, .inl inp))) (he : e ≤ 600) (hfr : fr ≤ e) (hmt : mt ≤ 1) (htc : tc ≤ 1) (hg : (mt = 0 ∧ tc = 1) ↔ g = true) : G Γ 2 MX6_step (Rt none (hset E tb (.inr (9, tkF Γ ti lb e (tkT inp e fr g).1 (tkT inp e fr g).2.1 (tkT inp e fr g).2.2))) n) X0 103 [(0, .ref tb), (1, .int (nI mt)), (2, .int (nI tc))] [] (hset E tb (.inr (9, tkF Γ ti lb e κ fr en))) n 0 0 := by
  refine G.sub (lv2 := [(0, _), (1, _), (2, _)]) [0, 1, 2] rfl ?_
  refine g_aload_n 0 rfl dX6_step_103 ?_
  refine g_aload_n 0 rfl dX6_step_104 ?_
  refine g_get f_X6_54 hset_s rfl dX6_step_105 ?_
  refine g_put f_X6_42 w_X6_5 hset_s (Nat.le_of_ble_eq_true rfl) rfl rfl rfl dX6_step_108 ?_
  refine g_world hset_hs ?_
  refine g_aload_n 0 rfl dX6_step_111 ?_
  refine g_get f_X6_54 hset_s rfl dX6_step_112 ?_
  refine g_aload_n 0 rfl dX6_step_115 ?_
  refine g_get f_X6_35 hset_s rfl dX6_step_116 ?_
  refine gn_icmp_lt (by omega) (by omega) (tgt := 132) (by decide) dX6_step_119 (fun h119 => ?_) (fun h119 => ?_)
  · -- t 132
    refine g_aload_n 0 rfl dX6_step_132 ?_
    refine g_get f_X6_25 hset_s rfl dX6_step_133 ?_
    refine g_aload_n 0 rfl dX6_step_136 ?_
    refine g_get f_X6_54 hset_s rfl dX6_step_137 ?_
    refine gn_bald ((hset_n hne).trans hi) (by omega) (by decide) dX6_step_140 ?_
    refine gv_S (c_X6_isLetter ) l_X6_57 rfl (Nat.le_of_ble_eq_true rfl) (Nat.le_of_ble_eq_true rfl) rfl dX6_step_141 ?_
    refine g_if_eq (tgt := 207) (by decide) dX6_step_144 (fun h144 => ?_) (fun h144 => ?_)
    · -- t 207
      have hl : ¬ ltB inp fr = true := fun z => bi_0 h144 (ltB_t.mp z)
      refine g_aload_n 0 rfl dX6_step_207 ?_
      refine g_get f_X6_25 hset_s rfl dX6_step_208 ?_
      refine g_aload_n 0 rfl dX6_step_211 ?_
      refine g_get f_X6_54 hset_s rfl dX6_step_212 ?_
      refine gn_bald ((hset_n hne).trans hi) (by omega) (by decide) dX6_step_215 ?_
      refine gv_S (c_X6_isDigit ) l_X6_64 rfl (Nat.le_of_ble_eq_true rfl) (Nat.le_of_ble_eq_true rfl) rfl dX6_step_216 ?_
      refine g_if_eq (tgt := 282) (by decide) dX6_step_219 (fun h219 => ?_) (fun h219 => ?_)
      · -- t 282
        have hd : ¬ dgB inp fr = true := fun z => bi_0 h219 (dgB_t.mp z)
        refine g_aload_n 0 rfl dX6_step_282 ?_
        refine g_aload_n 0 rfl dX6_step_283 ?_
        refine g_get f_X6_25 hset_s rfl dX6_step_284 ?_
        refine g_aload_n 0 rfl dX6_step_287 ?_
        refine g_get f_X6_54 hset_s rfl dX6_step_288 ?_
        refine gn_bald ((hset_n hne).trans hi) (by omega) (by decide) dX6_step_291 ?_
        refine gn_bp 59 (by decide) dX6_step_292 ?_
        refine g_icmp_ne (tgt := 303) (by decide) dX6_step_294 (fun h294 => ?_) (fun h294 => ?_)
        · -- t 303
          refine g_gets 4 rfl z_X6_61 dX6_step_303 ?_
          refine g_put f_X6_22 w_X6_3 hset_s (Nat.le_of_ble_eq_true rfl) rfl rfl rfl dX6_step_306 ?_
          refine g_world hset_hs ?_
          refine g_aload_n 0 rfl dX6_step_309 ?_
          refine g_dup rfl dX6_step_310 ?_
          refine g_get f_X6_42 hset_s rfl dX6_step_311 ?_
          refine gn_ic 1 (by decide) dX6_step_314 ?_
          refine gn_iadd dX6_step_315 ?_
          refine g_put f_X6_42 w_X6_5 hset_s (Nat.le_of_ble_eq_true rfl) rfl rfl rfl dX6_step_316 ?_
          refine g_world hset_hs ?_
          exact g_vret ⟨rfl, by rw [tkT_o (by omega) hl hd (κ := 4) (by rw [if_neg h294])]; rfl, rfl⟩ rfl dX6_step_319
        · -- f 297
          refine g_gets 3 rfl z_X6_39 dX6_step_297 ?_
          refine g_goto (tgt := 306) (by decide) dX6_step_300 ?_
          refine g_put f_X6_22 w_X6_3 hset_s (Nat.le_of_ble_eq_true rfl) rfl rfl rfl dX6_step_306 ?_
          refine g_world hset_hs ?_
          refine g_aload_n 0 rfl dX6_step_309 ?_
          refine g_dup rfl dX6_step_310 ?_
          refine g_get f_X6_42 hset_s rfl dX6_step_311 ?_
          refine gn_ic 1 (by decide) dX6_step_314 ?_
          refine gn_iadd dX6_step_315 ?_
          refine g_put f_X6_42 w_X6_5 hset_s (Nat.le_of_ble_eq_true rfl) rfl rfl rfl dX6_step_316 ?_
          refine g_world hset_hs ?_
          exact g_vret ⟨rfl, by rw [tkT_o (by omega) hl hd (κ := 3) (by rw [if_pos h294])]; rfl, rfl⟩ rfl dX6_step_319
      · -- f 222
        have hd := dgB_t.mpr (bi_n0 h219)
        refine g_aload_n 0 rfl dX6_step_222 ?_
        refine g_iload_n 2 rfl dX6_step_223 ?_
        refine gn_if_eq (by omega) (tgt := 237) (by decide) dX6_step_224 (fun h224 => ?_) (fun h224 => ?_)
        · -- t 237
          refine g_gets 2 rfl z_X6_51 dX6_step_237 ?_
          refine g_put f_X6_22 w_X6_3 hset_s (Nat.le_of_ble_eq_true rfl) rfl rfl rfl dX6_step_240 ?_
          refine g_world hset_hs ?_
          rw [tkT_d (by omega) hl hd (κ := 2) (by rw [if_neg (fun z => absurd (hg.mpr z) (by omega))])]
          exact G.sub [0] rfl (r_tkD hne hi he hfr)
        · -- f 227
          refine g_iload_n 1 rfl dX6_step_227 ?_
          refine gn_if_ne (by omega) (tgt := 237) (by decide) dX6_step_228 (fun h228 => ?_) (fun h228 => ?_)
          · -- t 237
            refine g_gets 2 rfl z_X6_51 dX6_step_237 ?_
            refine g_put f_X6_22 w_X6_3 hset_s (Nat.le_of_ble_eq_true rfl) rfl rfl rfl dX6_step_240 ?_
            refine g_world hset_hs ?_
            rw [tkT_d (by omega) hl hd (κ := 2) (by rw [if_neg (fun z => absurd (hg.mpr z) (by omega))])]
            exact G.sub [0] rfl (r_tkD hne hi he hfr)
          · -- f 231
            refine g_gets 4 rfl z_X6_61 dX6_step_231 ?_
            refine g_goto (tgt := 240) (by decide) dX6_step_234 ?_
            refine g_put f_X6_22 w_X6_3 hset_s (Nat.le_of_ble_eq_true rfl) rfl rfl rfl dX6_step_240 ?_
            refine g_world hset_hs ?_
            rw [tkT_d (by omega) hl hd (κ := 4) (by rw [if_pos (hg.mp (by omega))])]
            exact G.sub [0] rfl (r_tkD hne hi he hfr)
    · -- f 147
      have hl := ltB_t.mpr (bi_n0 h144)
      refine g_aload_n 0 rfl dX6_step_147 ?_
      refine g_iload_n 2 rfl dX6_step_148 ?_
      refine gn_if_eq (by omega) (tgt := 162) (by decide) dX6_step_149 (fun h149 => ?_) (fun h149 => ?_)
      · -- t 162
        refine g_gets 1 rfl z_X6_48 dX6_step_162 ?_
        refine g_put f_X6_22 w_X6_3 hset_s (Nat.le_of_ble_eq_true rfl) rfl rfl rfl dX6_step_165 ?_
        refine g_world hset_hs ?_
        rw [tkT_l (by omega) hl (κ := 1) (by rw [if_neg (fun z => absurd (hg.mpr z) (by omega))])]
        exact G.sub [0] rfl (r_tkL hne hi he hfr)
      · -- f 152
        refine g_iload_n 1 rfl dX6_step_152 ?_
        refine gn_if_ne (by omega) (tgt := 162) (by decide) dX6_step_153 (fun h153 => ?_) (fun h153 => ?_)
        · -- t 162
          refine g_gets 1 rfl z_X6_48 dX6_step_162 ?_
          refine g_put f_X6_22 w_X6_3 hset_s (Nat.le_of_ble_eq_true rfl) rfl rfl rfl dX6_step_165 ?_
          refine g_world hset_hs ?_
          rw [tkT_l (by omega) hl (κ := 1) (by rw [if_neg (fun z => absurd (hg.mpr z) (by omega))])]
          exact G.sub [0] rfl (r_tkL hne hi he hfr)
        · -- f 156
          refine g_gets 4 rfl z_X6_61 dX6_step_156 ?_
          refine g_goto (tgt := 165) (by decide) dX6_step_159 ?_
          refine g_put f_X6_22 w_X6_3 hset_s (Nat.le_of_ble_eq_true rfl) rfl rfl rfl dX6_step_165 ?_
          refine g_world hset_hs ?_
          rw [tkT_l (by omega) hl (κ := 4) (by rw [if_pos (hg.mp (by omega))])]
          exact G.sub [0] rfl (r_tkL hne hi he hfr)
  · -- f 122
    refine g_aload_n 0 rfl dX6_step_122 ?_
    refine g_gets 0 rfl z_X6_16 dX6_step_123 ?_
    refine g_put f_X6_22 w_X6_3 hset_s (Nat.le_of_ble_eq_true rfl) rfl rfl rfl dX6_step_126 ?_
    refine g_world hset_hs ?_
    refine g_goto (tgt := 319) (by decide) dX6_step_129 ?_
    exact g_vret ⟨rfl, by rw [tkT_e (by omega)]; rfl, rfl⟩ rfl dX6_step_319
set_option maxRecDepth 100000 in
set_option maxHeartbeats 4000000 in
theorem r_tk86 {Γ : Gm} {n : Nat} {E : Hp} {tb ti lb e κ en fr mt : Nat} {inp : Nat → Int32} (hne : ti ≠ tb) (hi : E ti = some (.inl (gA Γ 1, 600, .inl inp))) (he : e ≤ 600) (hen : en ≤ e) (hmt : mt = if ndB κ = true then 0 else 1) (hsk : skP inp e en = fr) : G Γ 2 MX6_step (Rt none (hset E tb (.inr (9, tkF Γ ti lb e (nxT inp e κ en).1 (nxT inp e κ en).2.1 (nxT inp e κ en).2.2))) n) X0 86 [(0, .ref tb), (1, .int (nI mt))] [] (hset E tb (.inr (9, tkF Γ ti lb e κ fr en))) n 0 0 := by
  have hfr : fr ≤ e := by rw [← hsk]; exact skP_le hen
  have hmt1 : mt ≤ 1 := by rw [hmt]; split <;> decide
  have hm0 : mt = 0 ↔ ndB κ = true := by rw [hmt]; split <;> simp [*]
  refine G.sub (lv2 := [(0, _), (1, _)]) [0, 1] rfl ?_
  refine g_aload_n 0 rfl dX6_step_86 ?_
  refine g_get f_X6_54 hset_s rfl dX6_step_87 ?_
  refine g_aload_n 0 rfl dX6_step_90 ?_
  refine g_get f_X6_42 hset_s rfl dX6_step_91 ?_
  refine gn_icmp_ne (by omega) (by omega) (tgt := 101) (by decide) dX6_step_94 (fun h94 => ?_) (fun h94 => ?_)
  · -- t 101
    refine gn_ic 0 (by decide) dX6_step_101 ?_
    refine g_istore_n (lv2 := [(2, _), (0, _), (1, _)]) (by decide) rfl dX6_step_102 ?_
    rw [nxT_eq hsk]
    exact G.sub [1, 2, 0] rfl (r_tk103 (tc := 0) hne hi he hfr hmt1 (by decide) (by rw [Bool.and_eq_true, decide_eq_true_eq, ← hm0]; omega))
  · -- f 97
    refine gn_ic 1 (by decide) dX6_step_97 ?_
    refine g_goto (tgt := 102) (by decide) dX6_step_98 ?_
    refine g_istore_n (lv2 := [(2, _), (0, _), (1, _)]) (by decide) rfl dX6_step_102 ?_
    rw [nxT_eq hsk]
    exact G.sub [1, 2, 0] rfl (r_tk103 (tc := 1) hne hi he hfr hmt1 (by decide) (by rw [Bool.and_eq_true, decide_eq_true_eq, ← hm0]; omega))
set_option maxRecDepth 100000 in
set_option maxHeartbeats 4000000 in
theorem r_tk26 {Γ : Gm} {n : Nat} {E : Hp} {tb ti lb e κ sg en mt : Nat} {inp : Nat → Int32} (hne : ti ≠ tb) (hi : E ti = some (.inl (gA Γ 1, 600, .inl inp))) (he : e ≤ 600) (hen : en ≤ e) (hmt : mt = if ndB κ = true then 0 else 1) : G Γ 2 MX6_step (Rt none (hset E tb (.inr (9, tkF Γ ti lb e (nxT inp e κ en).1 (nxT inp e κ en).2.1 (nxT inp e κ en).2.2))) n) X0 26 [(0, .ref tb), (1, .int (nI mt))] [] (hset E tb (.inr (9, tkF Γ ti lb e κ sg en))) n 0 0 := by
  refine G.sub (lv2 := [(0, _), (1, _)]) [0, 1] rfl ?_
  refine g_aload_n 0 rfl dX6_step_26 ?_
  refine g_aload_n 0 rfl dX6_step_27 ?_
  refine g_get f_X6_42 hset_s rfl dX6_step_28 ?_
  refine g_put f_X6_54 w_X6_4 hset_s (Nat.le_of_ble_eq_true rfl) rfl rfl rfl dX6_step_31 ?_
  refine g_world hset_hs ?_
  have L34 : ∀ (m34 : Nat) (p : Nat), (p + m34 = e) → (skP inp e en = spn (spB inp) m34 p) → G Γ 2 MX6_step (Rt none (hset E tb (.inr (9, tkF Γ ti lb e (nxT inp e κ en).1 (nxT inp e κ en).2.1 (nxT inp e κ en).2.2))) n) X0 34 [(0, .ref tb), (1, .int (nI mt))] [] (hset E tb (.inr (9, tkF Γ ti lb e κ p en))) n 0 0 := by
    intro m34
    induction m34 with
    | zero =>
      intro p hp hsk
      refine g_aload_n 0 rfl dX6_step_34 ?_
      refine g_get f_X6_54 hset_s rfl dX6_step_35 ?_
      refine g_aload_n 0 rfl dX6_step_38 ?_
      refine g_get f_X6_35 hset_s rfl dX6_step_39 ?_
      refine gn_icmp_ge (by omega) (by omega) (tgt := 86) (by decide) dX6_step_42 (fun h42 => ?_) (fun h42 => ?_)
      · -- t 86
        exact G.sub [0, 1] rfl (r_tk86 hne hi he hen hmt hsk)
      · -- f 45
        exfalso; omega
    | succ m34 ih34 =>
      intro p hp hsk
      refine g_aload_n 0 rfl dX6_step_34 ?_
      refine g_get f_X6_54 hset_s rfl dX6_step_35 ?_
      refine g_aload_n 0 rfl dX6_step_38 ?_
      refine g_get f_X6_35 hset_s rfl dX6_step_39 ?_
      refine gn_icmp_ge (by omega) (by omega) (tgt := 86) (by decide) dX6_step_42 (fun h42 => ?_) (fun h42 => ?_)
      · -- t 86
        exfalso; omega
      · -- f 45
        refine g_aload_n 0 rfl dX6_step_45 ?_
        refine g_get f_X6_25 hset_s rfl dX6_step_46 ?_
        refine g_aload_n 0 rfl dX6_step_49 ?_
        refine g_get f_X6_54 hset_s rfl dX6_step_50 ?_
        refine gn_bald ((hset_n hne).trans hi) (by omega) (by decide) dX6_step_53 ?_
        refine gn_bp 32 (by decide) dX6_step_54 ?_
        refine g_icmp_eq (tgt := 73) (by decide) dX6_step_56 (fun h56 => ?_) (fun h56 => ?_)
        · -- t 73
          refine g_aload_n 0 rfl dX6_step_73 ?_
          refine g_dup rfl dX6_step_74 ?_
          refine g_get f_X6_54 hset_s rfl dX6_step_75 ?_
          refine gn_ic 1 (by decide) dX6_step_78 ?_
          refine gn_iadd dX6_step_79 ?_
          refine g_put f_X6_54 w_X6_4 hset_s (Nat.le_of_ble_eq_true rfl) rfl rfl rfl dX6_step_80 ?_
          refine g_world hset_hs ?_
          refine g_goto (tgt := 34) (by decide) dX6_step_83 ?_
          refine G.sub [0, 1] rfl ?_
          exact ih34 (p + 1) (by omega) (by rw [hsk, spn_t (spB_t.mpr (Or.inl h56))])
        · -- f 59
          refine g_aload_n 0 rfl dX6_step_59 ?_
          refine g_get f_X6_25 hset_s rfl dX6_step_60 ?_
          refine g_aload_n 0 rfl dX6_step_63 ?_
          refine g_get f_X6_54 hset_s rfl dX6_step_64 ?_
          refine gn_bald ((hset_n hne).trans hi) (by omega) (by decide) dX6_step_67 ?_
          refine gn_bp 10 (by decide) dX6_step_68 ?_
          refine g_icmp_ne (tgt := 86) (by decide) dX6_step_70 (fun h70 => ?_) (fun h70 => ?_)
          · -- t 86
            exact G.sub [0, 1] rfl (r_tk86 hne hi he hen hmt (by rw [hsk, spn_f (fun z => (spB_t.mp z).elim h56 h70)]))
          · -- f 73
            refine g_aload_n 0 rfl dX6_step_73 ?_
            refine g_dup rfl dX6_step_74 ?_
            refine g_get f_X6_54 hset_s rfl dX6_step_75 ?_
            refine gn_ic 1 (by decide) dX6_step_78 ?_
            refine gn_iadd dX6_step_79 ?_
            refine g_put f_X6_54 w_X6_4 hset_s (Nat.le_of_ble_eq_true rfl) rfl rfl rfl dX6_step_80 ?_
            refine g_world hset_hs ?_
            refine g_goto (tgt := 34) (by decide) dX6_step_83 ?_
            refine G.sub [0, 1] rfl ?_
            exact ih34 (p + 1) (by omega) (by rw [hsk, spn_t (spB_t.mpr (Or.inr h70))])
  refine G.sub [0, 1] rfl ?_
  exact L34 (e - en) en (by omega) rfl
set_option maxRecDepth 100000 in
set_option maxHeartbeats 4000000 in
theorem c_X6_step {Γ : Gm} {n : Nat} {E : Hp} {tb ti lb e κ sg en : Nat} {inp : Nat → Int32} (ht : E tb = some (.inr (9, tkF Γ ti lb e κ sg en))) (hi : E ti = some (.inl (gA Γ 1, 600, .inl inp))) (hκ : κ < 5) (he : e ≤ 600) (hen : en ≤ e) : Ct Γ 2 MX6_step 0 0 [.ref tb] (E) n (Rt none (hset E tb (.inr (9, tkF Γ ti lb e (nxT inp e κ en).1 (nxT inp e κ en).2.1 (nxT inp e κ en).2.2))) n) X0 := by
  refine Ct.of (by decide +kernel) rfl (Nat.le_of_ble_eq_true rfl) ?_
  refine G.tok (fun hinj => ?_)
  have hne : ti ≠ tb := fun z => by rw [z, ht] at hi; cases hi
  refine g_world (hset_id ht).symm ?_
  refine G.sub (lv2 := [(0, _)]) [0] rfl ?_
  refine g_aload_n 0 rfl dX6_step_0 ?_
  refine g_get f_X6_22 hset_s rfl dX6_step_1 ?_
  refine g_gets 1 rfl z_X6_48 dX6_step_4 ?_
  refine g_acmp_eq (rx := some (gF Γ κ)) (ry := some (gF Γ 1)) (tgt := 24) (by decide) dX6_step_7 (fun h7 => ?_) (fun h7 => ?_)
  · -- t 24
    refine gn_ic 0 (by decide) dX6_step_24 ?_
    refine g_istore_n (lv2 := [(1, _), (0, _)]) (by decide) rfl dX6_step_25 ?_
    exact G.sub [1, 0] rfl (r_tk26 hne hi he hen (by rw [if_pos (show ndB κ = true from decide_eq_true (Or.inl (hinj κ 1 hκ (by decide) (Option.some.inj h7))))]))
  · -- f 10
    refine g_aload_n 0 rfl dX6_step_10 ?_
    refine g_get f_X6_22 hset_s rfl dX6_step_11 ?_
    refine g_gets 2 rfl z_X6_51 dX6_step_14 ?_
    refine g_acmp_eq (rx := some (gF Γ κ)) (ry := some (gF Γ 2)) (tgt := 24) (by decide) dX6_step_17 (fun h17 => ?_) (fun h17 => ?_)
    · -- t 24
      refine gn_ic 0 (by decide) dX6_step_24 ?_
      refine g_istore_n (lv2 := [(1, _), (0, _)]) (by decide) rfl dX6_step_25 ?_
      exact G.sub [1, 0] rfl (r_tk26 hne hi he hen (by rw [if_pos (show ndB κ = true from decide_eq_true (Or.inr (hinj κ 2 hκ (by decide) (Option.some.inj h17))))]))
    · -- f 20
      refine gn_ic 1 (by decide) dX6_step_20 ?_
      refine g_goto (tgt := 25) (by decide) dX6_step_21 ?_
      refine g_istore_n (lv2 := [(1, _), (0, _)]) (by decide) rfl dX6_step_25 ?_
      exact G.sub [1, 0] rfl (r_tk26 hne hi he hen (by rw [if_neg (fun z => (of_decide_eq_true z).elim (fun q => h7 (by rw [q])) (fun q => h17 (by rw [q])))]))
end GJ13
