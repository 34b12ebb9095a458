section GQ4
theorem ush9e {x y : Int32} (h : y = (x.toUInt32 >>> ((nI 9).toUInt32 &&& Int32.toUInt32 31)).toInt32) : ∃ m, m < 8388608 ∧ y = nI m := by
  have e := pk_ushr x (nI 9) 9 (by decide +kernel)
  rw [← h] at e
  refine ⟨y.toBitVec.toNat, ?_, ?_⟩
  · have h2 : x.toBitVec.toNat < 2 ^ 32 := x.toBitVec.isLt
    rw [e]; omega
  · apply Int32.toBitVec_inj.mp
    apply BitVec.eq_of_toNat_eq
    show _ = (BitVec.ofNat 32 _).toNat
    rw [BitVec.toNat_ofNat]
    exact (Nat.mod_eq_of_lt y.toBitVec.isLt).symm
set_option maxRecDepth 100000 in
set_option maxHeartbeats 4000000 in
theorem c_L_next {Γ : Gm} {n ra : Nat} {E : Hp} {x : Nat → Int32} (hx : E ra = some (.inl (gA Γ 0, 1, .inl x))) : Ct Γ 1 ML_next 0 0 [.ref ra] (E) n (fun r E2 n2 => n2 = n ∧ ∃ m y, m < 8388608 ∧ r = some (.int (nI m)) ∧ E2 = hset E ra (.inl (gA Γ 0, 1, .inl y))) X0 := by
  refine Ct.of (by decide +kernel) rfl (Nat.le_of_ble_eq_true rfl) ?_
  refine G.sub (lv2 := [(0, _)]) [0] rfl ?_
  refine g_aload_n 0 rfl dL_next_0 ?_
  refine gn_ic 0 (by decide) dL_next_1 ?_
  refine g_aload_n 0 rfl dL_next_2 ?_
  refine gn_ic 0 (by decide) dL_next_3 ?_
  refine gn_iald hx (by decide) (by decide) dL_next_4 ?_
  refine gn_ldc (a := 1103515245) (wl_4 233 rfl rfl) dL_next_5 ?_
  refine g_imul dL_next_7 ?_
  refine gn_sp 12345 (by decide) dL_next_8 ?_
  refine g_iadd dL_next_11 ?_
  refine gn_iast hx (by decide) (by decide) rfl dL_next_12 ?_
  refine g_aload_n 0 rfl dL_next_13 ?_
  refine gn_ic 0 (by decide) dL_next_14 ?_
  refine g_dup2 rfl rfl dL_next_15 ?_
  refine gn_iald hset_s (by decide) (by decide) dL_next_16 ?_
  refine g_aload_n 0 rfl dL_next_17 ?_
  refine gn_ic 0 (by decide) dL_next_18 ?_
  refine gn_iald hset_s (by decide) (by decide) dL_next_19 ?_
  refine gn_bp 15 (by decide) dL_next_20 ?_
  refine g_iushr rfl dL_next_22 ?_
  refine g_ixor dL_next_23 ?_
  refine gn_iast hset_s (by decide) (by decide) rfl dL_next_24 ?_
  refine g_world hset_hs ?_
  refine g_aload_n 0 rfl dL_next_25 ?_
  refine gn_ic 0 (by decide) dL_next_26 ?_
  refine gn_iald hset_s (by decide) (by decide) dL_next_27 ?_
  refine gn_bp 9 (by decide) dL_next_28 ?_
  refine g_iushr rfl dL_next_30 ?_
  refine g_topi (fun y9 hy => ?_)
  obtain ⟨m9, hm9, e9⟩ := ush9e hy
  subst e9
  exact g_iret ⟨rfl, m9, _, hm9, rfl, rfl⟩ rfl rfl dL_next_31
/-- the law draws a number -/
theorem g_next {Γ : Gm} {d pc ix n kc ks : Nat} {M : Mr} {P : Po} {X : Px} {lv : List (Nat × Value)} {rest : List Value} {E : Hp} {ab ra B D s0 c kp : Nat} {g0 f : Nat → Int32} {top : Option (Nat → Int32)} (hI : IW Γ ab ra B D s0 g0 f c kp top E n) (lk : LkS M.1 ix ML_next 1) (hd : 1 + 1 ≤ d) (hrest : (rest.map fun v => v.category).sum ≤ 8) (dg : decode M.2.2.1 pc = .ok (.invokestatic ix, 3))
    (kk : ∀ (m : Nat) (E2 : Hp), m < 8388608 → IW Γ ab ra B D s0 g0 f c kp top E2 n → G Γ d M P X (pc + 3) lv (.int (nI m) :: rest) E2 n kc ks) : G Γ d M P X pc lv (.ref ra :: rest) E n kc ks := by
  obtain ⟨-, -, x, hx⟩ := hI.rra
  refine g_invS (kc := kc) (ks := ks) (c_L_next hx) lk rfl hd hrest rfl dg (fun _ _ _ h => h.elim) (fun v E1 n1 h => ?_)
  obtain ⟨rfl, m, y, hm, rfl, rfl⟩ := h
  exact kk m _ hm (hI.fr (fun a _ ha => hset_n ha) ⟨y, hset_s⟩ (Nat.le_refl _))
/-- what the law reckons out of a house -/
def sm3 (s a b d : Int64) : Int64 := 31 * (31 * (31 * s + a) + b) + d
def smL (f : Nat → Int32) : Nat → Int64
  | 0 => sm3 (sm3 (f 8).toInt64 (f 0).toInt64 (f 1).toInt64 (f 9).toInt64) (f 10).toInt64 (f 11).toInt64 (f 12).toInt64
  | v + 1 => 31 * smL f v + (f (2 + v)).toInt64
def smH (f : Nat → Int32) (k : Nat) (s : Int64) : Int64 := sm3 (sm3 s (f (13 + 16 * k)).toInt64 (f (13 + 16 * k + 1)).toInt64 (f (13 + 16 * k + 2)).toInt64) (f (13 + 16 * k + 3)).toInt64 (f 8 - f (13 + 16 * k + 4)).toInt64 (nI (lenN f k)).toInt64
def smA (s : Int64) (f : Nat → Int32) (k : Nat) : Nat → Int64
  | 0 => s
  | v + 1 => 31 * smA s f k v + (f (13 + 16 * k + 5 + v)).toInt64
def smN (s : Int64) (f : Nat → Int32) (k : Nat) : Nat → Int64
  | 0 => s
  | j + 1 => 31 * smN s f k j + (chr (f (13 + 16 * k + 10 + j))).toInt64
def smK (f : Nat → Int32) : Nat → Int64
  | 0 => smL f 5
  | k + 1 => smN (smA (smH f k (smK f k)) f k 5) f k (lenN f k)
set_option maxRecDepth 100000 in
set_option maxHeartbeats 4000000 in
theorem c_L_sum {Γ : Gm} {n : Nat} {E : Hp} {ab ra B D s0 c kp : Nat} {g0 f : Nat → Int32} {top : Option (Nat → Int32)} (hI : IW Γ ab ra B D s0 g0 f c kp top E n)  : Ct Γ 9 ML_sum 0 0 [.ref ab] (E) n (Rt (some (.long (smK f c))) (E) n) X0 := by
  refine Ct.of (by decide +kernel) rfl (Nat.le_of_ble_eq_true rfl) ?_
  have hc12 := hI.gd.2.1
  refine G.sub (lv2 := [(0, _)]) [0] rfl ?_
  refine g_ldc2 (v := 31) (wl_5 186 rfl rfl) dL_sum_0 ?_
  refine g_ldc2 (v := 31) (wl_5 186 rfl rfl) dL_sum_3 ?_
  refine g_ldc2 (v := 31) (wl_5 186 rfl rfl) dL_sum_6 ?_
  refine g_aload_n 0 rfl dL_sum_9 ?_
  refine gv_Vz (k_day hI ) l_L_109 rfl hI.rc (Nat.le_of_ble_eq_true rfl) (Nat.le_of_ble_eq_true rfl) rfl dL_sum_10 ?_
  refine g_i2l dL_sum_13 ?_
  refine g_lmul dL_sum_14 ?_
  refine g_aload_n 0 rfl dL_sum_15 ?_
  refine gv_Vz (k_baseRent hI ) l_L_112 rfl hI.rc (Nat.le_of_ble_eq_true rfl) (Nat.le_of_ble_eq_true rfl) rfl dL_sum_16 ?_
  refine g_i2l dL_sum_19 ?_
  refine g_ladd dL_sum_20 ?_
  refine g_lmul dL_sum_21 ?_
  refine g_aload_n 0 rfl dL_sum_22 ?_
  refine gv_Vz (k_tolerance hI ) l_L_115 rfl hI.rc (Nat.le_of_ble_eq_true rfl) (Nat.le_of_ble_eq_true rfl) rfl dL_sum_23 ?_
  refine g_i2l dL_sum_26 ?_
  refine g_ladd dL_sum_27 ?_
  refine g_lmul dL_sum_28 ?_
  refine g_aload_n 0 rfl dL_sum_29 ?_
  refine gv_Vz (k_evictions hI ) l_L_118 rfl hI.rc (Nat.le_of_ble_eq_true rfl) (Nat.le_of_ble_eq_true rfl) rfl dL_sum_30 ?_
  refine g_i2l dL_sum_33 ?_
  refine g_ladd dL_sum_34 ?_
  refine g_lstore_n (lv2 := [(1, _), (0, _)]) (by decide) rfl dL_sum_35 ?_
  refine g_ldc2 (v := 31) (wl_5 186 rfl rfl) dL_sum_36 ?_
  refine g_ldc2 (v := 31) (wl_5 186 rfl rfl) dL_sum_39 ?_
  refine g_ldc2 (v := 31) (wl_5 186 rfl rfl) dL_sum_42 ?_
  refine g_lload_n 0 rfl dL_sum_45 ?_
  refine g_lmul dL_sum_46 ?_
  refine g_aload_n 1 rfl dL_sum_47 ?_
  refine gv_Vz (k_totalPaid hI ) l_L_121 rfl hI.rc (Nat.le_of_ble_eq_true rfl) (Nat.le_of_ble_eq_true rfl) rfl dL_sum_48 ?_
  refine g_i2l dL_sum_51 ?_
  refine g_ladd dL_sum_52 ?_
  refine g_lmul dL_sum_53 ?_
  refine g_aload_n 1 rfl dL_sum_54 ?_
  refine gv_Vz (k_totalCharged hI ) l_L_124 rfl hI.rc (Nat.le_of_ble_eq_true rfl) (Nat.le_of_ble_eq_true rfl) rfl dL_sum_55 ?_
  refine g_i2l dL_sum_58 ?_
  refine g_ladd dL_sum_59 ?_
  refine g_lmul dL_sum_60 ?_
  refine g_aload_n 1 rfl dL_sum_61 ?_
  refine gv_Vz (k_settled hI ) l_L_127 rfl hI.rc (Nat.le_of_ble_eq_true rfl) (Nat.le_of_ble_eq_true rfl) rfl dL_sum_62 ?_
  refine g_i2l dL_sum_65 ?_
  refine g_ladd dL_sum_66 ?_
  refine g_lstore_n (lv2 := [(1, _), (0, _)]) (by decide) rfl dL_sum_67 ?_
  refine gn_ic 0 (by decide) dL_sum_68 ?_
  refine g_istore_n (lv2 := [(3, _), (1, _), (0, _)]) (by decide) rfl dL_sum_69 ?_
  have L70 : ∀ (m70 i70 : Nat), i70 + m70 = 5 → G Γ 9 ML_sum (Rt (some (.long (smK f c))) (E) n) X0 70 [(0, .ref ab), (1, .long (smL f i70)), (3, .int (nI i70))] [] (E) n 0 0 := by
    intro m70
    induction m70 with
    | zero =>
      intro i70 hi70
      refine g_iload_n 2 rfl dL_sum_70 ?_
      refine gn_ic 5 (by decide) dL_sum_71 ?_
      refine gn_icmp_ge (by omega) (by omega) (tgt := 94) (by decide) dL_sum_72 (fun cc1 => ?_) (fun cc1 => ?_)
      · -- t 94
        obtain rfl : i70 = 5 := by omega
        refine gn_ic 0 (by decide) dL_sum_94 ?_
        refine g_istore_n (lv2 := [(3, _), (0, _), (1, _)]) (by decide) rfl dL_sum_95 ?_
        have L96 : ∀ (m96 i96 : Nat), i96 + m96 = c → G Γ 9 ML_sum (Rt (some (.long (smK f c))) (E) n) X0 96 [(0, .ref ab), (1, .long (smK f i96)), (3, .int (nI i96))] [] (E) n 0 0 := by
          intro m96
          induction m96 with
          | zero =>
            intro i96 hi96
            have hln := lenN_le (f := f) (k := i96)
            refine g_iload_n 2 rfl dL_sum_96 ?_
            refine g_aload_n 0 rfl dL_sum_97 ?_
            refine gv_Vz (k_lodgerCount hI ) l_L_133 rfl hI.rc (Nat.le_of_ble_eq_true rfl) (Nat.le_of_ble_eq_true rfl) rfl dL_sum_98 ?_
            refine gn_icmp_ge (by omega) (by omega) (tgt := 244) (by decide) dL_sum_101 (fun cc2 => ?_) (fun cc2 => ?_)
            · -- t 244
              obtain rfl : i96 = c := by omega
              refine g_lload_n 1 rfl dL_sum_244 ?_
              exact g_lret ⟨rfl, rfl, rfl⟩ rfl dL_sum_245
            · -- f 104
              exfalso; omega
          | succ m96 ih96 =>
            intro i96 hi96
            have hln := lenN_le (f := f) (k := i96)
            refine g_iload_n 2 rfl dL_sum_96 ?_
            refine g_aload_n 0 rfl dL_sum_97 ?_
            refine gv_Vz (k_lodgerCount hI ) l_L_133 rfl hI.rc (Nat.le_of_ble_eq_true rfl) (Nat.le_of_ble_eq_true rfl) rfl dL_sum_98 ?_
            refine gn_icmp_ge (by omega) (by omega) (tgt := 244) (by decide) dL_sum_101 (fun cc3 => ?_) (fun cc3 => ?_)
            · -- t 244
              exfalso; omega
            · -- f 104
              refine g_ldc2 (v := 31) (wl_5 186 rfl rfl) dL_sum_104 ?_
              refine g_ldc2 (v := 31) (wl_5 186 rfl rfl) dL_sum_107 ?_
              refine g_ldc2 (v := 31) (wl_5 186 rfl rfl) dL_sum_110 ?_
              refine g_lload_n 1 rfl dL_sum_113 ?_
              refine g_lmul dL_sum_114 ?_
              refine g_aload_n 0 rfl dL_sum_115 ?_
              refine g_iload_n 2 rfl dL_sum_116 ?_
              refine gv_Vz (k_floorOf hI (by omega)) l_L_136 rfl hI.rc (Nat.le_of_ble_eq_true rfl) (Nat.le_of_ble_eq_true rfl) rfl dL_sum_117 ?_
              refine g_i2l dL_sum_120 ?_
              refine g_ladd dL_sum_121 ?_
              refine g_lmul dL_sum_122 ?_
              refine g_aload_n 0 rfl dL_sum_123 ?_
              refine g_iload_n 2 rfl dL_sum_124 ?_
              refine gv_Vz (k_balanceOf hI (by omega)) l_L_139 rfl hI.rc (Nat.le_of_ble_eq_true rfl) (Nat.le_of_ble_eq_true rfl) rfl dL_sum_125 ?_
              refine g_i2l dL_sum_128 ?_
              refine g_ladd dL_sum_129 ?_
              refine g_lmul dL_sum_130 ?_
              refine g_aload_n 0 rfl dL_sum_131 ?_
              refine g_iload_n 2 rfl dL_sum_132 ?_
              refine gv_Vz (k_lessonsOf hI (by omega)) l_L_142 rfl hI.rc (Nat.le_of_ble_eq_true rfl) (Nat.le_of_ble_eq_true rfl) rfl dL_sum_133 ?_
              refine g_i2l dL_sum_136 ?_
              refine g_ladd dL_sum_137 ?_
              refine g_lstore_n (lv2 := [(1, _), (0, _), (3, _)]) (by decide) rfl dL_sum_138 ?_
              refine g_ldc2 (v := 31) (wl_5 186 rfl rfl) dL_sum_139 ?_
              refine g_ldc2 (v := 31) (wl_5 186 rfl rfl) dL_sum_142 ?_
              refine g_ldc2 (v := 31) (wl_5 186 rfl rfl) dL_sum_145 ?_
              refine g_lload_n 0 rfl dL_sum_148 ?_
              refine g_lmul dL_sum_149 ?_
              refine g_aload_n 1 rfl dL_sum_150 ?_
              refine g_iload_n 2 rfl dL_sum_151 ?_
              refine gv_Vz (k_slipsOf hI (by omega)) l_L_145 rfl hI.rc (Nat.le_of_ble_eq_true rfl) (Nat.le_of_ble_eq_true rfl) rfl dL_sum_152 ?_
              refine g_i2l dL_sum_155 ?_
              refine g_ladd dL_sum_156 ?_
              refine g_lmul dL_sum_157 ?_
              refine g_aload_n 1 rfl dL_sum_158 ?_
              refine g_iload_n 2 rfl dL_sum_159 ?_
              refine gv_Vz (k_daysStayed hI (by omega)) l_L_148 rfl hI.rc (Nat.le_of_ble_eq_true rfl) (Nat.le_of_ble_eq_true rfl) rfl dL_sum_160 ?_
              refine g_i2l dL_sum_163 ?_
              refine g_ladd dL_sum_164 ?_
              refine g_lmul dL_sum_165 ?_
              refine g_aload_n 1 rfl dL_sum_166 ?_
              refine g_iload_n 2 rfl dL_sum_167 ?_
              refine gv_Vz (k_nameLength hI (by omega)) l_L_151 rfl hI.rc (Nat.le_of_ble_eq_true rfl) (Nat.le_of_ble_eq_true rfl) rfl dL_sum_168 ?_
              refine g_i2l dL_sum_171 ?_
              refine g_ladd dL_sum_172 ?_
              refine g_lstore_n (lv2 := [(1, _), (0, _), (3, _)]) (by decide) rfl dL_sum_173 ?_
              refine gn_ic 0 (by decide) dL_sum_174 ?_
              refine g_istore (lv2 := [(4, _), (1, _), (0, _), (3, _)]) (by decide) rfl dL_sum_175 ?_
              have L177 : ∀ (m177 i177 : Nat), i177 + m177 = 5 → G Γ 9 ML_sum (Rt (some (.long (smK f c))) (E) n) X0 177 [(0, .ref ab), (1, .long (smA (smH f i96 (smK f i96)) f i96 i177)), (3, .int (nI i96)), (4, .int (nI i177))] [] (E) n 0 0 := by
                intro m177
                induction m177 with
                | zero =>
                  intro i177 hi177
                  refine g_iload 3 rfl dL_sum_177 ?_
                  refine gn_ic 5 (by decide) dL_sum_179 ?_
                  refine gn_icmp_ge (by omega) (by omega) (tgt := 204) (by decide) dL_sum_180 (fun cc4 => ?_) (fun cc4 => ?_)
                  · -- t 204
                    obtain rfl : i177 = 5 := by omega
                    refine gn_ic 0 (by decide) dL_sum_204 ?_
                    refine g_istore (lv2 := [(4, _), (0, _), (1, _), (3, _)]) (by decide) rfl dL_sum_205 ?_
                    have L207 : ∀ (m207 i207 : Nat), i207 + m207 = (lenN f i96) → G Γ 9 ML_sum (Rt (some (.long (smK f c))) (E) n) X0 207 [(0, .ref ab), (1, .long (smN (smA (smH f i96 (smK f i96)) f i96 5) f i96 i207)), (3, .int (nI i96)), (4, .int (nI i207))] [] (E) n 0 0 := by
                      intro m207
                      induction m207 with
                      | zero =>
                        intro i207 hi207
                        refine g_iload 3 rfl dL_sum_207 ?_
                        refine g_aload_n 0 rfl dL_sum_209 ?_
                        refine g_iload_n 2 rfl dL_sum_210 ?_
                        refine gv_Vz (k_nameLength hI (by omega)) l_L_151 rfl hI.rc (Nat.le_of_ble_eq_true rfl) (Nat.le_of_ble_eq_true rfl) rfl dL_sum_211 ?_
                        refine gn_icmp_ge (by omega) (by omega) (tgt := 238) (by decide) dL_sum_214 (fun cc5 => ?_) (fun cc5 => ?_)
                        · -- t 238
                          obtain rfl : i207 = lenN f i96 := by omega
                          refine gn_inc (lv2 := [(3, _), (0, _), (1, _), (4, _)]) 2 rfl (by decide) rfl dL_sum_238 ?_
                          refine g_goto (tgt := 96) (by decide) dL_sum_241 ?_
                          refine G.sub [1, 2, 0] rfl ?_
                          exact ih96 (i96 + 1) (by omega)
                        · -- f 217
                          exfalso; omega
                      | succ m207 ih207 =>
                        intro i207 hi207
                        refine g_iload 3 rfl dL_sum_207 ?_
                        refine g_aload_n 0 rfl dL_sum_209 ?_
                        refine g_iload_n 2 rfl dL_sum_210 ?_
                        refine gv_Vz (k_nameLength hI (by omega)) l_L_151 rfl hI.rc (Nat.le_of_ble_eq_true rfl) (Nat.le_of_ble_eq_true rfl) rfl dL_sum_211 ?_
                        refine gn_icmp_ge (by omega) (by omega) (tgt := 238) (by decide) dL_sum_214 (fun cc6 => ?_) (fun cc6 => ?_)
                        · -- t 238
                          exfalso; omega
                        · -- f 217
                          refine g_ldc2 (v := 31) (wl_5 186 rfl rfl) dL_sum_217 ?_
                          refine g_lload_n 1 rfl dL_sum_220 ?_
                          refine g_lmul dL_sum_221 ?_
                          refine g_aload_n 0 rfl dL_sum_222 ?_
                          refine g_iload_n 2 rfl dL_sum_223 ?_
                          refine g_iload 3 rfl dL_sum_224 ?_
                          refine gv_Vz (k_nameLetter hI (by omega) (by omega)) l_L_157 rfl hI.rc (Nat.le_of_ble_eq_true rfl) (Nat.le_of_ble_eq_true rfl) rfl dL_sum_226 ?_
                          refine g_i2l dL_sum_229 ?_
                          refine g_ladd dL_sum_230 ?_
                          refine g_lstore_n (lv2 := [(1, _), (0, _), (3, _), (4, _)]) (by decide) rfl dL_sum_231 ?_
                          refine gn_inc (lv2 := [(4, _), (1, _), (0, _), (3, _)]) 3 rfl (by decide) rfl dL_sum_232 ?_
                          refine g_goto (tgt := 207) (by decide) dL_sum_235 ?_
                          refine G.sub [2, 1, 3, 0] rfl ?_
                          exact ih207 (i207 + 1) (by omega)
                    refine G.sub [1, 2, 3, 0] rfl ?_
                    exact L207 _ 0 (Nat.zero_add _)
                  · -- f 183
                    exfalso; omega
                | succ m177 ih177 =>
                  intro i177 hi177
                  refine g_iload 3 rfl dL_sum_177 ?_
                  refine gn_ic 5 (by decide) dL_sum_179 ?_
                  refine gn_icmp_ge (by omega) (by omega) (tgt := 204) (by decide) dL_sum_180 (fun cc7 => ?_) (fun cc7 => ?_)
                  · -- t 204
                    exfalso; omega
                  · -- f 183
                    refine g_ldc2 (v := 31) (wl_5 186 rfl rfl) dL_sum_183 ?_
                    refine g_lload_n 1 rfl dL_sum_186 ?_
                    refine g_lmul dL_sum_187 ?_
                    refine g_aload_n 0 rfl dL_sum_188 ?_
                    refine g_iload_n 2 rfl dL_sum_189 ?_
                    refine g_iload 3 rfl dL_sum_190 ?_
                    refine gv_Vz (k_vowelOf hI (by omega) (by omega)) l_L_154 rfl hI.rc (Nat.le_of_ble_eq_true rfl) (Nat.le_of_ble_eq_true rfl) rfl dL_sum_192 ?_
                    refine g_i2l dL_sum_195 ?_
                    refine g_ladd dL_sum_196 ?_
                    refine g_lstore_n (lv2 := [(1, _), (0, _), (3, _), (4, _)]) (by decide) rfl dL_sum_197 ?_
                    refine gn_inc (lv2 := [(4, _), (1, _), (0, _), (3, _)]) 3 rfl (by decide) rfl dL_sum_198 ?_
                    refine g_goto (tgt := 177) (by decide) dL_sum_201 ?_
                    refine G.sub [2, 1, 3, 0] rfl ?_
                    exact ih177 (i177 + 1) (by omega)
              refine G.sub [2, 1, 3, 0] rfl ?_
              exact L177 _ 0 (Nat.zero_add _)
        refine G.sub [1, 2, 0] rfl ?_
        exact L96 _ 0 (Nat.zero_add _)
      · -- f 75
        exfalso; omega
    | succ m70 ih70 =>
      intro i70 hi70
      refine g_iload_n 2 rfl dL_sum_70 ?_
      refine gn_ic 5 (by decide) dL_sum_71 ?_
      refine gn_icmp_ge (by omega) (by omega) (tgt := 94) (by decide) dL_sum_72 (fun cc8 => ?_) (fun cc8 => ?_)
      · -- t 94
        exfalso; omega
      · -- f 75
        refine g_ldc2 (v := 31) (wl_5 186 rfl rfl) dL_sum_75 ?_
        refine g_lload_n 1 rfl dL_sum_78 ?_
        refine g_lmul dL_sum_79 ?_
        refine g_aload_n 0 rfl dL_sum_80 ?_
        refine g_iload_n 2 rfl dL_sum_81 ?_
        refine gv_Vz (k_landladyVowel hI (by omega)) l_L_130 rfl hI.rc (Nat.le_of_ble_eq_true rfl) (Nat.le_of_ble_eq_true rfl) rfl dL_sum_82 ?_
        refine g_i2l dL_sum_85 ?_
        refine g_ladd dL_sum_86 ?_
        refine g_lstore_n (lv2 := [(1, _), (0, _), (3, _)]) (by decide) rfl dL_sum_87 ?_
        refine gn_inc (lv2 := [(3, _), (1, _), (0, _)]) 2 rfl (by decide) rfl dL_sum_88 ?_
        refine g_goto (tgt := 70) (by decide) dL_sum_91 ?_
        refine G.sub [2, 1, 0] rfl ?_
        exact ih70 (i70 + 1) (by omega)
  refine G.sub [2, 1, 0] rfl ?_
  exact L70 _ 0 (Nat.zero_add _)
theorem g_sum {Γ : Gm} {d pc ix n kc ks : Nat} {M : Mr} {P : Po} {X : Px} {lv : List (Nat × Value)} {rest : List Value} {E : Hp} {ab ra B D s0 c kp : Nat} {g0 f : Nat → Int32} {top : Option (Nat → Int32)} (hI : IW Γ ab ra B D s0 g0 f c kp top E n) (lk : LkS M.1 ix ML_sum 1) (hd : 9 + 1 ≤ d) (hrest : (rest.map fun v => v.category).sum ≤ 8) (dg : decode M.2.2.1 pc = .ok (.invokestatic ix, 3))
    (kk : G Γ d M P X (pc + 3) lv (.long (smK f c) :: rest) E n kc ks) : G Γ d M P X pc lv (.ref ab :: rest) E n kc ks := gv_S (kc := kc) (ks := ks) (c_L_sum hI) lk rfl hd hrest rfl dg kk
end GQ4
