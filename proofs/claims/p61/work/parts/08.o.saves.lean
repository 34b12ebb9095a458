section GQ7
set_option maxRecDepth 100000 in
set_option maxHeartbeats 4000000 in
theorem c_L_saves {Γ : Gm} {n : Nat} {E : Hp} {ab ra B D s0 c kp : Nat} {g0 f : Nat → Int32} {top : Option (Nat → Int32)} {k : Nat} (hI : IW Γ ab ra B D s0 g0 f c kp top E n) (hk : k < c) (hD : D ≤ 9999) (hB : B + 3000 < 2 ^ 31) : Ct Γ 14 ML_saves 0 0 [.ref ab, .int (nI k)] (E) n (fun r E2 n2 => r = some (.int (nI 1)) ∧ n2 = n ∧ ∃ kp2 top2, IW Γ ab ra (B + 999 + 999) D s0 g0 f c kp2 top2 E2 n2) X0 := by
  refine Ct.of (by decide +kernel) rfl (Nat.le_of_ble_eq_true rfl) ?_
  have hgd := hI.gd
  have hc12 := hgd.2.1
  have hv := hI.val
  have hok := hv.okr
  obtain ⟨dy, hdy, h8⟩ := hgd.2.2.2
  have hps := pay_spec' hv hk h8 (by omega) (by omega)
  have hg0 := ev0 (c := c) (k := k) hok hk h8 (by omega)
  refine G.sub (lv2 := [(0, _), (1, _)]) [0, 1] rfl ?_
  refine g_aload_n 0 rfl dL_saves_0 ?_
  refine g_iload_n 1 rfl dL_saves_1 ?_
  refine gw_Viz (k_paymentToStay hI hk h8 (by omega)) l_L_231 rfl hI.rc (Nat.le_of_ble_eq_true rfl) (Nat.le_of_ble_eq_true rfl) rfl dL_saves_2 (fun _ _ _ z => ⟨_, z.1⟩) (fun x2 E2 n2 z2 => ?_)
  obtain ⟨e2, e22, hI2⟩ := z2
  have e92 := (Value.int.inj (Option.some.inj e2)).symm
  subst e92
  have e32 := e22.symm
  subst e32
  refine g_istore_n (lv2 := [(2, _), (0, _), (1, _)]) (by decide) rfl dL_saves_5 ?_
  refine g_aload_n 1 rfl dL_saves_6 ?_
  refine g_iload_n 2 rfl dL_saves_7 ?_
  refine gv_Vz (k_balanceOf hI2 hk) l_L_139 rfl hI2.rc (Nat.le_of_ble_eq_true rfl) (Nat.le_of_ble_eq_true rfl) rfl dL_saves_8 ?_
  refine g_istore_n (lv2 := [(3, _), (2, _), (0, _), (1, _)]) (by decide) rfl dL_saves_11 ?_
  refine g_aload_n 2 rfl dL_saves_12 ?_
  refine gv_Vz (k_daysToInspection hI2 h8 (by omega)) l_L_164 rfl hI2.rc (Nat.le_of_ble_eq_true rfl) (Nat.le_of_ble_eq_true rfl) rfl dL_saves_13 ?_
  refine g_istore (lv2 := [(4, _), (3, _), (2, _), (0, _), (1, _)]) (by decide) rfl dL_saves_16 ?_
  refine g_aload_n 3 rfl dL_saves_18 ?_
  refine g_iload_n 4 rfl dL_saves_19 ?_
  refine gw_Viz (k_daysToEviction hI2 hk) l_L_234 rfl hI2.rc (Nat.le_of_ble_eq_true rfl) (Nat.le_of_ble_eq_true rfl) rfl dL_saves_20 (fun _ _ _ z => ⟨_, z.1⟩) (fun x20 E20 n20 z20 => ?_)
  obtain ⟨e20, e220, hI20⟩ := z20
  have e920 := (Value.int.inj (Option.some.inj e20)).symm
  subst e920
  have e320 := e220.symm
  subst e320
  refine g_istore (lv2 := [(5, _), (4, _), (3, _), (2, _), (0, _), (1, _)]) (by decide) rfl dL_saves_23 ?_
  rcases hps with ⟨q1, q2⟩ | ⟨L, l1, l2, q1, q2, q3, q4⟩ | ⟨q1, q2, q3⟩
  · skip
    rw [q1]
    refine g_iload_n 3 rfl dL_saves_25 ?_
    refine gn_if_ne (by omega) (tgt := 33) (by decide) dL_saves_26 (fun h26 => ?_) (fun h26 => ?_)
    · -- t 33
      exact absurd h26 (by decide)
    · -- f 29
      refine gn_ic 1 (by decide) dL_saves_29 ?_
      refine g_goto (tgt := 34) (by decide) dL_saves_30 ?_
      refine g_iload 0 rfl dL_saves_34 ?_
      refine g_iload 1 rfl dL_saves_36 ?_
      refine g_icmp_eq (tgt := 45) (by decide) dL_saves_38 (fun h38 => ?_) (fun h38 => ?_)
      · -- t 45
        exact absurd (hg0.mpr h38) q2
      · -- f 41
        refine gn_ic 1 (by decide) dL_saves_41 ?_
        refine g_goto (tgt := 46) (by decide) dL_saves_42 ?_
        refine gn_icmp_ne (by omega) (by omega) (tgt := 53) (by decide) dL_saves_46 (fun cc1 => ?_) (fun cc1 => ?_)
        · -- t 53
          exact absurd cc1 (by decide)
        · -- f 49
          refine gn_ic 1 (by decide) dL_saves_49 ?_
          refine g_goto (tgt := 54) (by decide) dL_saves_50 ?_
          refine g_istore (lv2 := [(6, _), (5, _), (4, _), (3, _), (2, _), (0, _), (1, _)]) (by decide) rfl dL_saves_54 ?_
          refine g_iload 0 rfl dL_saves_56 ?_
          refine gn_if_eq (by omega) (tgt := 154) (by decide) dL_saves_58 (fun cc2 => ?_) (fun cc2 => ?_)
          · -- t 154
            exact absurd cc2 (by decide)
          · -- f 61
            refine g_iload_n 4 rfl dL_saves_61 ?_
            refine g_if_le (tgt := 154) (by decide) dL_saves_62 (fun h62 => ?_) (fun h62 => ?_)
            · -- t 154
              refine g_iload 0 rfl dL_saves_154 ?_
              refine gn_if_eq (by omega) (tgt := 203) (by decide) dL_saves_156 (fun cc3 => ?_) (fun cc3 => ?_)
              · -- t 203
                exact absurd cc3 (by decide)
              · -- f 159
                refine g_iload_n 4 rfl dL_saves_159 ?_
                refine g_if_ge (tgt := 203) (by decide) dL_saves_160 (fun cc4 => ?_) (fun cc4 => ?_)
                · -- t 203
                  refine g_iload 0 rfl dL_saves_203 ?_
                  exact g_iret ⟨rfl, rfl, _, _, hI20.le (by omega) (Nat.le_refl _)⟩ rfl rfl dL_saves_205
                · -- f 163
                  exact absurd cc4 (by decide)
            · -- f 65
              exact absurd h62 (by decide)
  · skip
    rw [q1]
    refine g_iload_n 3 rfl dL_saves_25 ?_
    refine gn_if_ne (by omega) (tgt := 33) (by decide) dL_saves_26 (fun h26 => ?_) (fun h26 => ?_)
    · -- t 33
      refine gn_ic 0 (by decide) dL_saves_33 ?_
      refine g_iload 0 rfl dL_saves_34 ?_
      refine g_iload 1 rfl dL_saves_36 ?_
      refine g_icmp_eq (tgt := 45) (by decide) dL_saves_38 (fun h38 => ?_) (fun h38 => ?_)
      · -- t 45
        refine gn_ic 0 (by decide) dL_saves_45 ?_
        refine gn_icmp_ne (by omega) (by omega) (tgt := 53) (by decide) dL_saves_46 (fun cc5 => ?_) (fun cc5 => ?_)
        · -- t 53
          exact absurd cc5 (by decide)
        · -- f 49
          refine gn_ic 1 (by decide) dL_saves_49 ?_
          refine g_goto (tgt := 54) (by decide) dL_saves_50 ?_
          refine g_istore (lv2 := [(6, _), (5, _), (4, _), (3, _), (2, _), (0, _), (1, _)]) (by decide) rfl dL_saves_54 ?_
          refine g_iload 0 rfl dL_saves_56 ?_
          refine gn_if_eq (by omega) (tgt := 154) (by decide) dL_saves_58 (fun cc6 => ?_) (fun cc6 => ?_)
          · -- t 154
            exact absurd cc6 (by decide)
          · -- f 61
            refine g_iload_n 4 rfl dL_saves_61 ?_
            refine g_if_le (tgt := 154) (by decide) dL_saves_62 (fun h62 => ?_) (fun h62 => ?_)
            · -- t 154
              exact absurd h62 (nI_nle (by omega) (by omega))
            · -- f 65
              refine g_aload_n 5 rfl dL_saves_65 ?_
              refine g_iload_n 6 rfl dL_saves_66 ?_
              refine g_iload_n 4 rfl dL_saves_67 ?_
              refine g_SHz (v_paid hI20 hk l1 l2 (by omega)) l_L_237 rfl (Nat.le_of_ble_eq_true rfl) (Nat.le_of_ble_eq_true rfl) rfl dL_saves_68 (fun _ _ _ z => ⟨_, z.1⟩) (fun x68 E68 n68 z68 => ?_)
              obtain ⟨e68, e268, hI68⟩ := z68
              have e968 := (Value.int.inj (Option.some.inj e68)).symm
              subst e968
              have e668 := e268.symm
              subst e668
              refine g_iload_n 3 rfl dL_saves_71 ?_
              refine g_iload_n 4 rfl dL_saves_72 ?_
              refine g_iadd dL_saves_73 ?_
              refine g_icmp_ne (tgt := 98) (by decide) dL_saves_74 (fun h74 => ?_) (fun h74 => ?_)
              · -- t 98
                exact absurd payF_b h74
              · -- f 77
                refine g_aload_n 5 rfl dL_saves_77 ?_
                refine g_iload_n 6 rfl dL_saves_78 ?_
                refine gw_Viz (k_daysToEviction hI68 hk) l_L_234 rfl hI68.rc (Nat.le_of_ble_eq_true rfl) (Nat.le_of_ble_eq_true rfl) rfl dL_saves_79 (fun _ _ _ z => ⟨_, z.1⟩) (fun x79 E79 n79 z79 => ?_)
                obtain ⟨e79, e279, hI79⟩ := z79
                have e979 := (Value.int.inj (Option.some.inj e79)).symm
                subst e979
                have e379 := e279.symm
                subst e379
                refine g_iload 2 rfl dL_saves_82 ?_
                refine g_icmp_eq (tgt := 98) (by decide) dL_saves_84 (fun h84 => ?_) (fun h84 => ?_)
                · -- t 98
                  exact absurd ((evp hok hk h8 (by omega)).mp h84) q3
                · -- f 87
                  refine g_aload_n 5 rfl dL_saves_87 ?_
                  refine g_SHz (v_undone hI79 rem_pos) l_L_240 rfl (Nat.le_of_ble_eq_true rfl) (Nat.le_of_ble_eq_true rfl) rfl dL_saves_88 (fun _ _ _ z => ⟨_, z.1⟩) (fun x88 E88 n88 z88 => ?_)
                  have hkq88 := hI79.kp10
                  obtain ⟨e88, e288, hu88, -⟩ := z88
                  have e988 := (Value.int.inj (Option.some.inj e88)).symm
                  subst e988
                  have e388 := e288.symm
                  subst e388
                  have hI88 := hu88 f c rfl hgd
                  refine g_if_lt (tgt := 98) (by decide) dL_saves_91 (fun h91 => ?_) (fun h91 => ?_)
                  · -- t 98
                    exact absurd h91 (nI_pos (by omega))
                  · -- f 94
                    refine gn_ic 1 (by decide) dL_saves_94 ?_
                    refine g_goto (tgt := 99) (by decide) dL_saves_95 ?_
                    refine g_istore (lv2 := [(6, _), (5, _), (4, _), (3, _), (2, _), (0, _), (1, _)]) (by decide) rfl dL_saves_99 ?_
                    refine g_iload 0 rfl dL_saves_101 ?_
                    refine gn_if_eq (by omega) (tgt := 203) (by decide) dL_saves_103 (fun cc7 => ?_) (fun cc7 => ?_)
                    · -- t 203
                      exact absurd cc7 (by decide)
                    · -- f 106
                      refine g_iload_n 4 rfl dL_saves_106 ?_
                      refine gn_ic 1 (by decide) dL_saves_107 ?_
                      refine gn_icmp_le (by omega) (by omega) (tgt := 203) (by decide) dL_saves_108 (fun cc8 => ?_) (fun cc8 => ?_)
                      · -- t 203
                        refine g_iload 0 rfl dL_saves_203 ?_
                        exact g_iret ⟨rfl, rfl, _, _, hI88.le (by omega) (Nat.le_refl _)⟩ rfl rfl dL_saves_205
                      · -- f 111
                        refine g_aload_n 5 rfl dL_saves_111 ?_
                        refine g_iload_n 6 rfl dL_saves_112 ?_
                        refine g_iload_n 4 rfl dL_saves_113 ?_
                        refine gn_ic 1 (by decide) dL_saves_114 ?_
                        refine gn_isub (by omega) dL_saves_115 ?_
                        refine g_SHz (v_paid hI88 hk (by omega) (by omega) (by omega)) l_L_237 rfl (Nat.le_of_ble_eq_true rfl) (Nat.le_of_ble_eq_true rfl) rfl dL_saves_116 (fun _ _ _ z => ⟨_, z.1⟩) (fun x116 E116 n116 z116 => ?_)
                        obtain ⟨e116, e2116, hI116⟩ := z116
                        have e9116 := (Value.int.inj (Option.some.inj e116)).symm
                        subst e9116
                        have e6116 := e2116.symm
                        subst e6116
                        refine g_iload_n 3 rfl dL_saves_119 ?_
                        refine g_iload_n 4 rfl dL_saves_120 ?_
                        refine g_iadd dL_saves_121 ?_
                        refine gn_ic 1 (by decide) dL_saves_122 ?_
                        refine g_isub dL_saves_123 ?_
                        refine g_icmp_ne (tgt := 148) (by decide) dL_saves_124 (fun h124 => ?_) (fun h124 => ?_)
                        · -- t 148
                          exact absurd (payF_b.trans (sub1 l1).symm) h124
                        · -- f 127
                          refine g_aload_n 5 rfl dL_saves_127 ?_
                          refine g_iload_n 6 rfl dL_saves_128 ?_
                          refine gw_Viz (k_daysToEviction hI116 hk) l_L_234 rfl hI116.rc (Nat.le_of_ble_eq_true rfl) (Nat.le_of_ble_eq_true rfl) rfl dL_saves_129 (fun _ _ _ z => ⟨_, z.1⟩) (fun x129 E129 n129 z129 => ?_)
                          obtain ⟨e129, e2129, hI129⟩ := z129
                          have e9129 := (Value.int.inj (Option.some.inj e129)).symm
                          subst e9129
                          have e3129 := e2129.symm
                          subst e3129
                          refine g_iload 2 rfl dL_saves_132 ?_
                          refine g_icmp_ne (tgt := 148) (by decide) dL_saves_134 (fun h134 => ?_) (fun h134 => ?_)
                          · -- t 148
                            exact absurd ((evp hok hk h8 (by omega)).mpr q4) h134
                          · -- f 137
                            refine g_aload_n 5 rfl dL_saves_137 ?_
                            refine g_SHz (v_undone hI129 rem_pos) l_L_240 rfl (Nat.le_of_ble_eq_true rfl) (Nat.le_of_ble_eq_true rfl) rfl dL_saves_138 (fun _ _ _ z => ⟨_, z.1⟩) (fun x138 E138 n138 z138 => ?_)
                            have hkq138 := hI129.kp10
                            obtain ⟨e138, e2138, hu138, -⟩ := z138
                            have e9138 := (Value.int.inj (Option.some.inj e138)).symm
                            subst e9138
                            have e3138 := e2138.symm
                            subst e3138
                            have hI138 := hu138 f c rfl hgd
                            refine g_if_lt (tgt := 148) (by decide) dL_saves_141 (fun h141 => ?_) (fun h141 => ?_)
                            · -- t 148
                              exact absurd h141 (nI_pos (by omega))
                            · -- f 144
                              refine gn_ic 1 (by decide) dL_saves_144 ?_
                              refine g_goto (tgt := 149) (by decide) dL_saves_145 ?_
                              refine g_istore (lv2 := [(6, _), (5, _), (4, _), (3, _), (2, _), (0, _), (1, _)]) (by decide) rfl dL_saves_149 ?_
                              refine g_goto (tgt := 203) (by decide) dL_saves_151 ?_
                              refine g_iload 0 rfl dL_saves_203 ?_
                              exact g_iret ⟨rfl, rfl, _, _, hI138.le (by omega) (Nat.le_refl _)⟩ rfl rfl dL_saves_205
      · -- f 41
        exact absurd (hg0.mp q2) h38
    · -- f 29
      exfalso; omega
  · skip
    rw [q1]
    refine g_iload_n 3 rfl dL_saves_25 ?_
    refine g_if_ne (tgt := 33) (by decide) dL_saves_26 (fun h26 => ?_) (fun h26 => ?_)
    · -- t 33
      refine gn_ic 0 (by decide) dL_saves_33 ?_
      refine g_iload 0 rfl dL_saves_34 ?_
      refine g_iload 1 rfl dL_saves_36 ?_
      refine g_icmp_eq (tgt := 45) (by decide) dL_saves_38 (fun h38 => ?_) (fun h38 => ?_)
      · -- t 45
        refine gn_ic 0 (by decide) dL_saves_45 ?_
        refine gn_icmp_ne (by omega) (by omega) (tgt := 53) (by decide) dL_saves_46 (fun cc9 => ?_) (fun cc9 => ?_)
        · -- t 53
          exact absurd cc9 (by decide)
        · -- f 49
          refine gn_ic 1 (by decide) dL_saves_49 ?_
          refine g_goto (tgt := 54) (by decide) dL_saves_50 ?_
          refine g_istore (lv2 := [(6, _), (5, _), (4, _), (3, _), (2, _), (0, _), (1, _)]) (by decide) rfl dL_saves_54 ?_
          refine g_iload 0 rfl dL_saves_56 ?_
          refine gn_if_eq (by omega) (tgt := 154) (by decide) dL_saves_58 (fun cc10 => ?_) (fun cc10 => ?_)
          · -- t 154
            exact absurd cc10 (by decide)
          · -- f 61
            refine g_iload_n 4 rfl dL_saves_61 ?_
            refine g_if_le (tgt := 154) (by decide) dL_saves_62 (fun h62 => ?_) (fun h62 => ?_)
            · -- t 154
              refine g_iload 0 rfl dL_saves_154 ?_
              refine gn_if_eq (by omega) (tgt := 203) (by decide) dL_saves_156 (fun cc11 => ?_) (fun cc11 => ?_)
              · -- t 203
                exact absurd cc11 (by decide)
              · -- f 159
                refine g_iload_n 4 rfl dL_saves_159 ?_
                refine g_if_ge (tgt := 203) (by decide) dL_saves_160 (fun cc12 => ?_) (fun cc12 => ?_)
                · -- t 203
                  exact absurd cc12 (by decide)
                · -- f 163
                  refine g_aload_n 5 rfl dL_saves_163 ?_
                  refine g_iload_n 6 rfl dL_saves_164 ?_
                  refine gn_sp 999 (by decide) dL_saves_165 ?_
                  refine g_SHz (v_paid hI20 hk (by decide) (by decide) (by omega)) l_L_237 rfl (Nat.le_of_ble_eq_true rfl) (Nat.le_of_ble_eq_true rfl) rfl dL_saves_168 (fun _ _ _ z => ⟨_, z.1⟩) (fun x168 E168 n168 z168 => ?_)
                  obtain ⟨e168, e2168, hI168⟩ := z168
                  have e9168 := (Value.int.inj (Option.some.inj e168)).symm
                  subst e9168
                  have e6168 := e2168.symm
                  subst e6168
                  refine g_iload_n 3 rfl dL_saves_171 ?_
                  refine gn_sp 999 (by decide) dL_saves_172 ?_
                  refine g_iadd dL_saves_175 ?_
                  refine g_icmp_ne (tgt := 200) (by decide) dL_saves_176 (fun h176 => ?_) (fun h176 => ?_)
                  · -- t 200
                    exact absurd payF_b h176
                  · -- f 179
                    refine g_aload_n 5 rfl dL_saves_179 ?_
                    refine g_iload_n 6 rfl dL_saves_180 ?_
                    refine gw_Viz (k_daysToEviction hI168 hk) l_L_234 rfl hI168.rc (Nat.le_of_ble_eq_true rfl) (Nat.le_of_ble_eq_true rfl) rfl dL_saves_181 (fun _ _ _ z => ⟨_, z.1⟩) (fun x181 E181 n181 z181 => ?_)
                    obtain ⟨e181, e2181, hI181⟩ := z181
                    have e9181 := (Value.int.inj (Option.some.inj e181)).symm
                    subst e9181
                    have e3181 := e2181.symm
                    subst e3181
                    refine g_iload 2 rfl dL_saves_184 ?_
                    refine g_icmp_ne (tgt := 200) (by decide) dL_saves_186 (fun h186 => ?_) (fun h186 => ?_)
                    · -- t 200
                      exact absurd ((evp hok hk h8 (by omega)).mpr q3) h186
                    · -- f 189
                      refine g_aload_n 5 rfl dL_saves_189 ?_
                      refine g_SHz (v_undone hI181 rem_pos) l_L_240 rfl (Nat.le_of_ble_eq_true rfl) (Nat.le_of_ble_eq_true rfl) rfl dL_saves_190 (fun _ _ _ z => ⟨_, z.1⟩) (fun x190 E190 n190 z190 => ?_)
                      have hkq190 := hI181.kp10
                      obtain ⟨e190, e2190, hu190, -⟩ := z190
                      have e9190 := (Value.int.inj (Option.some.inj e190)).symm
                      subst e9190
                      have e3190 := e2190.symm
                      subst e3190
                      have hI190 := hu190 f c rfl hgd
                      refine g_if_lt (tgt := 200) (by decide) dL_saves_193 (fun h193 => ?_) (fun h193 => ?_)
                      · -- t 200
                        exact absurd h193 (nI_pos (by omega))
                      · -- f 196
                        refine gn_ic 1 (by decide) dL_saves_196 ?_
                        refine g_goto (tgt := 201) (by decide) dL_saves_197 ?_
                        refine g_istore (lv2 := [(6, _), (5, _), (4, _), (3, _), (2, _), (0, _), (1, _)]) (by decide) rfl dL_saves_201 ?_
                        refine g_iload 0 rfl dL_saves_203 ?_
                        exact g_iret ⟨rfl, rfl, _, _, hI190.le (by omega) (Nat.le_refl _)⟩ rfl rfl dL_saves_205
            · -- f 65
              exact absurd h62 (by decide)
      · -- f 41
        exact absurd (hg0.mp q2) h38
    · -- f 29
      exact absurd h26 (by decide)
end GQ7
