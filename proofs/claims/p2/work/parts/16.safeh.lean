set_option maxRecDepth 20000 in
set_option maxHeartbeats 4000000 in
theorem sX5_tickRecord (Sc : q_S) (Γ : Nat → q_K) (n o ml th s : Nat) (hB : mB Γ o) (hml : ml ≤ 4) (a1 : Nat) (b1 : a1 < 32) : q_mod Sc Γ o ml mX5_tickRecord [.ref o, .int (nI a1)] n th s (fun O th' s' => q_RV O ∧ th' = th ∧ s' = s) := by
  intro h hok
  show q_A Sc mX5_tickRecord 0 [.ref o, .int (nI a1), .retAddr 0, .retAddr 0, .retAddr 0, .retAddr 0] [] h n 0 0 (fun O h' n' => ∃ th' s', (fun O th' s' => q_RV O ∧ th' = th ∧ s' = s) O th' s' ∧ q_ok (mG Γ o ml th' s') h' ∧ n' = n)
  refine q_aload_n dX5_tickRecord_0 rfl ?_
  refine t_getr 9 kX5 (by decide) wPX5_31 dX5_tickRecord_1 hok mG_o rfl ?_
  refine q_iload_n dX5_tickRecord_4 rfl ?_
  refine t_iald dX5_tickRecord_5 hok (mG_a7 (ml := ml) (th := th) (s := s) hB) (by exact vp_in_nI (by omega) (by omega)) (fun x1130 => ?_)
  refine q_iconst (v := nI 1) dX5_tickRecord_6 rfl ?_
  refine q_icmp_ne (tgt := 14) dX5_tickRecord_7 (by decide) (fun c1131 => ?_) (fun c1131 => ?_)
  ·
    refine q_iconst (v := nI 0) dX5_tickRecord_14 rfl ?_
    refine t_istore [.ref o, .int (nI a1), .int (nI 0), .retAddr 0, .retAddr 0, .retAddr 0] (Or.inl ⟨2, rfl, rfl, dX5_tickRecord_15⟩) (by decide) rfl ?_
    refine q_aload_n dX5_tickRecord_16 rfl ?_
    refine t_getr 9 kX5 (by decide) wPX5_31 dX5_tickRecord_17 hok mG_o rfl ?_
    refine q_iload_n dX5_tickRecord_20 rfl ?_
    refine q_aload_n dX5_tickRecord_21 rfl ?_
    refine t_getr 9 kX5 (by decide) wPX5_31 dX5_tickRecord_22 hok mG_o rfl ?_
    refine q_iload_n dX5_tickRecord_25 rfl ?_
    refine t_iald dX5_tickRecord_26 hok (mG_a7 (ml := ml) (th := th) (s := s) hB) (by exact vp_in_nI (by omega) (by omega)) (fun x1132 => ?_)
    refine q_if_le (tgt := 41) dX5_tickRecord_27 (by decide) (fun c1133 => ?_) (fun c1133 => ?_)
    ·
      refine q_iconst (v := nI 0) dX5_tickRecord_41 rfl ?_
      refine t_iast dX5_tickRecord_42 hok (mG_a7 (ml := ml) (th := th) (s := s) hB) (by exact vp_in_nI (by omega) (by omega)) (fun h hok => ?_)
      refine q_iconst (v := nI 0) dX5_tickRecord_43 rfl ?_
      refine t_istore [.ref o, .int (nI a1), .int (nI 0), .int (nI 0), .retAddr 0, .retAddr 0] (Or.inl ⟨3, rfl, rfl, dX5_tickRecord_44⟩) (by decide) rfl ?_
      refine q_iconst (v := nI 0) dX5_tickRecord_45 rfl ?_
      refine t_istore [.ref o, .int (nI a1), .int (nI 0), .int (nI 0), .int (nI 0), .retAddr 0] (Or.inr ⟨rfl, dX5_tickRecord_46⟩) (by decide) rfl ?_
      have hl1134 : ∀ (d1136 k1135 : Nat) (x1137 : Int32) (h : q_H), k1135 + d1136 = 16 → q_ok (mG Γ o ml (th) (s)) h → q_A Sc mX5_tickRecord 48 [.ref o, .int (nI a1), .int (nI 0), .int (x1137), .int (nI k1135), .retAddr 0] [] h n 0 0 (fun O h' n' => ∃ th' s', (fun O th' s' => q_RV O ∧ th' = th ∧ s' = s) O th' s' ∧ q_ok (mG Γ o ml th' s') h' ∧ n' = n) := by
        intro d1136
        induction d1136 with
        | zero =>
          intro k1135 x1137 h el1134 hok
          refine q_iload dX5_tickRecord_48 rfl ?_
          refine q_bipush (v := nI 16) dX5_tickRecord_50 rfl ?_
          refine t_icmp_ge_n (tgt := 117) (by omega) (by omega) dX5_tickRecord_52 (by decide) (fun c1138 => ?_) (fun c1138 => ?_)
          rotate_left
          · exact absurd c1138 (by omega)
          refine q_aload_n dX5_tickRecord_117 rfl ?_
          refine t_getr 8 kX5 (by decide) wPX5_28 dX5_tickRecord_118 hok mG_o rfl ?_
          refine q_iload_n dX5_tickRecord_121 rfl ?_
          refine t_iald dX5_tickRecord_122 hok (mG_a6 (ml := ml) (th := th) (s := s) hB) (by exact vp_in_nI (by omega) (by omega)) (fun x1139 => ?_)
          refine q_iconst (v := -1) dX5_tickRecord_123 rfl ?_
          refine q_icmp_ne (tgt := 128) dX5_tickRecord_124 (by decide) (fun c1140 => ?_) (fun c1140 => ?_)
          ·
            refine q_aload_n dX5_tickRecord_128 rfl ?_
            refine q_iload_n dX5_tickRecord_129 rfl ?_
            refine q_iconst (v := nI 1) dX5_tickRecord_130 rfl ?_
            refine t_callM (M' := mX5_setOf) [.int (nI a1), .int (nI 1)] [] dX5_tickRecord_131 wPX5_90v wIX5_setOf wSX5_setOf iX5_setOf oX5_setOf rfl hok (sX5_setOf Sc Γ n o ml (th) (s) hB hml (a1) (by omega) (nI 1)) (Nat.le_of_ble_eq_true rfl) (Nat.le_of_ble_eq_true rfl) (Nat.le_of_ble_eq_true rfl) rfl (fun _ _ _ q => by obtain ⟨q, _⟩ := q; obtain ⟨_, q⟩ := q; cases q) (fun v1141 h thv1141 sv1141 qv1141 hok => ?_)
            obtain ⟨qv1141, etv1141, esv1141⟩ := qv1141
            rw [etv1141, esv1141] at hok
            obtain ⟨x1142, qx1142⟩ := qv1141
            obtain rfl := Sum.inl.inj qx1142
            refine t_istore [.ref o, .int (nI a1), .int (nI 0), .int (x1137), .int (x1142), .retAddr 0] (Or.inr ⟨rfl, dX5_tickRecord_134⟩) (by decide) rfl ?_
            refine q_aload_n dX5_tickRecord_136 rfl ?_
            refine q_iload_n dX5_tickRecord_137 rfl ?_
            refine q_iconst (v := nI 2) dX5_tickRecord_138 rfl ?_
            refine t_callM (M' := mX5_setOf) [.int (nI a1), .int (nI 2)] [] dX5_tickRecord_139 wPX5_90v wIX5_setOf wSX5_setOf iX5_setOf oX5_setOf rfl hok (sX5_setOf Sc Γ n o ml (th) (s) hB hml (a1) (by omega) (nI 2)) (Nat.le_of_ble_eq_true rfl) (Nat.le_of_ble_eq_true rfl) (Nat.le_of_ble_eq_true rfl) rfl (fun _ _ _ q => by obtain ⟨q, _⟩ := q; obtain ⟨_, q⟩ := q; cases q) (fun v1143 h thv1143 sv1143 qv1143 hok => ?_)
            obtain ⟨qv1143, etv1143, esv1143⟩ := qv1143
            rw [etv1143, esv1143] at hok
            obtain ⟨x1144, qx1144⟩ := qv1143
            obtain rfl := Sum.inl.inj qx1144
            refine t_istore [.ref o, .int (nI a1), .int (nI 0), .int (x1137), .int (x1142), .int (x1144)] (Or.inr ⟨rfl, dX5_tickRecord_142⟩) (by decide) rfl ?_
            refine q_aload_n dX5_tickRecord_144 rfl ?_
            refine t_getr 8 kX5 (by decide) wPX5_28 dX5_tickRecord_145 hok mG_o rfl ?_
            refine q_iload_n dX5_tickRecord_148 rfl ?_
            refine t_iald dX5_tickRecord_149 hok (mG_a6 (ml := ml) (th := th) (s := s) hB) (by exact vp_in_nI (by omega) (by omega)) (fun x1145 => ?_)
            refine q_iconst (v := nI 1) dX5_tickRecord_150 rfl ?_
            refine q_icmp_ne (tgt := 177) dX5_tickRecord_151 (by decide) (fun c1146 => ?_) (fun c1146 => ?_)
            ·
              refine q_aload_n dX5_tickRecord_177 rfl ?_
              refine q_iload_n dX5_tickRecord_178 rfl ?_
              refine q_iconst (v := nI 0) dX5_tickRecord_179 rfl ?_
              refine q_iload dX5_tickRecord_180 rfl ?_
              refine q_iload_n dX5_tickRecord_182 rfl ?_
              refine q_iconst (v := -1) dX5_tickRecord_183 rfl ?_
              refine q_ixor dX5_tickRecord_184 ?_
              generalize (x1137) ^^^ (-1) = z1147
              refine q_iand dX5_tickRecord_185 ?_
              generalize (x1142) &&& (z1147) = z1148
              refine q_iconst (v := nI 0) dX5_tickRecord_186 rfl ?_
              refine t_callM (M' := mX5_become) [.int (nI a1), .int (nI 0), .int (z1148), .int (nI 0)] [] dX5_tickRecord_187 wPX5_94v wIX5_become wSX5_become iX5_become oX5_become rfl hok (sX5_become Sc Γ n o ml (th) (s) hB hml (a1) (by omega) (nI 0) (z1148) (nI 0)) (Nat.le_of_ble_eq_true rfl) (Nat.le_of_ble_eq_true rfl) (Nat.le_of_ble_eq_true rfl) rfl (fun _ _ _ q => by obtain ⟨q, _⟩ := q; cases q) (fun v1149 h thv1149 sv1149 qv1149 hok => ?_)
              obtain ⟨qv1149, etv1149, esv1149⟩ := qv1149
              rw [etv1149, esv1149] at hok
              obtain rfl := Sum.inl.inj qv1149
              exact q_vret dX5_tickRecord_190 rfl ⟨th, s, ⟨rfl, rfl, rfl⟩, hok, rfl⟩
            ·
              refine q_iload_n dX5_tickRecord_154 rfl ?_
              refine q_if_ne (tgt := 177) dX5_tickRecord_155 (by decide) (fun q => absurd q (by decide)) (fun _ => ?_)
              refine q_aload_n dX5_tickRecord_158 rfl ?_
              refine q_iload_n dX5_tickRecord_159 rfl ?_
              refine q_iconst (v := nI 1) dX5_tickRecord_160 rfl ?_
              refine q_iload dX5_tickRecord_161 rfl ?_
              refine q_iload_n dX5_tickRecord_163 rfl ?_
              refine q_iconst (v := -1) dX5_tickRecord_164 rfl ?_
              refine q_ixor dX5_tickRecord_165 ?_
              generalize (x1137) ^^^ (-1) = z1150
              refine q_iand dX5_tickRecord_166 ?_
              generalize (x1142) &&& (z1150) = z1151
              refine q_iload dX5_tickRecord_167 rfl ?_
              refine q_iload_n dX5_tickRecord_169 rfl ?_
              refine q_ior dX5_tickRecord_170 ?_
              generalize (x1144) ||| (x1137) = z1152
              refine t_callM (M' := mX5_become) [.int (nI a1), .int (nI 1), .int (z1151), .int (z1152)] [] dX5_tickRecord_171 wPX5_94v wIX5_become wSX5_become iX5_become oX5_become rfl hok (sX5_become Sc Γ n o ml (th) (s) hB hml (a1) (by omega) (nI 1) (z1151) (z1152)) (Nat.le_of_ble_eq_true rfl) (Nat.le_of_ble_eq_true rfl) (Nat.le_of_ble_eq_true rfl) rfl (fun _ _ _ q => by obtain ⟨q, _⟩ := q; cases q) (fun v1153 h thv1153 sv1153 qv1153 hok => ?_)
              obtain ⟨qv1153, etv1153, esv1153⟩ := qv1153
              rw [etv1153, esv1153] at hok
              obtain rfl := Sum.inl.inj qv1153
              refine q_goto (tgt := 190) dX5_tickRecord_174 (by decide) ?_
              exact q_vret dX5_tickRecord_190 rfl ⟨th, s, ⟨rfl, rfl, rfl⟩, hok, rfl⟩
          ·
            exact q_vret dX5_tickRecord_127 rfl ⟨th, s, ⟨rfl, rfl, rfl⟩, hok, rfl⟩
        | succ d1136 ihl1134 =>
          intro k1135 x1137 h el1134 hok
          refine q_iload dX5_tickRecord_48 rfl ?_
          refine q_bipush (v := nI 16) dX5_tickRecord_50 rfl ?_
          refine t_icmp_ge_n (tgt := 117) (by omega) (by omega) dX5_tickRecord_52 (by decide) (fun c1154 => ?_) (fun c1154 => ?_)
          · exact absurd c1154 (by omega)
          refine q_aload_n dX5_tickRecord_55 rfl ?_
          refine t_getr 11 kX5 (by decide) wPX5_37 dX5_tickRecord_56 hok mG_o rfl ?_
          refine q_bipush (v := nI 16) dX5_tickRecord_59 rfl ?_
          refine q_iload_n dX5_tickRecord_61 rfl ?_
          refine t_imul_n dX5_tickRecord_62 ?_
          refine q_iload dX5_tickRecord_63 rfl ?_
          refine t_iadd_n dX5_tickRecord_65 ?_
          refine t_iald dX5_tickRecord_66 hok (mG_a9 (ml := ml) (th := th) (s := s) hB) (by exact vp_in_nI (by omega) (by omega)) (fun x1155 => ?_)
          refine t_istore [.ref o, .int (nI a1), .int (nI 0), .int (x1137), .int (nI k1135), .int (x1155)] (Or.inr ⟨rfl, dX5_tickRecord_67⟩) (by decide) rfl ?_
          refine q_iload dX5_tickRecord_69 rfl ?_
          refine q_iconst (v := nI 1) dX5_tickRecord_71 rfl ?_
          refine q_icmp_ne (tgt := 84) dX5_tickRecord_72 (by decide) (fun c1156 => ?_) (fun c1156 => ?_)
          ·
            refine q_iload_n dX5_tickRecord_84 rfl ?_
            refine t_istore [.ref o, .int (nI a1), .int (nI 0), .int (x1137), .int (nI k1135), .int (x1155)] (Or.inl ⟨3, rfl, rfl, dX5_tickRecord_85⟩) (by decide) rfl ?_
            refine q_aload_n dX5_tickRecord_86 rfl ?_
            refine t_getr 11 kX5 (by decide) wPX5_37 dX5_tickRecord_87 hok mG_o rfl ?_
            refine q_bipush (v := nI 16) dX5_tickRecord_90 rfl ?_
            refine q_iload_n dX5_tickRecord_92 rfl ?_
            refine t_imul_n dX5_tickRecord_93 ?_
            refine q_iload dX5_tickRecord_94 rfl ?_
            refine t_iadd_n dX5_tickRecord_96 ?_
            refine q_iload dX5_tickRecord_97 rfl ?_
            refine q_if_le (tgt := 109) dX5_tickRecord_99 (by decide) (fun c1157 => ?_) (fun c1157 => ?_)
            ·
              refine q_iconst (v := nI 0) dX5_tickRecord_109 rfl ?_
              refine t_iast dX5_tickRecord_110 hok (mG_a9 (ml := ml) (th := th) (s := s) hB) (by exact vp_in_nI (by omega) (by omega)) (fun h hok => ?_)
              refine t_iinc_n [.ref o, .int (nI a1), .int (nI 0), .int (x1137), .int (nI (k1135 + 1)), .int (x1155)] dX5_tickRecord_111 rfl (by decide) rfl ?_
              refine q_goto (tgt := 48) dX5_tickRecord_114 (by decide) ?_
              refine q_weak [.ref o, .int (nI a1), .int (nI 0), .int (x1137), .int (nI (k1135 + 1)), .retAddr 0] ⟨Or.inl rfl, Or.inl rfl, Or.inl rfl, Or.inl rfl, Or.inl rfl, Or.inr ⟨0, rfl⟩, trivial⟩ ?_
              exact ihl1134 (k1135 + 1) (x1137) h (by omega) hok
            ·
              refine q_iload dX5_tickRecord_102 rfl ?_
              refine q_iconst (v := nI 1) dX5_tickRecord_104 rfl ?_
              refine q_isub dX5_tickRecord_105 ?_
              generalize (x1155) - (nI 1) = z1158
              refine q_goto (tgt := 110) dX5_tickRecord_106 (by decide) ?_
              refine t_iast dX5_tickRecord_110 hok (mG_a9 (ml := ml) (th := th) (s := s) hB) (by exact vp_in_nI (by omega) (by omega)) (fun h hok => ?_)
              refine t_iinc_n [.ref o, .int (nI a1), .int (nI 0), .int (x1137), .int (nI (k1135 + 1)), .int (x1155)] dX5_tickRecord_111 rfl (by decide) rfl ?_
              refine q_goto (tgt := 48) dX5_tickRecord_114 (by decide) ?_
              refine q_weak [.ref o, .int (nI a1), .int (nI 0), .int (x1137), .int (nI (k1135 + 1)), .retAddr 0] ⟨Or.inl rfl, Or.inl rfl, Or.inl rfl, Or.inl rfl, Or.inl rfl, Or.inr ⟨0, rfl⟩, trivial⟩ ?_
              exact ihl1134 (k1135 + 1) (x1137) h (by omega) hok
          ·
            refine q_iload_n dX5_tickRecord_75 rfl ?_
            refine q_iconst (v := nI 1) dX5_tickRecord_76 rfl ?_
            refine q_iload dX5_tickRecord_77 rfl ?_
            refine q_ishl dX5_tickRecord_79 ?_
            generalize (nI 1) <<< ((nI k1135) &&& 31) = z1159
            refine q_iadd dX5_tickRecord_80 ?_
            generalize (x1137) + (z1159) = z1160
            refine q_goto (tgt := 85) dX5_tickRecord_81 (by decide) ?_
            refine t_istore [.ref o, .int (nI a1), .int (nI 0), .int (z1160), .int (nI k1135), .int (x1155)] (Or.inl ⟨3, rfl, rfl, dX5_tickRecord_85⟩) (by decide) rfl ?_
            refine q_aload_n dX5_tickRecord_86 rfl ?_
            refine t_getr 11 kX5 (by decide) wPX5_37 dX5_tickRecord_87 hok mG_o rfl ?_
            refine q_bipush (v := nI 16) dX5_tickRecord_90 rfl ?_
            refine q_iload_n dX5_tickRecord_92 rfl ?_
            refine t_imul_n dX5_tickRecord_93 ?_
            refine q_iload dX5_tickRecord_94 rfl ?_
            refine t_iadd_n dX5_tickRecord_96 ?_
            refine q_iload dX5_tickRecord_97 rfl ?_
            refine q_if_le (tgt := 109) dX5_tickRecord_99 (by decide) (fun c1161 => ?_) (fun c1161 => ?_)
            ·
              refine q_iconst (v := nI 0) dX5_tickRecord_109 rfl ?_
              refine t_iast dX5_tickRecord_110 hok (mG_a9 (ml := ml) (th := th) (s := s) hB) (by exact vp_in_nI (by omega) (by omega)) (fun h hok => ?_)
              refine t_iinc_n [.ref o, .int (nI a1), .int (nI 0), .int (z1160), .int (nI (k1135 + 1)), .int (x1155)] dX5_tickRecord_111 rfl (by decide) rfl ?_
              refine q_goto (tgt := 48) dX5_tickRecord_114 (by decide) ?_
              refine q_weak [.ref o, .int (nI a1), .int (nI 0), .int (z1160), .int (nI (k1135 + 1)), .retAddr 0] ⟨Or.inl rfl, Or.inl rfl, Or.inl rfl, Or.inl rfl, Or.inl rfl, Or.inr ⟨0, rfl⟩, trivial⟩ ?_
              exact ihl1134 (k1135 + 1) (z1160) h (by omega) hok
            ·
              refine q_iload dX5_tickRecord_102 rfl ?_
              refine q_iconst (v := nI 1) dX5_tickRecord_104 rfl ?_
              refine q_isub dX5_tickRecord_105 ?_
              generalize (x1155) - (nI 1) = z1162
              refine q_goto (tgt := 110) dX5_tickRecord_106 (by decide) ?_
              refine t_iast dX5_tickRecord_110 hok (mG_a9 (ml := ml) (th := th) (s := s) hB) (by exact vp_in_nI (by omega) (by omega)) (fun h hok => ?_)
              refine t_iinc_n [.ref o, .int (nI a1), .int (nI 0), .int (z1160), .int (nI (k1135 + 1)), .int (x1155)] dX5_tickRecord_111 rfl (by decide) rfl ?_
              refine q_goto (tgt := 48) dX5_tickRecord_114 (by decide) ?_
              refine q_weak [.ref o, .int (nI a1), .int (nI 0), .int (z1160), .int (nI (k1135 + 1)), .retAddr 0] ⟨Or.inl rfl, Or.inl rfl, Or.inl rfl, Or.inl rfl, Or.inl rfl, Or.inr ⟨0, rfl⟩, trivial⟩ ?_
              exact ihl1134 (k1135 + 1) (z1160) h (by omega) hok
      exact hl1134 (16) 0 (nI 0) h (by omega) hok
    ·
      refine q_aload_n dX5_tickRecord_30 rfl ?_
      refine t_getr 9 kX5 (by decide) wPX5_31 dX5_tickRecord_31 hok mG_o rfl ?_
      refine q_iload_n dX5_tickRecord_34 rfl ?_
      refine t_iald dX5_tickRecord_35 hok (mG_a7 (ml := ml) (th := th) (s := s) hB) (by exact vp_in_nI (by omega) (by omega)) (fun x1163 => ?_)
      refine q_iconst (v := nI 1) dX5_tickRecord_36 rfl ?_
      refine q_isub dX5_tickRecord_37 ?_
      generalize (x1163) - (nI 1) = z1164
      refine q_goto (tgt := 42) dX5_tickRecord_38 (by decide) ?_
      refine t_iast dX5_tickRecord_42 hok (mG_a7 (ml := ml) (th := th) (s := s) hB) (by exact vp_in_nI (by omega) (by omega)) (fun h hok => ?_)
      refine q_iconst (v := nI 0) dX5_tickRecord_43 rfl ?_
      refine t_istore [.ref o, .int (nI a1), .int (nI 0), .int (nI 0), .retAddr 0, .retAddr 0] (Or.inl ⟨3, rfl, rfl, dX5_tickRecord_44⟩) (by decide) rfl ?_
      refine q_iconst (v := nI 0) dX5_tickRecord_45 rfl ?_
      refine t_istore [.ref o, .int (nI a1), .int (nI 0), .int (nI 0), .int (nI 0), .retAddr 0] (Or.inr ⟨rfl, dX5_tickRecord_46⟩) (by decide) rfl ?_
      have hl1165 : ∀ (d1167 k1166 : Nat) (x1168 : Int32) (h : q_H), k1166 + d1167 = 16 → q_ok (mG Γ o ml (th) (s)) h → q_A Sc mX5_tickRecord 48 [.ref o, .int (nI a1), .int (nI 0), .int (x1168), .int (nI k1166), .retAddr 0] [] h n 0 0 (fun O h' n' => ∃ th' s', (fun O th' s' => q_RV O ∧ th' = th ∧ s' = s) O th' s' ∧ q_ok (mG Γ o ml th' s') h' ∧ n' = n) := by
        intro d1167
        induction d1167 with
        | zero =>
          intro k1166 x1168 h el1165 hok
          refine q_iload dX5_tickRecord_48 rfl ?_
          refine q_bipush (v := nI 16) dX5_tickRecord_50 rfl ?_
          refine t_icmp_ge_n (tgt := 117) (by omega) (by omega) dX5_tickRecord_52 (by decide) (fun c1169 => ?_) (fun c1169 => ?_)
          rotate_left
          · exact absurd c1169 (by omega)
          refine q_aload_n dX5_tickRecord_117 rfl ?_
          refine t_getr 8 kX5 (by decide) wPX5_28 dX5_tickRecord_118 hok mG_o rfl ?_
          refine q_iload_n dX5_tickRecord_121 rfl ?_
          refine t_iald dX5_tickRecord_122 hok (mG_a6 (ml := ml) (th := th) (s := s) hB) (by exact vp_in_nI (by omega) (by omega)) (fun x1170 => ?_)
          refine q_iconst (v := -1) dX5_tickRecord_123 rfl ?_
          refine q_icmp_ne (tgt := 128) dX5_tickRecord_124 (by decide) (fun c1171 => ?_) (fun c1171 => ?_)
          ·
            refine q_aload_n dX5_tickRecord_128 rfl ?_
            refine q_iload_n dX5_tickRecord_129 rfl ?_
            refine q_iconst (v := nI 1) dX5_tickRecord_130 rfl ?_
            refine t_callM (M' := mX5_setOf) [.int (nI a1), .int (nI 1)] [] dX5_tickRecord_131 wPX5_90v wIX5_setOf wSX5_setOf iX5_setOf oX5_setOf rfl hok (sX5_setOf Sc Γ n o ml (th) (s) hB hml (a1) (by omega) (nI 1)) (Nat.le_of_ble_eq_true rfl) (Nat.le_of_ble_eq_true rfl) (Nat.le_of_ble_eq_true rfl) rfl (fun _ _ _ q => by obtain ⟨q, _⟩ := q; obtain ⟨_, q⟩ := q; cases q) (fun v1172 h thv1172 sv1172 qv1172 hok => ?_)
            obtain ⟨qv1172, etv1172, esv1172⟩ := qv1172
            rw [etv1172, esv1172] at hok
            obtain ⟨x1173, qx1173⟩ := qv1172
            obtain rfl := Sum.inl.inj qx1173
            refine t_istore [.ref o, .int (nI a1), .int (nI 0), .int (x1168), .int (x1173), .retAddr 0] (Or.inr ⟨rfl, dX5_tickRecord_134⟩) (by decide) rfl ?_
            refine q_aload_n dX5_tickRecord_136 rfl ?_
            refine q_iload_n dX5_tickRecord_137 rfl ?_
            refine q_iconst (v := nI 2) dX5_tickRecord_138 rfl ?_
            refine t_callM (M' := mX5_setOf) [.int (nI a1), .int (nI 2)] [] dX5_tickRecord_139 wPX5_90v wIX5_setOf wSX5_setOf iX5_setOf oX5_setOf rfl hok (sX5_setOf Sc Γ n o ml (th) (s) hB hml (a1) (by omega) (nI 2)) (Nat.le_of_ble_eq_true rfl) (Nat.le_of_ble_eq_true rfl) (Nat.le_of_ble_eq_true rfl) rfl (fun _ _ _ q => by obtain ⟨q, _⟩ := q; obtain ⟨_, q⟩ := q; cases q) (fun v1174 h thv1174 sv1174 qv1174 hok => ?_)
            obtain ⟨qv1174, etv1174, esv1174⟩ := qv1174
            rw [etv1174, esv1174] at hok
            obtain ⟨x1175, qx1175⟩ := qv1174
            obtain rfl := Sum.inl.inj qx1175
            refine t_istore [.ref o, .int (nI a1), .int (nI 0), .int (x1168), .int (x1173), .int (x1175)] (Or.inr ⟨rfl, dX5_tickRecord_142⟩) (by decide) rfl ?_
            refine q_aload_n dX5_tickRecord_144 rfl ?_
            refine t_getr 8 kX5 (by decide) wPX5_28 dX5_tickRecord_145 hok mG_o rfl ?_
            refine q_iload_n dX5_tickRecord_148 rfl ?_
            refine t_iald dX5_tickRecord_149 hok (mG_a6 (ml := ml) (th := th) (s := s) hB) (by exact vp_in_nI (by omega) (by omega)) (fun x1176 => ?_)
            refine q_iconst (v := nI 1) dX5_tickRecord_150 rfl ?_
            refine q_icmp_ne (tgt := 177) dX5_tickRecord_151 (by decide) (fun c1177 => ?_) (fun c1177 => ?_)
            ·
              refine q_aload_n dX5_tickRecord_177 rfl ?_
              refine q_iload_n dX5_tickRecord_178 rfl ?_
              refine q_iconst (v := nI 0) dX5_tickRecord_179 rfl ?_
              refine q_iload dX5_tickRecord_180 rfl ?_
              refine q_iload_n dX5_tickRecord_182 rfl ?_
              refine q_iconst (v := -1) dX5_tickRecord_183 rfl ?_
              refine q_ixor dX5_tickRecord_184 ?_
              generalize (x1168) ^^^ (-1) = z1178
              refine q_iand dX5_tickRecord_185 ?_
              generalize (x1173) &&& (z1178) = z1179
              refine q_iconst (v := nI 0) dX5_tickRecord_186 rfl ?_
              refine t_callM (M' := mX5_become) [.int (nI a1), .int (nI 0), .int (z1179), .int (nI 0)] [] dX5_tickRecord_187 wPX5_94v wIX5_become wSX5_become iX5_become oX5_become rfl hok (sX5_become Sc Γ n o ml (th) (s) hB hml (a1) (by omega) (nI 0) (z1179) (nI 0)) (Nat.le_of_ble_eq_true rfl) (Nat.le_of_ble_eq_true rfl) (Nat.le_of_ble_eq_true rfl) rfl (fun _ _ _ q => by obtain ⟨q, _⟩ := q; cases q) (fun v1180 h thv1180 sv1180 qv1180 hok => ?_)
              obtain ⟨qv1180, etv1180, esv1180⟩ := qv1180
              rw [etv1180, esv1180] at hok
              obtain rfl := Sum.inl.inj qv1180
              exact q_vret dX5_tickRecord_190 rfl ⟨th, s, ⟨rfl, rfl, rfl⟩, hok, rfl⟩
            ·
              refine q_iload_n dX5_tickRecord_154 rfl ?_
              refine q_if_ne (tgt := 177) dX5_tickRecord_155 (by decide) (fun q => absurd q (by decide)) (fun _ => ?_)
              refine q_aload_n dX5_tickRecord_158 rfl ?_
              refine q_iload_n dX5_tickRecord_159 rfl ?_
              refine q_iconst (v := nI 1) dX5_tickRecord_160 rfl ?_
              refine q_iload dX5_tickRecord_161 rfl ?_
              refine q_iload_n dX5_tickRecord_163 rfl ?_
              refine q_iconst (v := -1) dX5_tickRecord_164 rfl ?_
              refine q_ixor dX5_tickRecord_165 ?_
              generalize (x1168) ^^^ (-1) = z1181
              refine q_iand dX5_tickRecord_166 ?_
              generalize (x1173) &&& (z1181) = z1182
              refine q_iload dX5_tickRecord_167 rfl ?_
              refine q_iload_n dX5_tickRecord_169 rfl ?_
              refine q_ior dX5_tickRecord_170 ?_
              generalize (x1175) ||| (x1168) = z1183
              refine t_callM (M' := mX5_become) [.int (nI a1), .int (nI 1), .int (z1182), .int (z1183)] [] dX5_tickRecord_171 wPX5_94v wIX5_become wSX5_become iX5_become oX5_become rfl hok (sX5_become Sc Γ n o ml (th) (s) hB hml (a1) (by omega) (nI 1) (z1182) (z1183)) (Nat.le_of_ble_eq_true rfl) (Nat.le_of_ble_eq_true rfl) (Nat.le_of_ble_eq_true rfl) rfl (fun _ _ _ q => by obtain ⟨q, _⟩ := q; cases q) (fun v1184 h thv1184 sv1184 qv1184 hok => ?_)
              obtain ⟨qv1184, etv1184, esv1184⟩ := qv1184
              rw [etv1184, esv1184] at hok
              obtain rfl := Sum.inl.inj qv1184
              refine q_goto (tgt := 190) dX5_tickRecord_174 (by decide) ?_
              exact q_vret dX5_tickRecord_190 rfl ⟨th, s, ⟨rfl, rfl, rfl⟩, hok, rfl⟩
          ·
            exact q_vret dX5_tickRecord_127 rfl ⟨th, s, ⟨rfl, rfl, rfl⟩, hok, rfl⟩
        | succ d1167 ihl1165 =>
          intro k1166 x1168 h el1165 hok
          refine q_iload dX5_tickRecord_48 rfl ?_
          refine q_bipush (v := nI 16) dX5_tickRecord_50 rfl ?_
          refine t_icmp_ge_n (tgt := 117) (by omega) (by omega) dX5_tickRecord_52 (by decide) (fun c1185 => ?_) (fun c1185 => ?_)
          · exact absurd c1185 (by omega)
          refine q_aload_n dX5_tickRecord_55 rfl ?_
          refine t_getr 11 kX5 (by decide) wPX5_37 dX5_tickRecord_56 hok mG_o rfl ?_
          refine q_bipush (v := nI 16) dX5_tickRecord_59 rfl ?_
          refine q_iload_n dX5_tickRecord_61 rfl ?_
          refine t_imul_n dX5_tickRecord_62 ?_
          refine q_iload dX5_tickRecord_63 rfl ?_
          refine t_iadd_n dX5_tickRecord_65 ?_
          refine t_iald dX5_tickRecord_66 hok (mG_a9 (ml := ml) (th := th) (s := s) hB) (by exact vp_in_nI (by omega) (by omega)) (fun x1186 => ?_)
          refine t_istore [.ref o, .int (nI a1), .int (nI 0), .int (x1168), .int (nI k1166), .int (x1186)] (Or.inr ⟨rfl, dX5_tickRecord_67⟩) (by decide) rfl ?_
          refine q_iload dX5_tickRecord_69 rfl ?_
          refine q_iconst (v := nI 1) dX5_tickRecord_71 rfl ?_
          refine q_icmp_ne (tgt := 84) dX5_tickRecord_72 (by decide) (fun c1187 => ?_) (fun c1187 => ?_)
          ·
            refine q_iload_n dX5_tickRecord_84 rfl ?_
            refine t_istore [.ref o, .int (nI a1), .int (nI 0), .int (x1168), .int (nI k1166), .int (x1186)] (Or.inl ⟨3, rfl, rfl, dX5_tickRecord_85⟩) (by decide) rfl ?_
            refine q_aload_n dX5_tickRecord_86 rfl ?_
            refine t_getr 11 kX5 (by decide) wPX5_37 dX5_tickRecord_87 hok mG_o rfl ?_
            refine q_bipush (v := nI 16) dX5_tickRecord_90 rfl ?_
            refine q_iload_n dX5_tickRecord_92 rfl ?_
            refine t_imul_n dX5_tickRecord_93 ?_
            refine q_iload dX5_tickRecord_94 rfl ?_
            refine t_iadd_n dX5_tickRecord_96 ?_
            refine q_iload dX5_tickRecord_97 rfl ?_
            refine q_if_le (tgt := 109) dX5_tickRecord_99 (by decide) (fun c1188 => ?_) (fun c1188 => ?_)
            ·
              refine q_iconst (v := nI 0) dX5_tickRecord_109 rfl ?_
              refine t_iast dX5_tickRecord_110 hok (mG_a9 (ml := ml) (th := th) (s := s) hB) (by exact vp_in_nI (by omega) (by omega)) (fun h hok => ?_)
              refine t_iinc_n [.ref o, .int (nI a1), .int (nI 0), .int (x1168), .int (nI (k1166 + 1)), .int (x1186)] dX5_tickRecord_111 rfl (by decide) rfl ?_
              refine q_goto (tgt := 48) dX5_tickRecord_114 (by decide) ?_
              refine q_weak [.ref o, .int (nI a1), .int (nI 0), .int (x1168), .int (nI (k1166 + 1)), .retAddr 0] ⟨Or.inl rfl, Or.inl rfl, Or.inl rfl, Or.inl rfl, Or.inl rfl, Or.inr ⟨0, rfl⟩, trivial⟩ ?_
              exact ihl1165 (k1166 + 1) (x1168) h (by omega) hok
            ·
              refine q_iload dX5_tickRecord_102 rfl ?_
              refine q_iconst (v := nI 1) dX5_tickRecord_104 rfl ?_
              refine q_isub dX5_tickRecord_105 ?_
              generalize (x1186) - (nI 1) = z1189
              refine q_goto (tgt := 110) dX5_tickRecord_106 (by decide) ?_
              refine t_iast dX5_tickRecord_110 hok (mG_a9 (ml := ml) (th := th) (s := s) hB) (by exact vp_in_nI (by omega) (by omega)) (fun h hok => ?_)
              refine t_iinc_n [.ref o, .int (nI a1), .int (nI 0), .int (x1168), .int (nI (k1166 + 1)), .int (x1186)] dX5_tickRecord_111 rfl (by decide) rfl ?_
              refine q_goto (tgt := 48) dX5_tickRecord_114 (by decide) ?_
              refine q_weak [.ref o, .int (nI a1), .int (nI 0), .int (x1168), .int (nI (k1166 + 1)), .retAddr 0] ⟨Or.inl rfl, Or.inl rfl, Or.inl rfl, Or.inl rfl, Or.inl rfl, Or.inr ⟨0, rfl⟩, trivial⟩ ?_
              exact ihl1165 (k1166 + 1) (x1168) h (by omega) hok
          ·
            refine q_iload_n dX5_tickRecord_75 rfl ?_
            refine q_iconst (v := nI 1) dX5_tickRecord_76 rfl ?_
            refine q_iload dX5_tickRecord_77 rfl ?_
            refine q_ishl dX5_tickRecord_79 ?_
            generalize (nI 1) <<< ((nI k1166) &&& 31) = z1190
            refine q_iadd dX5_tickRecord_80 ?_
            generalize (x1168) + (z1190) = z1191
            refine q_goto (tgt := 85) dX5_tickRecord_81 (by decide) ?_
            refine t_istore [.ref o, .int (nI a1), .int (nI 0), .int (z1191), .int (nI k1166), .int (x1186)] (Or.inl ⟨3, rfl, rfl, dX5_tickRecord_85⟩) (by decide) rfl ?_
            refine q_aload_n dX5_tickRecord_86 rfl ?_
            refine t_getr 11 kX5 (by decide) wPX5_37 dX5_tickRecord_87 hok mG_o rfl ?_
            refine q_bipush (v := nI 16) dX5_tickRecord_90 rfl ?_
            refine q_iload_n dX5_tickRecord_92 rfl ?_
            refine t_imul_n dX5_tickRecord_93 ?_
            refine q_iload dX5_tickRecord_94 rfl ?_
            refine t_iadd_n dX5_tickRecord_96 ?_
            refine q_iload dX5_tickRecord_97 rfl ?_
            refine q_if_le (tgt := 109) dX5_tickRecord_99 (by decide) (fun c1192 => ?_) (fun c1192 => ?_)
            ·
              refine q_iconst (v := nI 0) dX5_tickRecord_109 rfl ?_
              refine t_iast dX5_tickRecord_110 hok (mG_a9 (ml := ml) (th := th) (s := s) hB) (by exact vp_in_nI (by omega) (by omega)) (fun h hok => ?_)
              refine t_iinc_n [.ref o, .int (nI a1), .int (nI 0), .int (z1191), .int (nI (k1166 + 1)), .int (x1186)] dX5_tickRecord_111 rfl (by decide) rfl ?_
              refine q_goto (tgt := 48) dX5_tickRecord_114 (by decide) ?_
              refine q_weak [.ref o, .int (nI a1), .int (nI 0), .int (z1191), .int (nI (k1166 + 1)), .retAddr 0] ⟨Or.inl rfl, Or.inl rfl, Or.inl rfl, Or.inl rfl, Or.inl rfl, Or.inr ⟨0, rfl⟩, trivial⟩ ?_
              exact ihl1165 (k1166 + 1) (z1191) h (by omega) hok
            ·
              refine q_iload dX5_tickRecord_102 rfl ?_
              refine q_iconst (v := nI 1) dX5_tickRecord_104 rfl ?_
              refine q_isub dX5_tickRecord_105 ?_
              generalize (x1186) - (nI 1) = z1193
              refine q_goto (tgt := 110) dX5_tickRecord_106 (by decide) ?_
              refine t_iast dX5_tickRecord_110 hok (mG_a9 (ml := ml) (th := th) (s := s) hB) (by exact vp_in_nI (by omega) (by omega)) (fun h hok => ?_)
              refine t_iinc_n [.ref o, .int (nI a1), .int (nI 0), .int (z1191), .int (nI (k1166 + 1)), .int (x1186)] dX5_tickRecord_111 rfl (by decide) rfl ?_
              refine q_goto (tgt := 48) dX5_tickRecord_114 (by decide) ?_
              refine q_weak [.ref o, .int (nI a1), .int (nI 0), .int (z1191), .int (nI (k1166 + 1)), .retAddr 0] ⟨Or.inl rfl, Or.inl rfl, Or.inl rfl, Or.inl rfl, Or.inl rfl, Or.inr ⟨0, rfl⟩, trivial⟩ ?_
              exact ihl1165 (k1166 + 1) (z1191) h (by omega) hok
      exact hl1165 (16) 0 (nI 0) h (by omega) hok
  ·
    refine q_iconst (v := nI 1) dX5_tickRecord_10 rfl ?_
    refine q_goto (tgt := 15) dX5_tickRecord_11 (by decide) ?_
    refine t_istore [.ref o, .int (nI a1), .int (nI 1), .retAddr 0, .retAddr 0, .retAddr 0] (Or.inl ⟨2, rfl, rfl, dX5_tickRecord_15⟩) (by decide) rfl ?_
    refine q_aload_n dX5_tickRecord_16 rfl ?_
    refine t_getr 9 kX5 (by decide) wPX5_31 dX5_tickRecord_17 hok mG_o rfl ?_
    refine q_iload_n dX5_tickRecord_20 rfl ?_
    refine q_aload_n dX5_tickRecord_21 rfl ?_
    refine t_getr 9 kX5 (by decide) wPX5_31 dX5_tickRecord_22 hok mG_o rfl ?_
    refine q_iload_n dX5_tickRecord_25 rfl ?_
    refine t_iald dX5_tickRecord_26 hok (mG_a7 (ml := ml) (th := th) (s := s) hB) (by exact vp_in_nI (by omega) (by omega)) (fun x1194 => ?_)
    refine q_if_le (tgt := 41) dX5_tickRecord_27 (by decide) (fun c1195 => ?_) (fun c1195 => ?_)
    ·
      refine q_iconst (v := nI 0) dX5_tickRecord_41 rfl ?_
      refine t_iast dX5_tickRecord_42 hok (mG_a7 (ml := ml) (th := th) (s := s) hB) (by exact vp_in_nI (by omega) (by omega)) (fun h hok => ?_)
      refine q_iconst (v := nI 0) dX5_tickRecord_43 rfl ?_
      refine t_istore [.ref o, .int (nI a1), .int (nI 1), .int (nI 0), .retAddr 0, .retAddr 0] (Or.inl ⟨3, rfl, rfl, dX5_tickRecord_44⟩) (by decide) rfl ?_
      refine q_iconst (v := nI 0) dX5_tickRecord_45 rfl ?_
      refine t_istore [.ref o, .int (nI a1), .int (nI 1), .int (nI 0), .int (nI 0), .retAddr 0] (Or.inr ⟨rfl, dX5_tickRecord_46⟩) (by decide) rfl ?_
      have hl1196 : ∀ (d1198 k1197 : Nat) (x1199 : Int32) (h : q_H), k1197 + d1198 = 16 → q_ok (mG Γ o ml (th) (s)) h → q_A Sc mX5_tickRecord 48 [.ref o, .int (nI a1), .int (nI 1), .int (x1199), .int (nI k1197), .retAddr 0] [] h n 0 0 (fun O h' n' => ∃ th' s', (fun O th' s' => q_RV O ∧ th' = th ∧ s' = s) O th' s' ∧ q_ok (mG Γ o ml th' s') h' ∧ n' = n) := by
        intro d1198
        induction d1198 with
        | zero =>
          intro k1197 x1199 h el1196 hok
          refine q_iload dX5_tickRecord_48 rfl ?_
          refine q_bipush (v := nI 16) dX5_tickRecord_50 rfl ?_
          refine t_icmp_ge_n (tgt := 117) (by omega) (by omega) dX5_tickRecord_52 (by decide) (fun c1200 => ?_) (fun c1200 => ?_)
          rotate_left
          · exact absurd c1200 (by omega)
          refine q_aload_n dX5_tickRecord_117 rfl ?_
          refine t_getr 8 kX5 (by decide) wPX5_28 dX5_tickRecord_118 hok mG_o rfl ?_
          refine q_iload_n dX5_tickRecord_121 rfl ?_
          refine t_iald dX5_tickRecord_122 hok (mG_a6 (ml := ml) (th := th) (s := s) hB) (by exact vp_in_nI (by omega) (by omega)) (fun x1201 => ?_)
          refine q_iconst (v := -1) dX5_tickRecord_123 rfl ?_
          refine q_icmp_ne (tgt := 128) dX5_tickRecord_124 (by decide) (fun c1202 => ?_) (fun c1202 => ?_)
          ·
            refine q_aload_n dX5_tickRecord_128 rfl ?_
            refine q_iload_n dX5_tickRecord_129 rfl ?_
            refine q_iconst (v := nI 1) dX5_tickRecord_130 rfl ?_
            refine t_callM (M' := mX5_setOf) [.int (nI a1), .int (nI 1)] [] dX5_tickRecord_131 wPX5_90v wIX5_setOf wSX5_setOf iX5_setOf oX5_setOf rfl hok (sX5_setOf Sc Γ n o ml (th) (s) hB hml (a1) (by omega) (nI 1)) (Nat.le_of_ble_eq_true rfl) (Nat.le_of_ble_eq_true rfl) (Nat.le_of_ble_eq_true rfl) rfl (fun _ _ _ q => by obtain ⟨q, _⟩ := q; obtain ⟨_, q⟩ := q; cases q) (fun v1203 h thv1203 sv1203 qv1203 hok => ?_)
            obtain ⟨qv1203, etv1203, esv1203⟩ := qv1203
            rw [etv1203, esv1203] at hok
            obtain ⟨x1204, qx1204⟩ := qv1203
            obtain rfl := Sum.inl.inj qx1204
            refine t_istore [.ref o, .int (nI a1), .int (nI 1), .int (x1199), .int (x1204), .retAddr 0] (Or.inr ⟨rfl, dX5_tickRecord_134⟩) (by decide) rfl ?_
            refine q_aload_n dX5_tickRecord_136 rfl ?_
            refine q_iload_n dX5_tickRecord_137 rfl ?_
            refine q_iconst (v := nI 2) dX5_tickRecord_138 rfl ?_
            refine t_callM (M' := mX5_setOf) [.int (nI a1), .int (nI 2)] [] dX5_tickRecord_139 wPX5_90v wIX5_setOf wSX5_setOf iX5_setOf oX5_setOf rfl hok (sX5_setOf Sc Γ n o ml (th) (s) hB hml (a1) (by omega) (nI 2)) (Nat.le_of_ble_eq_true rfl) (Nat.le_of_ble_eq_true rfl) (Nat.le_of_ble_eq_true rfl) rfl (fun _ _ _ q => by obtain ⟨q, _⟩ := q; obtain ⟨_, q⟩ := q; cases q) (fun v1205 h thv1205 sv1205 qv1205 hok => ?_)
            obtain ⟨qv1205, etv1205, esv1205⟩ := qv1205
            rw [etv1205, esv1205] at hok
            obtain ⟨x1206, qx1206⟩ := qv1205
            obtain rfl := Sum.inl.inj qx1206
            refine t_istore [.ref o, .int (nI a1), .int (nI 1), .int (x1199), .int (x1204), .int (x1206)] (Or.inr ⟨rfl, dX5_tickRecord_142⟩) (by decide) rfl ?_
            refine q_aload_n dX5_tickRecord_144 rfl ?_
            refine t_getr 8 kX5 (by decide) wPX5_28 dX5_tickRecord_145 hok mG_o rfl ?_
            refine q_iload_n dX5_tickRecord_148 rfl ?_
            refine t_iald dX5_tickRecord_149 hok (mG_a6 (ml := ml) (th := th) (s := s) hB) (by exact vp_in_nI (by omega) (by omega)) (fun x1207 => ?_)
            refine q_iconst (v := nI 1) dX5_tickRecord_150 rfl ?_
            refine q_icmp_ne (tgt := 177) dX5_tickRecord_151 (by decide) (fun c1208 => ?_) (fun c1208 => ?_)
            ·
              refine q_aload_n dX5_tickRecord_177 rfl ?_
              refine q_iload_n dX5_tickRecord_178 rfl ?_
              refine q_iconst (v := nI 0) dX5_tickRecord_179 rfl ?_
              refine q_iload dX5_tickRecord_180 rfl ?_
              refine q_iload_n dX5_tickRecord_182 rfl ?_
              refine q_iconst (v := -1) dX5_tickRecord_183 rfl ?_
              refine q_ixor dX5_tickRecord_184 ?_
              generalize (x1199) ^^^ (-1) = z1209
              refine q_iand dX5_tickRecord_185 ?_
              generalize (x1204) &&& (z1209) = z1210
              refine q_iconst (v := nI 0) dX5_tickRecord_186 rfl ?_
              refine t_callM (M' := mX5_become) [.int (nI a1), .int (nI 0), .int (z1210), .int (nI 0)] [] dX5_tickRecord_187 wPX5_94v wIX5_become wSX5_become iX5_become oX5_become rfl hok (sX5_become Sc Γ n o ml (th) (s) hB hml (a1) (by omega) (nI 0) (z1210) (nI 0)) (Nat.le_of_ble_eq_true rfl) (Nat.le_of_ble_eq_true rfl) (Nat.le_of_ble_eq_true rfl) rfl (fun _ _ _ q => by obtain ⟨q, _⟩ := q; cases q) (fun v1211 h thv1211 sv1211 qv1211 hok => ?_)
              obtain ⟨qv1211, etv1211, esv1211⟩ := qv1211
              rw [etv1211, esv1211] at hok
              obtain rfl := Sum.inl.inj qv1211
              exact q_vret dX5_tickRecord_190 rfl ⟨th, s, ⟨rfl, rfl, rfl⟩, hok, rfl⟩
            ·
              refine q_iload_n dX5_tickRecord_154 rfl ?_
              refine q_if_ne (tgt := 177) dX5_tickRecord_155 (by decide) (fun _ => ?_) (fun q => absurd q (by decide))
              refine q_aload_n dX5_tickRecord_177 rfl ?_
              refine q_iload_n dX5_tickRecord_178 rfl ?_
              refine q_iconst (v := nI 0) dX5_tickRecord_179 rfl ?_
              refine q_iload dX5_tickRecord_180 rfl ?_
              refine q_iload_n dX5_tickRecord_182 rfl ?_
              refine q_iconst (v := -1) dX5_tickRecord_183 rfl ?_
              refine q_ixor dX5_tickRecord_184 ?_
              generalize (x1199) ^^^ (-1) = z1212
              refine q_iand dX5_tickRecord_185 ?_
              generalize (x1204) &&& (z1212) = z1213
              refine q_iconst (v := nI 0) dX5_tickRecord_186 rfl ?_
              refine t_callM (M' := mX5_become) [.int (nI a1), .int (nI 0), .int (z1213), .int (nI 0)] [] dX5_tickRecord_187 wPX5_94v wIX5_become wSX5_become iX5_become oX5_become rfl hok (sX5_become Sc Γ n o ml (th) (s) hB hml (a1) (by omega) (nI 0) (z1213) (nI 0)) (Nat.le_of_ble_eq_true rfl) (Nat.le_of_ble_eq_true rfl) (Nat.le_of_ble_eq_true rfl) rfl (fun _ _ _ q => by obtain ⟨q, _⟩ := q; cases q) (fun v1214 h thv1214 sv1214 qv1214 hok => ?_)
              obtain ⟨qv1214, etv1214, esv1214⟩ := qv1214
              rw [etv1214, esv1214] at hok
              obtain rfl := Sum.inl.inj qv1214
              exact q_vret dX5_tickRecord_190 rfl ⟨th, s, ⟨rfl, rfl, rfl⟩, hok, rfl⟩
          ·
            exact q_vret dX5_tickRecord_127 rfl ⟨th, s, ⟨rfl, rfl, rfl⟩, hok, rfl⟩
        | succ d1198 ihl1196 =>
          intro k1197 x1199 h el1196 hok
          refine q_iload dX5_tickRecord_48 rfl ?_
          refine q_bipush (v := nI 16) dX5_tickRecord_50 rfl ?_
          refine t_icmp_ge_n (tgt := 117) (by omega) (by omega) dX5_tickRecord_52 (by decide) (fun c1215 => ?_) (fun c1215 => ?_)
          · exact absurd c1215 (by omega)
          refine q_aload_n dX5_tickRecord_55 rfl ?_
          refine t_getr 11 kX5 (by decide) wPX5_37 dX5_tickRecord_56 hok mG_o rfl ?_
          refine q_bipush (v := nI 16) dX5_tickRecord_59 rfl ?_
          refine q_iload_n dX5_tickRecord_61 rfl ?_
          refine t_imul_n dX5_tickRecord_62 ?_
          refine q_iload dX5_tickRecord_63 rfl ?_
          refine t_iadd_n dX5_tickRecord_65 ?_
          refine t_iald dX5_tickRecord_66 hok (mG_a9 (ml := ml) (th := th) (s := s) hB) (by exact vp_in_nI (by omega) (by omega)) (fun x1216 => ?_)
          refine t_istore [.ref o, .int (nI a1), .int (nI 1), .int (x1199), .int (nI k1197), .int (x1216)] (Or.inr ⟨rfl, dX5_tickRecord_67⟩) (by decide) rfl ?_
          refine q_iload dX5_tickRecord_69 rfl ?_
          refine q_iconst (v := nI 1) dX5_tickRecord_71 rfl ?_
          refine q_icmp_ne (tgt := 84) dX5_tickRecord_72 (by decide) (fun c1217 => ?_) (fun c1217 => ?_)
          ·
            refine q_iload_n dX5_tickRecord_84 rfl ?_
            refine t_istore [.ref o, .int (nI a1), .int (nI 1), .int (x1199), .int (nI k1197), .int (x1216)] (Or.inl ⟨3, rfl, rfl, dX5_tickRecord_85⟩) (by decide) rfl ?_
            refine q_aload_n dX5_tickRecord_86 rfl ?_
            refine t_getr 11 kX5 (by decide) wPX5_37 dX5_tickRecord_87 hok mG_o rfl ?_
            refine q_bipush (v := nI 16) dX5_tickRecord_90 rfl ?_
            refine q_iload_n dX5_tickRecord_92 rfl ?_
            refine t_imul_n dX5_tickRecord_93 ?_
            refine q_iload dX5_tickRecord_94 rfl ?_
            refine t_iadd_n dX5_tickRecord_96 ?_
            refine q_iload dX5_tickRecord_97 rfl ?_
            refine q_if_le (tgt := 109) dX5_tickRecord_99 (by decide) (fun c1218 => ?_) (fun c1218 => ?_)
            ·
              refine q_iconst (v := nI 0) dX5_tickRecord_109 rfl ?_
              refine t_iast dX5_tickRecord_110 hok (mG_a9 (ml := ml) (th := th) (s := s) hB) (by exact vp_in_nI (by omega) (by omega)) (fun h hok => ?_)
              refine t_iinc_n [.ref o, .int (nI a1), .int (nI 1), .int (x1199), .int (nI (k1197 + 1)), .int (x1216)] dX5_tickRecord_111 rfl (by decide) rfl ?_
              refine q_goto (tgt := 48) dX5_tickRecord_114 (by decide) ?_
              refine q_weak [.ref o, .int (nI a1), .int (nI 1), .int (x1199), .int (nI (k1197 + 1)), .retAddr 0] ⟨Or.inl rfl, Or.inl rfl, Or.inl rfl, Or.inl rfl, Or.inl rfl, Or.inr ⟨0, rfl⟩, trivial⟩ ?_
              exact ihl1196 (k1197 + 1) (x1199) h (by omega) hok
            ·
              refine q_iload dX5_tickRecord_102 rfl ?_
              refine q_iconst (v := nI 1) dX5_tickRecord_104 rfl ?_
              refine q_isub dX5_tickRecord_105 ?_
              generalize (x1216) - (nI 1) = z1219
              refine q_goto (tgt := 110) dX5_tickRecord_106 (by decide) ?_
              refine t_iast dX5_tickRecord_110 hok (mG_a9 (ml := ml) (th := th) (s := s) hB) (by exact vp_in_nI (by omega) (by omega)) (fun h hok => ?_)
              refine t_iinc_n [.ref o, .int (nI a1), .int (nI 1), .int (x1199), .int (nI (k1197 + 1)), .int (x1216)] dX5_tickRecord_111 rfl (by decide) rfl ?_
              refine q_goto (tgt := 48) dX5_tickRecord_114 (by decide) ?_
              refine q_weak [.ref o, .int (nI a1), .int (nI 1), .int (x1199), .int (nI (k1197 + 1)), .retAddr 0] ⟨Or.inl rfl, Or.inl rfl, Or.inl rfl, Or.inl rfl, Or.inl rfl, Or.inr ⟨0, rfl⟩, trivial⟩ ?_
              exact ihl1196 (k1197 + 1) (x1199) h (by omega) hok
          ·
            refine q_iload_n dX5_tickRecord_75 rfl ?_
            refine q_iconst (v := nI 1) dX5_tickRecord_76 rfl ?_
            refine q_iload dX5_tickRecord_77 rfl ?_
            refine q_ishl dX5_tickRecord_79 ?_
            generalize (nI 1) <<< ((nI k1197) &&& 31) = z1220
            refine q_iadd dX5_tickRecord_80 ?_
            generalize (x1199) + (z1220) = z1221
            refine q_goto (tgt := 85) dX5_tickRecord_81 (by decide) ?_
            refine t_istore [.ref o, .int (nI a1), .int (nI 1), .int (z1221), .int (nI k1197), .int (x1216)] (Or.inl ⟨3, rfl, rfl, dX5_tickRecord_85⟩) (by decide) rfl ?_
            refine q_aload_n dX5_tickRecord_86 rfl ?_
            refine t_getr 11 kX5 (by decide) wPX5_37 dX5_tickRecord_87 hok mG_o rfl ?_
            refine q_bipush (v := nI 16) dX5_tickRecord_90 rfl ?_
            refine q_iload_n dX5_tickRecord_92 rfl ?_
            refine t_imul_n dX5_tickRecord_93 ?_
            refine q_iload dX5_tickRecord_94 rfl ?_
            refine t_iadd_n dX5_tickRecord_96 ?_
            refine q_iload dX5_tickRecord_97 rfl ?_
            refine q_if_le (tgt := 109) dX5_tickRecord_99 (by decide) (fun c1222 => ?_) (fun c1222 => ?_)
            ·
              refine q_iconst (v := nI 0) dX5_tickRecord_109 rfl ?_
              refine t_iast dX5_tickRecord_110 hok (mG_a9 (ml := ml) (th := th) (s := s) hB) (by exact vp_in_nI (by omega) (by omega)) (fun h hok => ?_)
              refine t_iinc_n [.ref o, .int (nI a1), .int (nI 1), .int (z1221), .int (nI (k1197 + 1)), .int (x1216)] dX5_tickRecord_111 rfl (by decide) rfl ?_
              refine q_goto (tgt := 48) dX5_tickRecord_114 (by decide) ?_
              refine q_weak [.ref o, .int (nI a1), .int (nI 1), .int (z1221), .int (nI (k1197 + 1)), .retAddr 0] ⟨Or.inl rfl, Or.inl rfl, Or.inl rfl, Or.inl rfl, Or.inl rfl, Or.inr ⟨0, rfl⟩, trivial⟩ ?_
              exact ihl1196 (k1197 + 1) (z1221) h (by omega) hok
            ·
              refine q_iload dX5_tickRecord_102 rfl ?_
              refine q_iconst (v := nI 1) dX5_tickRecord_104 rfl ?_
              refine q_isub dX5_tickRecord_105 ?_
              generalize (x1216) - (nI 1) = z1223
              refine q_goto (tgt := 110) dX5_tickRecord_106 (by decide) ?_
              refine t_iast dX5_tickRecord_110 hok (mG_a9 (ml := ml) (th := th) (s := s) hB) (by exact vp_in_nI (by omega) (by omega)) (fun h hok => ?_)
              refine t_iinc_n [.ref o, .int (nI a1), .int (nI 1), .int (z1221), .int (nI (k1197 + 1)), .int (x1216)] dX5_tickRecord_111 rfl (by decide) rfl ?_
              refine q_goto (tgt := 48) dX5_tickRecord_114 (by decide) ?_
              refine q_weak [.ref o, .int (nI a1), .int (nI 1), .int (z1221), .int (nI (k1197 + 1)), .retAddr 0] ⟨Or.inl rfl, Or.inl rfl, Or.inl rfl, Or.inl rfl, Or.inl rfl, Or.inr ⟨0, rfl⟩, trivial⟩ ?_
              exact ihl1196 (k1197 + 1) (z1221) h (by omega) hok
      exact hl1196 (16) 0 (nI 0) h (by omega) hok
    ·
      refine q_aload_n dX5_tickRecord_30 rfl ?_
      refine t_getr 9 kX5 (by decide) wPX5_31 dX5_tickRecord_31 hok mG_o rfl ?_
      refine q_iload_n dX5_tickRecord_34 rfl ?_
      refine t_iald dX5_tickRecord_35 hok (mG_a7 (ml := ml) (th := th) (s := s) hB) (by exact vp_in_nI (by omega) (by omega)) (fun x1224 => ?_)
      refine q_iconst (v := nI 1) dX5_tickRecord_36 rfl ?_
      refine q_isub dX5_tickRecord_37 ?_
      generalize (x1224) - (nI 1) = z1225
      refine q_goto (tgt := 42) dX5_tickRecord_38 (by decide) ?_
      refine t_iast dX5_tickRecord_42 hok (mG_a7 (ml := ml) (th := th) (s := s) hB) (by exact vp_in_nI (by omega) (by omega)) (fun h hok => ?_)
      refine q_iconst (v := nI 0) dX5_tickRecord_43 rfl ?_
      refine t_istore [.ref o, .int (nI a1), .int (nI 1), .int (nI 0), .retAddr 0, .retAddr 0] (Or.inl ⟨3, rfl, rfl, dX5_tickRecord_44⟩) (by decide) rfl ?_
      refine q_iconst (v := nI 0) dX5_tickRecord_45 rfl ?_
      refine t_istore [.ref o, .int (nI a1), .int (nI 1), .int (nI 0), .int (nI 0), .retAddr 0] (Or.inr ⟨rfl, dX5_tickRecord_46⟩) (by decide) rfl ?_
      have hl1226 : ∀ (d1228 k1227 : Nat) (x1229 : Int32) (h : q_H), k1227 + d1228 = 16 → q_ok (mG Γ o ml (th) (s)) h → q_A Sc mX5_tickRecord 48 [.ref o, .int (nI a1), .int (nI 1), .int (x1229), .int (nI k1227), .retAddr 0] [] h n 0 0 (fun O h' n' => ∃ th' s', (fun O th' s' => q_RV O ∧ th' = th ∧ s' = s) O th' s' ∧ q_ok (mG Γ o ml th' s') h' ∧ n' = n) := by
        intro d1228
        induction d1228 with
        | zero =>
          intro k1227 x1229 h el1226 hok
          refine q_iload dX5_tickRecord_48 rfl ?_
          refine q_bipush (v := nI 16) dX5_tickRecord_50 rfl ?_
          refine t_icmp_ge_n (tgt := 117) (by omega) (by omega) dX5_tickRecord_52 (by decide) (fun c1230 => ?_) (fun c1230 => ?_)
          rotate_left
          · exact absurd c1230 (by omega)
          refine q_aload_n dX5_tickRecord_117 rfl ?_
          refine t_getr 8 kX5 (by decide) wPX5_28 dX5_tickRecord_118 hok mG_o rfl ?_
          refine q_iload_n dX5_tickRecord_121 rfl ?_
          refine t_iald dX5_tickRecord_122 hok (mG_a6 (ml := ml) (th := th) (s := s) hB) (by exact vp_in_nI (by omega) (by omega)) (fun x1231 => ?_)
          refine q_iconst (v := -1) dX5_tickRecord_123 rfl ?_
          refine q_icmp_ne (tgt := 128) dX5_tickRecord_124 (by decide) (fun c1232 => ?_) (fun c1232 => ?_)
          ·
            refine q_aload_n dX5_tickRecord_128 rfl ?_
            refine q_iload_n dX5_tickRecord_129 rfl ?_
            refine q_iconst (v := nI 1) dX5_tickRecord_130 rfl ?_
            refine t_callM (M' := mX5_setOf) [.int (nI a1), .int (nI 1)] [] dX5_tickRecord_131 wPX5_90v wIX5_setOf wSX5_setOf iX5_setOf oX5_setOf rfl hok (sX5_setOf Sc Γ n o ml (th) (s) hB hml (a1) (by omega) (nI 1)) (Nat.le_of_ble_eq_true rfl) (Nat.le_of_ble_eq_true rfl) (Nat.le_of_ble_eq_true rfl) rfl (fun _ _ _ q => by obtain ⟨q, _⟩ := q; obtain ⟨_, q⟩ := q; cases q) (fun v1233 h thv1233 sv1233 qv1233 hok => ?_)
            obtain ⟨qv1233, etv1233, esv1233⟩ := qv1233
            rw [etv1233, esv1233] at hok
            obtain ⟨x1234, qx1234⟩ := qv1233
            obtain rfl := Sum.inl.inj qx1234
            refine t_istore [.ref o, .int (nI a1), .int (nI 1), .int (x1229), .int (x1234), .retAddr 0] (Or.inr ⟨rfl, dX5_tickRecord_134⟩) (by decide) rfl ?_
            refine q_aload_n dX5_tickRecord_136 rfl ?_
            refine q_iload_n dX5_tickRecord_137 rfl ?_
            refine q_iconst (v := nI 2) dX5_tickRecord_138 rfl ?_
            refine t_callM (M' := mX5_setOf) [.int (nI a1), .int (nI 2)] [] dX5_tickRecord_139 wPX5_90v wIX5_setOf wSX5_setOf iX5_setOf oX5_setOf rfl hok (sX5_setOf Sc Γ n o ml (th) (s) hB hml (a1) (by omega) (nI 2)) (Nat.le_of_ble_eq_true rfl) (Nat.le_of_ble_eq_true rfl) (Nat.le_of_ble_eq_true rfl) rfl (fun _ _ _ q => by obtain ⟨q, _⟩ := q; obtain ⟨_, q⟩ := q; cases q) (fun v1235 h thv1235 sv1235 qv1235 hok => ?_)
            obtain ⟨qv1235, etv1235, esv1235⟩ := qv1235
            rw [etv1235, esv1235] at hok
            obtain ⟨x1236, qx1236⟩ := qv1235
            obtain rfl := Sum.inl.inj qx1236
            refine t_istore [.ref o, .int (nI a1), .int (nI 1), .int (x1229), .int (x1234), .int (x1236)] (Or.inr ⟨rfl, dX5_tickRecord_142⟩) (by decide) rfl ?_
            refine q_aload_n dX5_tickRecord_144 rfl ?_
            refine t_getr 8 kX5 (by decide) wPX5_28 dX5_tickRecord_145 hok mG_o rfl ?_
            refine q_iload_n dX5_tickRecord_148 rfl ?_
            refine t_iald dX5_tickRecord_149 hok (mG_a6 (ml := ml) (th := th) (s := s) hB) (by exact vp_in_nI (by omega) (by omega)) (fun x1237 => ?_)
            refine q_iconst (v := nI 1) dX5_tickRecord_150 rfl ?_
            refine q_icmp_ne (tgt := 177) dX5_tickRecord_151 (by decide) (fun c1238 => ?_) (fun c1238 => ?_)
            ·
              refine q_aload_n dX5_tickRecord_177 rfl ?_
              refine q_iload_n dX5_tickRecord_178 rfl ?_
              refine q_iconst (v := nI 0) dX5_tickRecord_179 rfl ?_
              refine q_iload dX5_tickRecord_180 rfl ?_
              refine q_iload_n dX5_tickRecord_182 rfl ?_
              refine q_iconst (v := -1) dX5_tickRecord_183 rfl ?_
              refine q_ixor dX5_tickRecord_184 ?_
              generalize (x1229) ^^^ (-1) = z1239
              refine q_iand dX5_tickRecord_185 ?_
              generalize (x1234) &&& (z1239) = z1240
              refine q_iconst (v := nI 0) dX5_tickRecord_186 rfl ?_
              refine t_callM (M' := mX5_become) [.int (nI a1), .int (nI 0), .int (z1240), .int (nI 0)] [] dX5_tickRecord_187 wPX5_94v wIX5_become wSX5_become iX5_become oX5_become rfl hok (sX5_become Sc Γ n o ml (th) (s) hB hml (a1) (by omega) (nI 0) (z1240) (nI 0)) (Nat.le_of_ble_eq_true rfl) (Nat.le_of_ble_eq_true rfl) (Nat.le_of_ble_eq_true rfl) rfl (fun _ _ _ q => by obtain ⟨q, _⟩ := q; cases q) (fun v1241 h thv1241 sv1241 qv1241 hok => ?_)
              obtain ⟨qv1241, etv1241, esv1241⟩ := qv1241
              rw [etv1241, esv1241] at hok
              obtain rfl := Sum.inl.inj qv1241
              exact q_vret dX5_tickRecord_190 rfl ⟨th, s, ⟨rfl, rfl, rfl⟩, hok, rfl⟩
            ·
              refine q_iload_n dX5_tickRecord_154 rfl ?_
              refine q_if_ne (tgt := 177) dX5_tickRecord_155 (by decide) (fun _ => ?_) (fun q => absurd q (by decide))
              refine q_aload_n dX5_tickRecord_177 rfl ?_
              refine q_iload_n dX5_tickRecord_178 rfl ?_
              refine q_iconst (v := nI 0) dX5_tickRecord_179 rfl ?_
              refine q_iload dX5_tickRecord_180 rfl ?_
              refine q_iload_n dX5_tickRecord_182 rfl ?_
              refine q_iconst (v := -1) dX5_tickRecord_183 rfl ?_
              refine q_ixor dX5_tickRecord_184 ?_
              generalize (x1229) ^^^ (-1) = z1242
              refine q_iand dX5_tickRecord_185 ?_
              generalize (x1234) &&& (z1242) = z1243
              refine q_iconst (v := nI 0) dX5_tickRecord_186 rfl ?_
              refine t_callM (M' := mX5_become) [.int (nI a1), .int (nI 0), .int (z1243), .int (nI 0)] [] dX5_tickRecord_187 wPX5_94v wIX5_become wSX5_become iX5_become oX5_become rfl hok (sX5_become Sc Γ n o ml (th) (s) hB hml (a1) (by omega) (nI 0) (z1243) (nI 0)) (Nat.le_of_ble_eq_true rfl) (Nat.le_of_ble_eq_true rfl) (Nat.le_of_ble_eq_true rfl) rfl (fun _ _ _ q => by obtain ⟨q, _⟩ := q; cases q) (fun v1244 h thv1244 sv1244 qv1244 hok => ?_)
              obtain ⟨qv1244, etv1244, esv1244⟩ := qv1244
              rw [etv1244, esv1244] at hok
              obtain rfl := Sum.inl.inj qv1244
              exact q_vret dX5_tickRecord_190 rfl ⟨th, s, ⟨rfl, rfl, rfl⟩, hok, rfl⟩
          ·
            exact q_vret dX5_tickRecord_127 rfl ⟨th, s, ⟨rfl, rfl, rfl⟩, hok, rfl⟩
        | succ d1228 ihl1226 =>
          intro k1227 x1229 h el1226 hok
          refine q_iload dX5_tickRecord_48 rfl ?_
          refine q_bipush (v := nI 16) dX5_tickRecord_50 rfl ?_
          refine t_icmp_ge_n (tgt := 117) (by omega) (by omega) dX5_tickRecord_52 (by decide) (fun c1245 => ?_) (fun c1245 => ?_)
          · exact absurd c1245 (by omega)
          refine q_aload_n dX5_tickRecord_55 rfl ?_
          refine t_getr 11 kX5 (by decide) wPX5_37 dX5_tickRecord_56 hok mG_o rfl ?_
          refine q_bipush (v := nI 16) dX5_tickRecord_59 rfl ?_
          refine q_iload_n dX5_tickRecord_61 rfl ?_
          refine t_imul_n dX5_tickRecord_62 ?_
          refine q_iload dX5_tickRecord_63 rfl ?_
          refine t_iadd_n dX5_tickRecord_65 ?_
          refine t_iald dX5_tickRecord_66 hok (mG_a9 (ml := ml) (th := th) (s := s) hB) (by exact vp_in_nI (by omega) (by omega)) (fun x1246 => ?_)
          refine t_istore [.ref o, .int (nI a1), .int (nI 1), .int (x1229), .int (nI k1227), .int (x1246)] (Or.inr ⟨rfl, dX5_tickRecord_67⟩) (by decide) rfl ?_
          refine q_iload dX5_tickRecord_69 rfl ?_
          refine q_iconst (v := nI 1) dX5_tickRecord_71 rfl ?_
          refine q_icmp_ne (tgt := 84) dX5_tickRecord_72 (by decide) (fun c1247 => ?_) (fun c1247 => ?_)
          ·
            refine q_iload_n dX5_tickRecord_84 rfl ?_
            refine t_istore [.ref o, .int (nI a1), .int (nI 1), .int (x1229), .int (nI k1227), .int (x1246)] (Or.inl ⟨3, rfl, rfl, dX5_tickRecord_85⟩) (by decide) rfl ?_
            refine q_aload_n dX5_tickRecord_86 rfl ?_
            refine t_getr 11 kX5 (by decide) wPX5_37 dX5_tickRecord_87 hok mG_o rfl ?_
            refine q_bipush (v := nI 16) dX5_tickRecord_90 rfl ?_
            refine q_iload_n dX5_tickRecord_92 rfl ?_
            refine t_imul_n dX5_tickRecord_93 ?_
            refine q_iload dX5_tickRecord_94 rfl ?_
            refine t_iadd_n dX5_tickRecord_96 ?_
            refine q_iload dX5_tickRecord_97 rfl ?_
            refine q_if_le (tgt := 109) dX5_tickRecord_99 (by decide) (fun c1248 => ?_) (fun c1248 => ?_)
            ·
              refine q_iconst (v := nI 0) dX5_tickRecord_109 rfl ?_
              refine t_iast dX5_tickRecord_110 hok (mG_a9 (ml := ml) (th := th) (s := s) hB) (by exact vp_in_nI (by omega) (by omega)) (fun h hok => ?_)
              refine t_iinc_n [.ref o, .int (nI a1), .int (nI 1), .int (x1229), .int (nI (k1227 + 1)), .int (x1246)] dX5_tickRecord_111 rfl (by decide) rfl ?_
              refine q_goto (tgt := 48) dX5_tickRecord_114 (by decide) ?_
              refine q_weak [.ref o, .int (nI a1), .int (nI 1), .int (x1229), .int (nI (k1227 + 1)), .retAddr 0] ⟨Or.inl rfl, Or.inl rfl, Or.inl rfl, Or.inl rfl, Or.inl rfl, Or.inr ⟨0, rfl⟩, trivial⟩ ?_
              exact ihl1226 (k1227 + 1) (x1229) h (by omega) hok
            ·
              refine q_iload dX5_tickRecord_102 rfl ?_
              refine q_iconst (v := nI 1) dX5_tickRecord_104 rfl ?_
              refine q_isub dX5_tickRecord_105 ?_
              generalize (x1246) - (nI 1) = z1249
              refine q_goto (tgt := 110) dX5_tickRecord_106 (by decide) ?_
              refine t_iast dX5_tickRecord_110 hok (mG_a9 (ml := ml) (th := th) (s := s) hB) (by exact vp_in_nI (by omega) (by omega)) (fun h hok => ?_)
              refine t_iinc_n [.ref o, .int (nI a1), .int (nI 1), .int (x1229), .int (nI (k1227 + 1)), .int (x1246)] dX5_tickRecord_111 rfl (by decide) rfl ?_
              refine q_goto (tgt := 48) dX5_tickRecord_114 (by decide) ?_
              refine q_weak [.ref o, .int (nI a1), .int (nI 1), .int (x1229), .int (nI (k1227 + 1)), .retAddr 0] ⟨Or.inl rfl, Or.inl rfl, Or.inl rfl, Or.inl rfl, Or.inl rfl, Or.inr ⟨0, rfl⟩, trivial⟩ ?_
              exact ihl1226 (k1227 + 1) (x1229) h (by omega) hok
          ·
            refine q_iload_n dX5_tickRecord_75 rfl ?_
            refine q_iconst (v := nI 1) dX5_tickRecord_76 rfl ?_
            refine q_iload dX5_tickRecord_77 rfl ?_
            refine q_ishl dX5_tickRecord_79 ?_
            generalize (nI 1) <<< ((nI k1227) &&& 31) = z1250
            refine q_iadd dX5_tickRecord_80 ?_
            generalize (x1229) + (z1250) = z1251
            refine q_goto (tgt := 85) dX5_tickRecord_81 (by decide) ?_
            refine t_istore [.ref o, .int (nI a1), .int (nI 1), .int (z1251), .int (nI k1227), .int (x1246)] (Or.inl ⟨3, rfl, rfl, dX5_tickRecord_85⟩) (by decide) rfl ?_
            refine q_aload_n dX5_tickRecord_86 rfl ?_
            refine t_getr 11 kX5 (by decide) wPX5_37 dX5_tickRecord_87 hok mG_o rfl ?_
            refine q_bipush (v := nI 16) dX5_tickRecord_90 rfl ?_
            refine q_iload_n dX5_tickRecord_92 rfl ?_
            refine t_imul_n dX5_tickRecord_93 ?_
            refine q_iload dX5_tickRecord_94 rfl ?_
            refine t_iadd_n dX5_tickRecord_96 ?_
            refine q_iload dX5_tickRecord_97 rfl ?_
            refine q_if_le (tgt := 109) dX5_tickRecord_99 (by decide) (fun c1252 => ?_) (fun c1252 => ?_)
            ·
              refine q_iconst (v := nI 0) dX5_tickRecord_109 rfl ?_
              refine t_iast dX5_tickRecord_110 hok (mG_a9 (ml := ml) (th := th) (s := s) hB) (by exact vp_in_nI (by omega) (by omega)) (fun h hok => ?_)
              refine t_iinc_n [.ref o, .int (nI a1), .int (nI 1), .int (z1251), .int (nI (k1227 + 1)), .int (x1246)] dX5_tickRecord_111 rfl (by decide) rfl ?_
              refine q_goto (tgt := 48) dX5_tickRecord_114 (by decide) ?_
              refine q_weak [.ref o, .int (nI a1), .int (nI 1), .int (z1251), .int (nI (k1227 + 1)), .retAddr 0] ⟨Or.inl rfl, Or.inl rfl, Or.inl rfl, Or.inl rfl, Or.inl rfl, Or.inr ⟨0, rfl⟩, trivial⟩ ?_
              exact ihl1226 (k1227 + 1) (z1251) h (by omega) hok
            ·
              refine q_iload dX5_tickRecord_102 rfl ?_
              refine q_iconst (v := nI 1) dX5_tickRecord_104 rfl ?_
              refine q_isub dX5_tickRecord_105 ?_
              generalize (x1246) - (nI 1) = z1253
              refine q_goto (tgt := 110) dX5_tickRecord_106 (by decide) ?_
              refine t_iast dX5_tickRecord_110 hok (mG_a9 (ml := ml) (th := th) (s := s) hB) (by exact vp_in_nI (by omega) (by omega)) (fun h hok => ?_)
              refine t_iinc_n [.ref o, .int (nI a1), .int (nI 1), .int (z1251), .int (nI (k1227 + 1)), .int (x1246)] dX5_tickRecord_111 rfl (by decide) rfl ?_
              refine q_goto (tgt := 48) dX5_tickRecord_114 (by decide) ?_
              refine q_weak [.ref o, .int (nI a1), .int (nI 1), .int (z1251), .int (nI (k1227 + 1)), .retAddr 0] ⟨Or.inl rfl, Or.inl rfl, Or.inl rfl, Or.inl rfl, Or.inl rfl, Or.inr ⟨0, rfl⟩, trivial⟩ ?_
              exact ihl1226 (k1227 + 1) (z1251) h (by omega) hok
      exact hl1226 (16) 0 (nI 0) h (by omega) hok
set_option maxRecDepth 20000 in
set_option maxHeartbeats 4000000 in
theorem sX5_tickLink (Sc : q_S) (Γ : Nat → q_K) (n o ml th s : Nat) (hB : mB Γ o) (hml : ml ≤ 4) (hs : s ≤ 1900000000) (a1 : Nat) (b1 : a1 < 4) : q_mod Sc Γ o ml mX5_tickLink [.ref o, .int (nI a1)] n th s (fun O th' s' => q_RB O ∧ th' = th ∧ s' ≤ s + 1) := by
  intro h hok
  show q_A Sc mX5_tickLink 0 [.ref o, .int (nI a1)] [] h n 0 0 (fun O h' n' => ∃ th' s', (fun O th' s' => q_RB O ∧ th' = th ∧ s' ≤ s + 1) O th' s' ∧ q_ok (mG Γ o ml th' s') h' ∧ n' = n)
  refine q_aload_n dX5_tickLink_0 rfl ?_
  refine t_getr 6 kX5 (by decide) wPX5_22 dX5_tickLink_1 hok mG_o rfl ?_
  refine q_iload_n dX5_tickLink_4 rfl ?_
  refine t_iald dX5_tickLink_5 hok (mG_a4 (ml := ml) (th := th) (s := s) hB) (by exact vp_in_nI (by omega) (by omega)) (fun x1255 => ?_)
  refine q_if_le (tgt := 51) dX5_tickLink_6 (by decide) (fun c1256 => ?_) (fun c1256 => ?_)
  ·
    refine q_aload_n dX5_tickLink_51 rfl ?_
    refine t_getr 7 kX5 (by decide) wPX5_25 dX5_tickLink_52 hok mG_o rfl ?_
    refine q_iload_n dX5_tickLink_55 rfl ?_
    refine q_dup2 dX5_tickLink_56 rfl rfl ?_
    refine t_iald dX5_tickLink_57 hok (mG_a5 (ml := ml) (th := th) (s := s) hB) (by exact vp_in_nI (by omega) (by omega)) (fun x1257 => ?_)
    refine q_iconst (v := nI 1) dX5_tickLink_58 rfl ?_
    refine q_isub dX5_tickLink_59 ?_
    generalize (x1257) - (nI 1) = z1258
    refine t_iast dX5_tickLink_60 hok (mG_a5 (ml := ml) (th := th) (s := s) hB) (by exact vp_in_nI (by omega) (by omega)) (fun h hok => ?_)
    refine q_aload_n dX5_tickLink_61 rfl ?_
    refine t_getr 7 kX5 (by decide) wPX5_25 dX5_tickLink_62 hok mG_o rfl ?_
    refine q_iload_n dX5_tickLink_65 rfl ?_
    refine t_iald dX5_tickLink_66 hok (mG_a5 (ml := ml) (th := th) (s := s) hB) (by exact vp_in_nI (by omega) (by omega)) (fun x1259 => ?_)
    refine q_if_le (tgt := 72) dX5_tickLink_67 (by decide) (fun c1260 => ?_) (fun c1260 => ?_)
    ·
      refine q_aload_n dX5_tickLink_72 rfl ?_
      refine t_getr 7 kX5 (by decide) wPX5_25 dX5_tickLink_73 hok mG_o rfl ?_
      refine q_iload_n dX5_tickLink_76 rfl ?_
      refine q_aload_n dX5_tickLink_77 rfl ?_
      refine t_getr 3 kX5 (by decide) wPX5_13 dX5_tickLink_78 hok mG_o rfl ?_
      refine q_iload_n dX5_tickLink_81 rfl ?_
      refine t_iald dX5_tickLink_82 hok (mG_a1 (ml := ml) (th := th) (s := s) hB) (by exact vp_in_nI (by omega) (by omega)) (fun x1261 => ?_)
      refine t_iast dX5_tickLink_83 hok (mG_a5 (ml := ml) (th := th) (s := s) hB) (by exact vp_in_nI (by omega) (by omega)) (fun h hok => ?_)
      refine q_aload_n dX5_tickLink_84 rfl ?_
      refine q_iload_n dX5_tickLink_85 rfl ?_
      refine q_iconst (v := -1) dX5_tickLink_86 rfl ?_
      refine q_iconst (v := nI 0) dX5_tickLink_87 rfl ?_
      refine t_callM (M' := mX5_send) [.int (nI a1), .int (-1), .int (nI 0)] [] dX5_tickLink_88 wPX5_79v wIX5_send wSX5_send iX5_send oX5_send rfl hok (sX5_send Sc Γ n o ml (th) (s) hB hml (by omega) (nI a1) (-1) (nI 0)) (Nat.le_of_ble_eq_true rfl) (Nat.le_of_ble_eq_true rfl) (Nat.le_of_ble_eq_true rfl) rfl (fun _ _ _ q => by obtain ⟨q, _⟩ := q; cases q) (fun v1262 h thv1262 sv1262 qv1262 hok => ?_)
      obtain ⟨qv1262, etv1262, hsv1262⟩ := qv1262
      rw [etv1262] at hok
      obtain rfl := Sum.inl.inj qv1262
      refine q_iconst (v := nI 1) dX5_tickLink_91 rfl ?_
      exact q_iret dX5_tickLink_92 rfl (rfl) ⟨th, sv1262, ⟨⟨_, rfl, Or.inr rfl⟩, rfl, by omega⟩, hok, rfl⟩
    ·
      refine q_iconst (v := nI 0) dX5_tickLink_70 rfl ?_
      exact q_iret dX5_tickLink_71 rfl (rfl) ⟨th, s, ⟨⟨_, rfl, Or.inl rfl⟩, rfl, by omega⟩, hok, rfl⟩
  ·
    refine q_aload_n dX5_tickLink_9 rfl ?_
    refine t_getr 6 kX5 (by decide) wPX5_22 dX5_tickLink_10 hok mG_o rfl ?_
    refine q_iload_n dX5_tickLink_13 rfl ?_
    refine q_dup2 dX5_tickLink_14 rfl rfl ?_
    refine t_iald dX5_tickLink_15 hok (mG_a4 (ml := ml) (th := th) (s := s) hB) (by exact vp_in_nI (by omega) (by omega)) (fun x1263 => ?_)
    refine q_iconst (v := nI 1) dX5_tickLink_16 rfl ?_
    refine q_isub dX5_tickLink_17 ?_
    generalize (x1263) - (nI 1) = z1264
    refine t_iast dX5_tickLink_18 hok (mG_a4 (ml := ml) (th := th) (s := s) hB) (by exact vp_in_nI (by omega) (by omega)) (fun h hok => ?_)
    refine q_aload_n dX5_tickLink_19 rfl ?_
    refine t_getr 6 kX5 (by decide) wPX5_22 dX5_tickLink_20 hok mG_o rfl ?_
    refine q_iload_n dX5_tickLink_23 rfl ?_
    refine t_iald dX5_tickLink_24 hok (mG_a4 (ml := ml) (th := th) (s := s) hB) (by exact vp_in_nI (by omega) (by omega)) (fun x1265 => ?_)
    refine q_if_ne (tgt := 49) dX5_tickLink_25 (by decide) (fun c1266 => ?_) (fun c1266 => ?_)
    ·
      refine q_iconst (v := nI 0) dX5_tickLink_49 rfl ?_
      exact q_iret dX5_tickLink_50 rfl (rfl) ⟨th, s, ⟨⟨_, rfl, Or.inl rfl⟩, rfl, by omega⟩, hok, rfl⟩
    ·
      refine q_aload_n dX5_tickLink_28 rfl ?_
      refine t_getr 5 kX5 (by decide) wPX5_19 dX5_tickLink_29 hok mG_o rfl ?_
      refine q_iload_n dX5_tickLink_32 rfl ?_
      refine q_sipush (v := nI 500) dX5_tickLink_33 rfl ?_
      refine t_iast dX5_tickLink_36 hok (mG_a3 (ml := ml) (th := th) (s := s) hB) (by exact vp_in_nI (by omega) (by omega)) (fun h hok => ?_)
      refine q_aload_n dX5_tickLink_37 rfl ?_
      refine t_getr 7 kX5 (by decide) wPX5_25 dX5_tickLink_38 hok mG_o rfl ?_
      refine q_iload_n dX5_tickLink_41 rfl ?_
      refine q_aload_n dX5_tickLink_42 rfl ?_
      refine t_getr 3 kX5 (by decide) wPX5_13 dX5_tickLink_43 hok mG_o rfl ?_
      refine q_iload_n dX5_tickLink_46 rfl ?_
      refine t_iald dX5_tickLink_47 hok (mG_a1 (ml := ml) (th := th) (s := s) hB) (by exact vp_in_nI (by omega) (by omega)) (fun x1267 => ?_)
      refine t_iast dX5_tickLink_48 hok (mG_a5 (ml := ml) (th := th) (s := s) hB) (by exact vp_in_nI (by omega) (by omega)) (fun h hok => ?_)
      refine q_iconst (v := nI 0) dX5_tickLink_49 rfl ?_
      exact q_iret dX5_tickLink_50 rfl (rfl) ⟨th, s, ⟨⟨_, rfl, Or.inl rfl⟩, rfl, by omega⟩, hok, rfl⟩
set_option maxRecDepth 20000 in
set_option maxHeartbeats 4000000 in
theorem sX5_report (Sc : q_S) (Γ : Nat → q_K) (n o ml th s : Nat) (hB : mB Γ o) (hml : ml ≤ 4) (hs : s ≤ 1600000000) (a1 : Int32) (a2 : Int32) (a3 : Int32) (a4 : Int32) : q_mod Sc Γ o ml mX5_report [.ref o, .int (a1), .int (a2), .int (a3), .int (a4)] n th s (fun O th' s' => q_RI O ∧ s' ≤ s + 2) := by
  intro h hok
  show q_A Sc mX5_report 0 [.ref o, .int (a1), .int (a2), .int (a3), .int (a4)] [] h n 0 0 (fun O h' n' => ∃ th' s', (fun O th' s' => q_RI O ∧ s' ≤ s + 2) O th' s' ∧ q_ok (mG Γ o ml th' s') h' ∧ n' = n)
  refine q_aload_n dX5_report_0 rfl ?_
  refine q_aload_n dX5_report_1 rfl ?_
  refine q_iload_n dX5_report_2 rfl ?_
  refine t_callM (M' := mX5_isLink) [.int (a1)] [.ref o] dX5_report_3 wPX5_117v wIX5_isLink wSX5_isLink iX5_isLink oX5_isLink rfl hok (sX5_isLink Sc Γ n o ml (th) (s) hB hml (a1)) (Nat.le_of_ble_eq_true rfl) (Nat.le_of_ble_eq_true rfl) (Nat.le_of_ble_eq_true rfl) rfl (fun _ _ _ q => by obtain ⟨⟨_, q, _⟩, _⟩ := q; cases q) (fun v1269 h thv1269 sv1269 qv1269 hok => ?_)
  obtain ⟨⟨x1270, qx1270, hx1270⟩, etv1269, esv1269⟩ := qv1269
  rw [etv1269, esv1269] at hok
  obtain rfl := Sum.inl.inj qx1270
  rcases hx1270 with ⟨rfl, j1271, hj1271, rfl⟩ | rfl
  ·
    refine q_if_eq (tgt := 19) dX5_report_6 (by decide) (fun q => absurd q (by decide)) (fun _ => ?_)
    refine q_iload_n dX5_report_9 rfl ?_
    refine q_iconst (v := nI 0) dX5_report_10 rfl ?_
    refine q_bipush (v := nI 7) dX5_report_11 rfl ?_
    refine t_callS (M' := mX5_in) [.int (a2), .int (nI 0), .int (nI 7)] [.ref o] dX5_report_13 wPX5_120 wTX5_in wNX5 iX5_in oX5_in rfl hok (sX5_in Sc (mG Γ o ml (th) (s)) n (a2) (nI 0) (nI 7)) (Nat.le_of_ble_eq_true rfl) (Nat.le_of_ble_eq_true rfl) (Nat.le_of_ble_eq_true rfl) (Nat.le_of_ble_eq_true rfl) (Nat.le_of_ble_eq_true rfl) rfl (fun v1272 h qv1272 hok => ?_) (fun e1273 h qe1273 hok => absurd qe1273 (by intro q; obtain ⟨_, q, _⟩ := q; cases q))
    obtain ⟨x1274, qx1274, hx1274⟩ := qv1272
    obtain rfl := Sum.inl.inj qx1274
    rcases hx1274 with ⟨rfl, c1275a, c1275b⟩ | rfl
    ·
      obtain ⟨g1276, hg1276, rfl⟩ := q_chk2 (by omega) c1275a c1275b
      refine q_if_ne (tgt := 23) dX5_report_16 (by decide) (fun _ => ?_) (fun q => absurd q (by decide))
      refine q_iload_n dX5_report_23 rfl ?_
      refine q_iconst (v := nI 0) dX5_report_24 rfl ?_
      refine q_iconst (v := nI 5) dX5_report_25 rfl ?_
      refine t_callS (M' := mX5_in) [.int (a3), .int (nI 0), .int (nI 5)] [.ref o] dX5_report_26 wPX5_120 wTX5_in wNX5 iX5_in oX5_in rfl hok (sX5_in Sc (mG Γ o ml (th) (s)) n (a3) (nI 0) (nI 5)) (Nat.le_of_ble_eq_true rfl) (Nat.le_of_ble_eq_true rfl) (Nat.le_of_ble_eq_true rfl) (Nat.le_of_ble_eq_true rfl) (Nat.le_of_ble_eq_true rfl) rfl (fun v1277 h qv1277 hok => ?_) (fun e1278 h qe1278 hok => absurd qe1278 (by intro q; obtain ⟨_, q, _⟩ := q; cases q))
      obtain ⟨x1279, qx1279, hx1279⟩ := qv1277
      obtain rfl := Sum.inl.inj qx1279
      rcases hx1279 with ⟨rfl, c1280a, c1280b⟩ | rfl
      ·
        obtain ⟨g1281, hg1281, rfl⟩ := q_chk2 (by omega) c1280a c1280b
        refine q_if_eq (tgt := 47) dX5_report_29 (by decide) (fun q => absurd q (by decide)) (fun _ => ?_)
        refine q_iload dX5_report_32 rfl ?_
        refine q_iconst (v := nI 0) dX5_report_34 rfl ?_
        refine q_ldc dX5_report_35 wPX5_124 ?_
        refine t_callS (M' := mX5_in) [.int (a4), .int (nI 0), .int (65535)] [.ref o] dX5_report_37 wPX5_120 wTX5_in wNX5 iX5_in oX5_in rfl hok (sX5_in Sc (mG Γ o ml (th) (s)) n (a4) (nI 0) (65535)) (Nat.le_of_ble_eq_true rfl) (Nat.le_of_ble_eq_true rfl) (Nat.le_of_ble_eq_true rfl) (Nat.le_of_ble_eq_true rfl) (Nat.le_of_ble_eq_true rfl) rfl (fun v1282 h qv1282 hok => ?_) (fun e1283 h qe1283 hok => absurd qe1283 (by intro q; obtain ⟨_, q, _⟩ := q; cases q))
        obtain ⟨x1284, qx1284, hx1284⟩ := qv1282
        obtain rfl := Sum.inl.inj qx1284
        rcases hx1284 with ⟨rfl, c1285a, c1285b⟩ | rfl
        ·
          refine q_if_eq (tgt := 47) dX5_report_40 (by decide) (fun q => absurd q (by decide)) (fun _ => ?_)
          refine q_iconst (v := nI 0) dX5_report_43 rfl ?_
          refine q_goto (tgt := 48) dX5_report_44 (by decide) ?_
          refine t_putc 0 (z' := 0) kX5 (by decide) wPX5_66 rfl dX5_report_48 hok mG_o rfl ⟨rfl, rfl⟩ (fun h hok => ?_)
          replace hok := mG_setT hok
          refine q_aload_n dX5_report_51 rfl ?_
          refine t_getc 0 kX5 (by decide) wPX5_66 dX5_report_52 hok mG_o rfl ?_
          refine q_if_le (tgt := 62) dX5_report_55 (by decide) (fun _ => ?_) (fun q => absurd q (by decide))
          refine q_aload_n dX5_report_62 rfl ?_
          refine q_iload_n dX5_report_63 rfl ?_
          refine q_iload_n dX5_report_64 rfl ?_
          refine q_iload_n dX5_report_65 rfl ?_
          refine q_iload dX5_report_66 rfl ?_
          refine t_callM (M' := mX5_reported) [.int (nI j1271), .int (nI g1276), .int (nI g1281), .int (a4)] [] dX5_report_68 wPX5_125v wIX5_reported wSX5_reported iX5_reported oX5_reported rfl hok (sX5_reported Sc Γ n o ml (0) (s) hB hml (by omega) (j1271) (by omega) (g1276) (by omega) (nI g1281) (a4)) (Nat.le_of_ble_eq_true rfl) (Nat.le_of_ble_eq_true rfl) (Nat.le_of_ble_eq_true rfl) rfl (fun _ _ _ q => by obtain ⟨q, _⟩ := q; obtain ⟨_, q⟩ := q; cases q) (fun v1286 h thv1286 sv1286 qv1286 hok => ?_)
          obtain ⟨qv1286, etv1286, hsv1286⟩ := qv1286
          rw [etv1286] at hok
          obtain ⟨x1287, qx1287⟩ := qv1286
          obtain rfl := Sum.inl.inj qx1287
          exact q_iret dX5_report_71 rfl (rfl) ⟨0, sv1286, ⟨⟨_, rfl⟩, by omega⟩, hok, rfl⟩
        ·
          refine q_if_eq (tgt := 47) dX5_report_40 (by decide) (fun _ => ?_) (fun q => absurd q (by decide))
          refine q_iconst (v := nI 2) dX5_report_47 rfl ?_
          refine t_putc 0 (z' := 2) kX5 (by decide) wPX5_66 rfl dX5_report_48 hok mG_o rfl ⟨rfl, rfl⟩ (fun h hok => ?_)
          replace hok := mG_setT hok
          refine q_aload_n dX5_report_51 rfl ?_
          refine t_getc 0 kX5 (by decide) wPX5_66 dX5_report_52 hok mG_o rfl ?_
          refine q_if_le (tgt := 62) dX5_report_55 (by decide) (fun q => absurd q (by decide)) (fun _ => ?_)
          refine q_iconst (v := nI 0) dX5_report_58 rfl ?_
          refine q_goto (tgt := 71) dX5_report_59 (by decide) ?_
          exact q_iret dX5_report_71 rfl (rfl) ⟨2, s, ⟨⟨_, rfl⟩, by omega⟩, hok, rfl⟩
      ·
        refine q_if_eq (tgt := 47) dX5_report_29 (by decide) (fun _ => ?_) (fun q => absurd q (by decide))
        refine q_iconst (v := nI 2) dX5_report_47 rfl ?_
        refine t_putc 0 (z' := 2) kX5 (by decide) wPX5_66 rfl dX5_report_48 hok mG_o rfl ⟨rfl, rfl⟩ (fun h hok => ?_)
        replace hok := mG_setT hok
        refine q_aload_n dX5_report_51 rfl ?_
        refine t_getc 0 kX5 (by decide) wPX5_66 dX5_report_52 hok mG_o rfl ?_
        refine q_if_le (tgt := 62) dX5_report_55 (by decide) (fun q => absurd q (by decide)) (fun _ => ?_)
        refine q_iconst (v := nI 0) dX5_report_58 rfl ?_
        refine q_goto (tgt := 71) dX5_report_59 (by decide) ?_
        exact q_iret dX5_report_71 rfl (rfl) ⟨2, s, ⟨⟨_, rfl⟩, by omega⟩, hok, rfl⟩
    ·
      refine q_if_ne (tgt := 23) dX5_report_16 (by decide) (fun q => absurd q (by decide)) (fun _ => ?_)
      refine q_iconst (v := nI 1) dX5_report_19 rfl ?_
      refine q_goto (tgt := 48) dX5_report_20 (by decide) ?_
      refine t_putc 0 (z' := 1) kX5 (by decide) wPX5_66 rfl dX5_report_48 hok mG_o rfl ⟨rfl, rfl⟩ (fun h hok => ?_)
      replace hok := mG_setT hok
      refine q_aload_n dX5_report_51 rfl ?_
      refine t_getc 0 kX5 (by decide) wPX5_66 dX5_report_52 hok mG_o rfl ?_
      refine q_if_le (tgt := 62) dX5_report_55 (by decide) (fun q => absurd q (by decide)) (fun _ => ?_)
      refine q_iconst (v := nI 0) dX5_report_58 rfl ?_
      refine q_goto (tgt := 71) dX5_report_59 (by decide) ?_
      exact q_iret dX5_report_71 rfl (rfl) ⟨1, s, ⟨⟨_, rfl⟩, by omega⟩, hok, rfl⟩
  ·
    refine q_if_eq (tgt := 19) dX5_report_6 (by decide) (fun _ => ?_) (fun q => absurd q (by decide))
    refine q_iconst (v := nI 1) dX5_report_19 rfl ?_
    refine q_goto (tgt := 48) dX5_report_20 (by decide) ?_
    refine t_putc 0 (z' := 1) kX5 (by decide) wPX5_66 rfl dX5_report_48 hok mG_o rfl ⟨rfl, rfl⟩ (fun h hok => ?_)
    replace hok := mG_setT hok
    refine q_aload_n dX5_report_51 rfl ?_
    refine t_getc 0 kX5 (by decide) wPX5_66 dX5_report_52 hok mG_o rfl ?_
    refine q_if_le (tgt := 62) dX5_report_55 (by decide) (fun q => absurd q (by decide)) (fun _ => ?_)
    refine q_iconst (v := nI 0) dX5_report_58 rfl ?_
    refine q_goto (tgt := 71) dX5_report_59 (by decide) ?_
    exact q_iret dX5_report_71 rfl (rfl) ⟨1, s, ⟨⟨_, rfl⟩, by omega⟩, hok, rfl⟩
set_option maxRecDepth 20000 in
set_option maxHeartbeats 4000000 in
theorem sX5_query (Sc : q_S) (Γ : Nat → q_K) (n o ml th s : Nat) (hB : mB Γ o) (hml : ml ≤ 4) (hs : s ≤ 1600000000) (a1 : Int32) (a2 : Int32) (a3 : Int32) (a4 : Int32) (a5 : Int32) (b5 : q_bl a5) : q_mod Sc Γ o ml mX5_query [.ref o, .int (a1), .int (a2), .int (a3), .int (a4), .int (a5)] n th s (fun O th' s' => q_RB O ∧ s' ≤ s + 0) := by
  intro h hok
  show q_A Sc mX5_query 0 [.ref o, .int (a1), .int (a2), .int (a3), .int (a4), .int (a5)] [] h n 0 0 (fun O h' n' => ∃ th' s', (fun O th' s' => q_RB O ∧ s' ≤ s + 0) O th' s' ∧ q_ok (mG Γ o ml th' s') h' ∧ n' = n)
  refine q_aload_n dX5_query_0 rfl ?_
  refine q_aload_n dX5_query_1 rfl ?_
  refine q_iload_n dX5_query_2 rfl ?_
  refine t_callM (M' := mX5_isLink) [.int (a1)] [.ref o] dX5_query_3 wPX5_117v wIX5_isLink wSX5_isLink iX5_isLink oX5_isLink rfl hok (sX5_isLink Sc Γ n o ml (th) (s) hB hml (a1)) (Nat.le_of_ble_eq_true rfl) (Nat.le_of_ble_eq_true rfl) (Nat.le_of_ble_eq_true rfl) rfl (fun _ _ _ q => by obtain ⟨⟨_, q, _⟩, _⟩ := q; cases q) (fun v1289 h thv1289 sv1289 qv1289 hok => ?_)
  obtain ⟨⟨x1290, qx1290, hx1290⟩, etv1289, esv1289⟩ := qv1289
  rw [etv1289, esv1289] at hok
  obtain rfl := Sum.inl.inj qx1290
  rcases hx1290 with ⟨rfl, j1291, hj1291, rfl⟩ | rfl
  ·
    refine q_if_eq (tgt := 19) dX5_query_6 (by decide) (fun q => absurd q (by decide)) (fun _ => ?_)
    refine q_iload_n dX5_query_9 rfl ?_
    refine q_iconst (v := -1) dX5_query_10 rfl ?_
    refine q_bipush (v := nI 7) dX5_query_11 rfl ?_
    refine t_callS (M' := mX5_in) [.int (a3), .int (-1), .int (nI 7)] [.ref o] dX5_query_13 wPX5_120 wTX5_in wNX5 iX5_in oX5_in rfl hok (sX5_in Sc (mG Γ o ml (th) (s)) n (a3) (-1) (nI 7)) (Nat.le_of_ble_eq_true rfl) (Nat.le_of_ble_eq_true rfl) (Nat.le_of_ble_eq_true rfl) (Nat.le_of_ble_eq_true rfl) (Nat.le_of_ble_eq_true rfl) rfl (fun v1292 h qv1292 hok => ?_) (fun e1293 h qe1293 hok => absurd qe1293 (by intro q; obtain ⟨_, q, _⟩ := q; cases q))
    obtain ⟨x1294, qx1294, hx1294⟩ := qv1292
    obtain rfl := Sum.inl.inj qx1294
    rcases hx1294 with ⟨rfl, c1295a, c1295b⟩ | rfl
    ·
      rcases q_chkN c1295a c1295b with rfl | ⟨g1296, hg1296, rfl⟩
      ·
        refine q_if_ne (tgt := 23) dX5_query_16 (by decide) (fun _ => ?_) (fun q => absurd q (by decide))
        refine q_iload_n dX5_query_23 rfl ?_
        refine q_iconst (v := nI 0) dX5_query_24 rfl ?_
        refine q_sipush (v := nI 999) dX5_query_25 rfl ?_
        refine t_callS (M' := mX5_in) [.int (a2), .int (nI 0), .int (nI 999)] [.ref o] dX5_query_28 wPX5_120 wTX5_in wNX5 iX5_in oX5_in rfl hok (sX5_in Sc (mG Γ o ml (th) (s)) n (a2) (nI 0) (nI 999)) (Nat.le_of_ble_eq_true rfl) (Nat.le_of_ble_eq_true rfl) (Nat.le_of_ble_eq_true rfl) (Nat.le_of_ble_eq_true rfl) (Nat.le_of_ble_eq_true rfl) rfl (fun v1297 h qv1297 hok => ?_) (fun e1298 h qe1298 hok => absurd qe1298 (by intro q; obtain ⟨_, q, _⟩ := q; cases q))
        obtain ⟨x1299, qx1299, hx1299⟩ := qv1297
        obtain rfl := Sum.inl.inj qx1299
        rcases hx1299 with ⟨rfl, c1300a, c1300b⟩ | rfl
        ·
          obtain ⟨g1301, hg1301, rfl⟩ := q_chk2 (by omega) c1300a c1300b
          refine q_if_eq (tgt := 49) dX5_query_31 (by decide) (fun q => absurd q (by decide)) (fun _ => ?_)
          refine q_iload dX5_query_34 rfl ?_
          refine q_iconst (v := nI 0) dX5_query_36 rfl ?_
          refine q_ldc dX5_query_37 wPX5_124 ?_
          refine t_callS (M' := mX5_in) [.int (a4), .int (nI 0), .int (65535)] [.ref o] dX5_query_39 wPX5_120 wTX5_in wNX5 iX5_in oX5_in rfl hok (sX5_in Sc (mG Γ o ml (th) (s)) n (a4) (nI 0) (65535)) (Nat.le_of_ble_eq_true rfl) (Nat.le_of_ble_eq_true rfl) (Nat.le_of_ble_eq_true rfl) (Nat.le_of_ble_eq_true rfl) (Nat.le_of_ble_eq_true rfl) rfl (fun v1302 h qv1302 hok => ?_) (fun e1303 h qe1303 hok => absurd qe1303 (by intro q; obtain ⟨_, q, _⟩ := q; cases q))
          obtain ⟨x1304, qx1304, hx1304⟩ := qv1302
          obtain rfl := Sum.inl.inj qx1304
          rcases hx1304 with ⟨rfl, c1305a, c1305b⟩ | rfl
          ·
            refine q_if_eq (tgt := 49) dX5_query_42 (by decide) (fun q => absurd q (by decide)) (fun _ => ?_)
            refine q_iconst (v := nI 0) dX5_query_45 rfl ?_
            refine q_goto (tgt := 50) dX5_query_46 (by decide) ?_
            refine t_putc 0 (z' := 0) kX5 (by decide) wPX5_66 rfl dX5_query_50 hok mG_o rfl ⟨rfl, rfl⟩ (fun h hok => ?_)
            replace hok := mG_setT hok
            refine q_aload_n dX5_query_53 rfl ?_
            refine t_getc 0 kX5 (by decide) wPX5_66 dX5_query_54 hok mG_o rfl ?_
            refine q_if_le (tgt := 62) dX5_query_57 (by decide) (fun _ => ?_) (fun q => absurd q (by decide))
            refine q_iload_n dX5_query_62 rfl ?_
            refine q_sipush (v := nI 500) dX5_query_63 rfl ?_
            refine t_icmp_ge_n (tgt := 174) (by omega) (by omega) dX5_query_66 (by decide) (fun c1306 => ?_) (fun c1306 => ?_)
            ·
              refine q_aload_n dX5_query_174 rfl ?_
              refine q_iload_n dX5_query_175 rfl ?_
              refine t_callM (M' := mX5_asks) [.int (nI j1291)] [] dX5_query_176 wPX5_75v wIX5_asks wSX5_asks iX5_asks oX5_asks rfl hok (sX5_asks Sc Γ n o ml (0) (s) hB hml (j1291) (by omega)) (Nat.le_of_ble_eq_true rfl) (Nat.le_of_ble_eq_true rfl) (Nat.le_of_ble_eq_true rfl) rfl (fun _ _ _ q => by obtain ⟨q, _⟩ := q; obtain ⟨_, q, _⟩ := q; cases q) (fun v1307 h thv1307 sv1307 qv1307 hok => ?_)
              obtain ⟨qv1307, etv1307, esv1307⟩ := qv1307
              rw [etv1307, esv1307] at hok
              obtain ⟨x1308, qx1308, bx1308⟩ := qv1307
              obtain rfl := Sum.inl.inj qx1308
              exact q_iret dX5_query_179 rfl (q_bl.nar bx1308) ⟨0, s, ⟨⟨_, rfl, bx1308⟩, by omega⟩, hok, rfl⟩
            ·
              refine q_aload_n dX5_query_69 rfl ?_
              refine t_getr 5 kX5 (by decide) wPX5_19 dX5_query_70 hok mG_o rfl ?_
              refine q_iload_n dX5_query_73 rfl ?_
              refine q_aload_n dX5_query_74 rfl ?_
              refine t_getr 6 kX5 (by decide) wPX5_22 dX5_query_75 hok mG_o rfl ?_
              refine q_iload_n dX5_query_78 rfl ?_
              refine t_iald dX5_query_79 hok (mG_a4 (ml := ml) (th := 0) (s := s) hB) (by exact vp_in_nI (by omega) (by omega)) (fun x1309 => ?_)
              refine q_if_eq (tgt := 93) dX5_query_80 (by decide) (fun c1310 => ?_) (fun c1310 => ?_)
              ·
                refine q_iload_n dX5_query_93 rfl ?_
                refine q_goto (tgt := 103) dX5_query_94 (by decide) ?_
                refine t_iast dX5_query_103 hok (mG_a3 (ml := ml) (th := 0) (s := s) hB) (by exact vp_in_nI (by omega) (by omega)) (fun h hok => ?_)
                refine q_aload_n dX5_query_104 rfl ?_
                refine t_getr 6 kX5 (by decide) wPX5_22 dX5_query_105 hok mG_o rfl ?_
                refine q_iload_n dX5_query_108 rfl ?_
                refine q_aload_n dX5_query_109 rfl ?_
                refine t_getr 2 kX5 (by decide) wPX5_7 dX5_query_110 hok mG_o rfl ?_
                refine q_iload_n dX5_query_113 rfl ?_
                refine t_iald dX5_query_114 hok (mG_a0 (ml := ml) (th := 0) (s := s) hB) (by exact vp_in_nI (by omega) (by omega)) (fun x1311 => ?_)
                refine q_aload_n dX5_query_115 rfl ?_
                refine t_getr 3 kX5 (by decide) wPX5_13 dX5_query_116 hok mG_o rfl ?_
                refine q_iload_n dX5_query_119 rfl ?_
                refine t_iald dX5_query_120 hok (mG_a1 (ml := ml) (th := 0) (s := s) hB) (by exact vp_in_nI (by omega) (by omega)) (fun x1312 => ?_)
                refine q_imul dX5_query_121 ?_
                generalize (x1311) * (x1312) = z1313
                refine q_aload_n dX5_query_122 rfl ?_
                refine t_getr 4 kX5 (by decide) wPX5_16 dX5_query_123 hok mG_o rfl ?_
                refine q_iload_n dX5_query_126 rfl ?_
                refine t_iald dX5_query_127 hok (mG_a2 (ml := ml) (th := 0) (s := s) hB) (by exact vp_in_nI (by omega) (by omega)) (fun x1314 => ?_)
                refine q_iconst (v := nI 2) dX5_query_128 rfl ?_
                refine q_idiv dX5_query_129 (by decide) ?_
                generalize (x1314) / (nI 2) = z1315
                refine q_iadd dX5_query_130 ?_
                generalize (z1313) + (z1315) = z1316
                refine t_iast dX5_query_131 hok (mG_a4 (ml := ml) (th := 0) (s := s) hB) (by exact vp_in_nI (by omega) (by omega)) (fun h hok => ?_)
                refine q_iload_n dX5_query_132 rfl ?_
                refine q_iconst (v := -1) dX5_query_133 rfl ?_
                refine q_icmp_eq (tgt := 174) dX5_query_134 (by decide) (fun _ => ?_) (fun q => absurd q (by decide))
                refine q_aload_n dX5_query_174 rfl ?_
                refine q_iload_n dX5_query_175 rfl ?_
                refine t_callM (M' := mX5_asks) [.int (nI j1291)] [] dX5_query_176 wPX5_75v wIX5_asks wSX5_asks iX5_asks oX5_asks rfl hok (sX5_asks Sc Γ n o ml (0) (s) hB hml (j1291) (by omega)) (Nat.le_of_ble_eq_true rfl) (Nat.le_of_ble_eq_true rfl) (Nat.le_of_ble_eq_true rfl) rfl (fun _ _ _ q => by obtain ⟨q, _⟩ := q; obtain ⟨_, q, _⟩ := q; cases q) (fun v1317 h thv1317 sv1317 qv1317 hok => ?_)
                obtain ⟨qv1317, etv1317, esv1317⟩ := qv1317
                rw [etv1317, esv1317] at hok
                obtain ⟨x1318, qx1318, bx1318⟩ := qv1317
                obtain rfl := Sum.inl.inj qx1318
                exact q_iret dX5_query_179 rfl (q_bl.nar bx1318) ⟨0, s, ⟨⟨_, rfl, bx1318⟩, by omega⟩, hok, rfl⟩
              ·
                refine q_iload_n dX5_query_83 rfl ?_
                refine q_aload_n dX5_query_84 rfl ?_
                refine t_getr 5 kX5 (by decide) wPX5_19 dX5_query_85 hok mG_o rfl ?_
                refine q_iload_n dX5_query_88 rfl ?_
                refine t_iald dX5_query_89 hok (mG_a3 (ml := ml) (th := 0) (s := s) hB) (by exact vp_in_nI (by omega) (by omega)) (fun x1319 => ?_)
                refine q_icmp_ge (tgt := 97) dX5_query_90 (by decide) (fun c1320 => ?_) (fun c1320 => ?_)
                ·
                  refine q_aload_n dX5_query_97 rfl ?_
                  refine t_getr 5 kX5 (by decide) wPX5_19 dX5_query_98 hok mG_o rfl ?_
                  refine q_iload_n dX5_query_101 rfl ?_
                  refine t_iald dX5_query_102 hok (mG_a3 (ml := ml) (th := 0) (s := s) hB) (by exact vp_in_nI (by omega) (by omega)) (fun x1321 => ?_)
                  refine t_iast dX5_query_103 hok (mG_a3 (ml := ml) (th := 0) (s := s) hB) (by exact vp_in_nI (by omega) (by omega)) (fun h hok => ?_)
                  refine q_aload_n dX5_query_104 rfl ?_
                  refine t_getr 6 kX5 (by decide) wPX5_22 dX5_query_105 hok mG_o rfl ?_
                  refine q_iload_n dX5_query_108 rfl ?_
                  refine q_aload_n dX5_query_109 rfl ?_
                  refine t_getr 2 kX5 (by decide) wPX5_7 dX5_query_110 hok mG_o rfl ?_
                  refine q_iload_n dX5_query_113 rfl ?_
                  refine t_iald dX5_query_114 hok (mG_a0 (ml := ml) (th := 0) (s := s) hB) (by exact vp_in_nI (by omega) (by omega)) (fun x1322 => ?_)
                  refine q_aload_n dX5_query_115 rfl ?_
                  refine t_getr 3 kX5 (by decide) wPX5_13 dX5_query_116 hok mG_o rfl ?_
                  refine q_iload_n dX5_query_119 rfl ?_
                  refine t_iald dX5_query_120 hok (mG_a1 (ml := ml) (th := 0) (s := s) hB) (by exact vp_in_nI (by omega) (by omega)) (fun x1323 => ?_)
                  refine q_imul dX5_query_121 ?_
                  generalize (x1322) * (x1323) = z1324
                  refine q_aload_n dX5_query_122 rfl ?_
                  refine t_getr 4 kX5 (by decide) wPX5_16 dX5_query_123 hok mG_o rfl ?_
                  refine q_iload_n dX5_query_126 rfl ?_
                  refine t_iald dX5_query_127 hok (mG_a2 (ml := ml) (th := 0) (s := s) hB) (by exact vp_in_nI (by omega) (by omega)) (fun x1325 => ?_)
                  refine q_iconst (v := nI 2) dX5_query_128 rfl ?_
                  refine q_idiv dX5_query_129 (by decide) ?_
                  generalize (x1325) / (nI 2) = z1326
                  refine q_iadd dX5_query_130 ?_
                  generalize (z1324) + (z1326) = z1327
                  refine t_iast dX5_query_131 hok (mG_a4 (ml := ml) (th := 0) (s := s) hB) (by exact vp_in_nI (by omega) (by omega)) (fun h hok => ?_)
                  refine q_iload_n dX5_query_132 rfl ?_
                  refine q_iconst (v := -1) dX5_query_133 rfl ?_
                  refine q_icmp_eq (tgt := 174) dX5_query_134 (by decide) (fun _ => ?_) (fun q => absurd q (by decide))
                  refine q_aload_n dX5_query_174 rfl ?_
                  refine q_iload_n dX5_query_175 rfl ?_
                  refine t_callM (M' := mX5_asks) [.int (nI j1291)] [] dX5_query_176 wPX5_75v wIX5_asks wSX5_asks iX5_asks oX5_asks rfl hok (sX5_asks Sc Γ n o ml (0) (s) hB hml (j1291) (by omega)) (Nat.le_of_ble_eq_true rfl) (Nat.le_of_ble_eq_true rfl) (Nat.le_of_ble_eq_true rfl) rfl (fun _ _ _ q => by obtain ⟨q, _⟩ := q; obtain ⟨_, q, _⟩ := q; cases q) (fun v1328 h thv1328 sv1328 qv1328 hok => ?_)
                  obtain ⟨qv1328, etv1328, esv1328⟩ := qv1328
                  rw [etv1328, esv1328] at hok
                  obtain ⟨x1329, qx1329, bx1329⟩ := qv1328
                  obtain rfl := Sum.inl.inj qx1329
                  exact q_iret dX5_query_179 rfl (q_bl.nar bx1329) ⟨0, s, ⟨⟨_, rfl, bx1329⟩, by omega⟩, hok, rfl⟩
                ·
                  refine q_iload_n dX5_query_93 rfl ?_
                  refine q_goto (tgt := 103) dX5_query_94 (by decide) ?_
                  refine t_iast dX5_query_103 hok (mG_a3 (ml := ml) (th := 0) (s := s) hB) (by exact vp_in_nI (by omega) (by omega)) (fun h hok => ?_)
                  refine q_aload_n dX5_query_104 rfl ?_
                  refine t_getr 6 kX5 (by decide) wPX5_22 dX5_query_105 hok mG_o rfl ?_
                  refine q_iload_n dX5_query_108 rfl ?_
                  refine q_aload_n dX5_query_109 rfl ?_
                  refine t_getr 2 kX5 (by decide) wPX5_7 dX5_query_110 hok mG_o rfl ?_
                  refine q_iload_n dX5_query_113 rfl ?_
                  refine t_iald dX5_query_114 hok (mG_a0 (ml := ml) (th := 0) (s := s) hB) (by exact vp_in_nI (by omega) (by omega)) (fun x1330 => ?_)
                  refine q_aload_n dX5_query_115 rfl ?_
                  refine t_getr 3 kX5 (by decide) wPX5_13 dX5_query_116 hok mG_o rfl ?_
                  refine q_iload_n dX5_query_119 rfl ?_
                  refine t_iald dX5_query_120 hok (mG_a1 (ml := ml) (th := 0) (s := s) hB) (by exact vp_in_nI (by omega) (by omega)) (fun x1331 => ?_)
                  refine q_imul dX5_query_121 ?_
                  generalize (x1330) * (x1331) = z1332
                  refine q_aload_n dX5_query_122 rfl ?_
                  refine t_getr 4 kX5 (by decide) wPX5_16 dX5_query_123 hok mG_o rfl ?_
                  refine q_iload_n dX5_query_126 rfl ?_
                  refine t_iald dX5_query_127 hok (mG_a2 (ml := ml) (th := 0) (s := s) hB) (by exact vp_in_nI (by omega) (by omega)) (fun x1333 => ?_)
                  refine q_iconst (v := nI 2) dX5_query_128 rfl ?_
                  refine q_idiv dX5_query_129 (by decide) ?_
                  generalize (x1333) / (nI 2) = z1334
                  refine q_iadd dX5_query_130 ?_
                  generalize (z1332) + (z1334) = z1335
                  refine t_iast dX5_query_131 hok (mG_a4 (ml := ml) (th := 0) (s := s) hB) (by exact vp_in_nI (by omega) (by omega)) (fun h hok => ?_)
                  refine q_iload_n dX5_query_132 rfl ?_
                  refine q_iconst (v := -1) dX5_query_133 rfl ?_
                  refine q_icmp_eq (tgt := 174) dX5_query_134 (by decide) (fun _ => ?_) (fun q => absurd q (by decide))
                  refine q_aload_n dX5_query_174 rfl ?_
                  refine q_iload_n dX5_query_175 rfl ?_
                  refine t_callM (M' := mX5_asks) [.int (nI j1291)] [] dX5_query_176 wPX5_75v wIX5_asks wSX5_asks iX5_asks oX5_asks rfl hok (sX5_asks Sc Γ n o ml (0) (s) hB hml (j1291) (by omega)) (Nat.le_of_ble_eq_true rfl) (Nat.le_of_ble_eq_true rfl) (Nat.le_of_ble_eq_true rfl) rfl (fun _ _ _ q => by obtain ⟨q, _⟩ := q; obtain ⟨_, q, _⟩ := q; cases q) (fun v1336 h thv1336 sv1336 qv1336 hok => ?_)
                  obtain ⟨qv1336, etv1336, esv1336⟩ := qv1336
                  rw [etv1336, esv1336] at hok
                  obtain ⟨x1337, qx1337, bx1337⟩ := qv1336
                  obtain rfl := Sum.inl.inj qx1337
                  exact q_iret dX5_query_179 rfl (q_bl.nar bx1337) ⟨0, s, ⟨⟨_, rfl, bx1337⟩, by omega⟩, hok, rfl⟩
          ·
            refine q_if_eq (tgt := 49) dX5_query_42 (by decide) (fun _ => ?_) (fun q => absurd q (by decide))
            refine q_iconst (v := nI 2) dX5_query_49 rfl ?_
            refine t_putc 0 (z' := 2) kX5 (by decide) wPX5_66 rfl dX5_query_50 hok mG_o rfl ⟨rfl, rfl⟩ (fun h hok => ?_)
            replace hok := mG_setT hok
            refine q_aload_n dX5_query_53 rfl ?_
            refine t_getc 0 kX5 (by decide) wPX5_66 dX5_query_54 hok mG_o rfl ?_
            refine q_if_le (tgt := 62) dX5_query_57 (by decide) (fun q => absurd q (by decide)) (fun _ => ?_)
            refine q_iconst (v := nI 0) dX5_query_60 rfl ?_
            exact q_iret dX5_query_61 rfl (rfl) ⟨2, s, ⟨⟨_, rfl, Or.inl rfl⟩, by omega⟩, hok, rfl⟩
        ·
          refine q_if_eq (tgt := 49) dX5_query_31 (by decide) (fun _ => ?_) (fun q => absurd q (by decide))
          refine q_iconst (v := nI 2) dX5_query_49 rfl ?_
          refine t_putc 0 (z' := 2) kX5 (by decide) wPX5_66 rfl dX5_query_50 hok mG_o rfl ⟨rfl, rfl⟩ (fun h hok => ?_)
          replace hok := mG_setT hok
          refine q_aload_n dX5_query_53 rfl ?_
          refine t_getc 0 kX5 (by decide) wPX5_66 dX5_query_54 hok mG_o rfl ?_
          refine q_if_le (tgt := 62) dX5_query_57 (by decide) (fun q => absurd q (by decide)) (fun _ => ?_)
          refine q_iconst (v := nI 0) dX5_query_60 rfl ?_
          exact q_iret dX5_query_61 rfl (rfl) ⟨2, s, ⟨⟨_, rfl, Or.inl rfl⟩, by omega⟩, hok, rfl⟩
      ·
        refine q_if_ne (tgt := 23) dX5_query_16 (by decide) (fun _ => ?_) (fun q => absurd q (by decide))
        refine q_iload_n dX5_query_23 rfl ?_
        refine q_iconst (v := nI 0) dX5_query_24 rfl ?_
        refine q_sipush (v := nI 999) dX5_query_25 rfl ?_
        refine t_callS (M' := mX5_in) [.int (a2), .int (nI 0), .int (nI 999)] [.ref o] dX5_query_28 wPX5_120 wTX5_in wNX5 iX5_in oX5_in rfl hok (sX5_in Sc (mG Γ o ml (th) (s)) n (a2) (nI 0) (nI 999)) (Nat.le_of_ble_eq_true rfl) (Nat.le_of_ble_eq_true rfl) (Nat.le_of_ble_eq_true rfl) (Nat.le_of_ble_eq_true rfl) (Nat.le_of_ble_eq_true rfl) rfl (fun v1338 h qv1338 hok => ?_) (fun e1339 h qe1339 hok => absurd qe1339 (by intro q; obtain ⟨_, q, _⟩ := q; cases q))
        obtain ⟨x1340, qx1340, hx1340⟩ := qv1338
        obtain rfl := Sum.inl.inj qx1340
        rcases hx1340 with ⟨rfl, c1341a, c1341b⟩ | rfl
        ·
          obtain ⟨g1342, hg1342, rfl⟩ := q_chk2 (by omega) c1341a c1341b
          refine q_if_eq (tgt := 49) dX5_query_31 (by decide) (fun q => absurd q (by decide)) (fun _ => ?_)
          refine q_iload dX5_query_34 rfl ?_
          refine q_iconst (v := nI 0) dX5_query_36 rfl ?_
          refine q_ldc dX5_query_37 wPX5_124 ?_
          refine t_callS (M' := mX5_in) [.int (a4), .int (nI 0), .int (65535)] [.ref o] dX5_query_39 wPX5_120 wTX5_in wNX5 iX5_in oX5_in rfl hok (sX5_in Sc (mG Γ o ml (th) (s)) n (a4) (nI 0) (65535)) (Nat.le_of_ble_eq_true rfl) (Nat.le_of_ble_eq_true rfl) (Nat.le_of_ble_eq_true rfl) (Nat.le_of_ble_eq_true rfl) (Nat.le_of_ble_eq_true rfl) rfl (fun v1343 h qv1343 hok => ?_) (fun e1344 h qe1344 hok => absurd qe1344 (by intro q; obtain ⟨_, q, _⟩ := q; cases q))
          obtain ⟨x1345, qx1345, hx1345⟩ := qv1343
          obtain rfl := Sum.inl.inj qx1345
          rcases hx1345 with ⟨rfl, c1346a, c1346b⟩ | rfl
          ·
            refine q_if_eq (tgt := 49) dX5_query_42 (by decide) (fun q => absurd q (by decide)) (fun _ => ?_)
            refine q_iconst (v := nI 0) dX5_query_45 rfl ?_
            refine q_goto (tgt := 50) dX5_query_46 (by decide) ?_
            refine t_putc 0 (z' := 0) kX5 (by decide) wPX5_66 rfl dX5_query_50 hok mG_o rfl ⟨rfl, rfl⟩ (fun h hok => ?_)
            replace hok := mG_setT hok
            refine q_aload_n dX5_query_53 rfl ?_
            refine t_getc 0 kX5 (by decide) wPX5_66 dX5_query_54 hok mG_o rfl ?_
            refine q_if_le (tgt := 62) dX5_query_57 (by decide) (fun _ => ?_) (fun q => absurd q (by decide))
            refine q_iload_n dX5_query_62 rfl ?_
            refine q_sipush (v := nI 500) dX5_query_63 rfl ?_
            refine t_icmp_ge_n (tgt := 174) (by omega) (by omega) dX5_query_66 (by decide) (fun c1347 => ?_) (fun c1347 => ?_)
            ·
              refine q_aload_n dX5_query_174 rfl ?_
              refine q_iload_n dX5_query_175 rfl ?_
              refine t_callM (M' := mX5_asks) [.int (nI j1291)] [] dX5_query_176 wPX5_75v wIX5_asks wSX5_asks iX5_asks oX5_asks rfl hok (sX5_asks Sc Γ n o ml (0) (s) hB hml (j1291) (by omega)) (Nat.le_of_ble_eq_true rfl) (Nat.le_of_ble_eq_true rfl) (Nat.le_of_ble_eq_true rfl) rfl (fun _ _ _ q => by obtain ⟨q, _⟩ := q; obtain ⟨_, q, _⟩ := q; cases q) (fun v1348 h thv1348 sv1348 qv1348 hok => ?_)
              obtain ⟨qv1348, etv1348, esv1348⟩ := qv1348
              rw [etv1348, esv1348] at hok
              obtain ⟨x1349, qx1349, bx1349⟩ := qv1348
              obtain rfl := Sum.inl.inj qx1349
              exact q_iret dX5_query_179 rfl (q_bl.nar bx1349) ⟨0, s, ⟨⟨_, rfl, bx1349⟩, by omega⟩, hok, rfl⟩
            ·
              refine q_aload_n dX5_query_69 rfl ?_
              refine t_getr 5 kX5 (by decide) wPX5_19 dX5_query_70 hok mG_o rfl ?_
              refine q_iload_n dX5_query_73 rfl ?_
              refine q_aload_n dX5_query_74 rfl ?_
              refine t_getr 6 kX5 (by decide) wPX5_22 dX5_query_75 hok mG_o rfl ?_
              refine q_iload_n dX5_query_78 rfl ?_
              refine t_iald dX5_query_79 hok (mG_a4 (ml := ml) (th := 0) (s := s) hB) (by exact vp_in_nI (by omega) (by omega)) (fun x1350 => ?_)
              refine q_if_eq (tgt := 93) dX5_query_80 (by decide) (fun c1351 => ?_) (fun c1351 => ?_)
              ·
                refine q_iload_n dX5_query_93 rfl ?_
                refine q_goto (tgt := 103) dX5_query_94 (by decide) ?_
                refine t_iast dX5_query_103 hok (mG_a3 (ml := ml) (th := 0) (s := s) hB) (by exact vp_in_nI (by omega) (by omega)) (fun h hok => ?_)
                refine q_aload_n dX5_query_104 rfl ?_
                refine t_getr 6 kX5 (by decide) wPX5_22 dX5_query_105 hok mG_o rfl ?_
                refine q_iload_n dX5_query_108 rfl ?_
                refine q_aload_n dX5_query_109 rfl ?_
                refine t_getr 2 kX5 (by decide) wPX5_7 dX5_query_110 hok mG_o rfl ?_
                refine q_iload_n dX5_query_113 rfl ?_
                refine t_iald dX5_query_114 hok (mG_a0 (ml := ml) (th := 0) (s := s) hB) (by exact vp_in_nI (by omega) (by omega)) (fun x1352 => ?_)
                refine q_aload_n dX5_query_115 rfl ?_
                refine t_getr 3 kX5 (by decide) wPX5_13 dX5_query_116 hok mG_o rfl ?_
                refine q_iload_n dX5_query_119 rfl ?_
                refine t_iald dX5_query_120 hok (mG_a1 (ml := ml) (th := 0) (s := s) hB) (by exact vp_in_nI (by omega) (by omega)) (fun x1353 => ?_)
                refine q_imul dX5_query_121 ?_
                generalize (x1352) * (x1353) = z1354
                refine q_aload_n dX5_query_122 rfl ?_
                refine t_getr 4 kX5 (by decide) wPX5_16 dX5_query_123 hok mG_o rfl ?_
                refine q_iload_n dX5_query_126 rfl ?_
                refine t_iald dX5_query_127 hok (mG_a2 (ml := ml) (th := 0) (s := s) hB) (by exact vp_in_nI (by omega) (by omega)) (fun x1355 => ?_)
                refine q_iconst (v := nI 2) dX5_query_128 rfl ?_
                refine q_idiv dX5_query_129 (by decide) ?_
                generalize (x1355) / (nI 2) = z1356
                refine q_iadd dX5_query_130 ?_
                generalize (z1354) + (z1356) = z1357
                refine t_iast dX5_query_131 hok (mG_a4 (ml := ml) (th := 0) (s := s) hB) (by exact vp_in_nI (by omega) (by omega)) (fun h hok => ?_)
                refine q_iload_n dX5_query_132 rfl ?_
                refine q_iconst (v := -1) dX5_query_133 rfl ?_
                refine q_icmp_eq (tgt := 174) dX5_query_134 (by decide) (fun c1358 => ?_) (fun c1358 => ?_)
                ·
                  refine q_aload_n dX5_query_174 rfl ?_
                  refine q_iload_n dX5_query_175 rfl ?_
                  refine t_callM (M' := mX5_asks) [.int (nI j1291)] [] dX5_query_176 wPX5_75v wIX5_asks wSX5_asks iX5_asks oX5_asks rfl hok (sX5_asks Sc Γ n o ml (0) (s) hB hml (j1291) (by omega)) (Nat.le_of_ble_eq_true rfl) (Nat.le_of_ble_eq_true rfl) (Nat.le_of_ble_eq_true rfl) rfl (fun _ _ _ q => by obtain ⟨q, _⟩ := q; obtain ⟨_, q, _⟩ := q; cases q) (fun v1359 h thv1359 sv1359 qv1359 hok => ?_)
                  obtain ⟨qv1359, etv1359, esv1359⟩ := qv1359
                  rw [etv1359, esv1359] at hok
                  obtain ⟨x1360, qx1360, bx1360⟩ := qv1359
                  obtain rfl := Sum.inl.inj qx1360
                  exact q_iret dX5_query_179 rfl (q_bl.nar bx1360) ⟨0, s, ⟨⟨_, rfl, bx1360⟩, by omega⟩, hok, rfl⟩
                ·
                  refine q_iload dX5_query_137 rfl ?_
                  refine q_if_ne (tgt := 174) dX5_query_139 (by decide) (fun c1361 => ?_) (fun c1361 => ?_)
                  ·
                    refine q_aload_n dX5_query_174 rfl ?_
                    refine q_iload_n dX5_query_175 rfl ?_
                    refine t_callM (M' := mX5_asks) [.int (nI j1291)] [] dX5_query_176 wPX5_75v wIX5_asks wSX5_asks iX5_asks oX5_asks rfl hok (sX5_asks Sc Γ n o ml (0) (s) hB hml (j1291) (by omega)) (Nat.le_of_ble_eq_true rfl) (Nat.le_of_ble_eq_true rfl) (Nat.le_of_ble_eq_true rfl) rfl (fun _ _ _ q => by obtain ⟨q, _⟩ := q; obtain ⟨_, q, _⟩ := q; cases q) (fun v1362 h thv1362 sv1362 qv1362 hok => ?_)
                    obtain ⟨qv1362, etv1362, esv1362⟩ := qv1362
                    rw [etv1362, esv1362] at hok
                    obtain ⟨x1363, qx1363, bx1363⟩ := qv1362
                    obtain rfl := Sum.inl.inj qx1363
                    exact q_iret dX5_query_179 rfl (q_bl.nar bx1363) ⟨0, s, ⟨⟨_, rfl, bx1363⟩, by omega⟩, hok, rfl⟩
                  ·
                    refine q_iload dX5_query_142 rfl ?_
                    refine q_if_eq (tgt := 163) dX5_query_144 (by decide) (fun c1364 => ?_) (fun c1364 => ?_)
                    ·
                      refine q_aload_n dX5_query_163 rfl ?_
                      refine q_iload_n dX5_query_164 rfl ?_
                      refine q_bipush (v := nI 8) dX5_query_165 rfl ?_
                      refine q_iload_n dX5_query_167 rfl ?_
                      refine t_imul_n dX5_query_168 ?_
                      refine q_iload_n dX5_query_169 rfl ?_
                      refine t_iadd_n dX5_query_170 ?_
                      refine t_callM (M' := mX5_lowerGroup) [.int (nI j1291), .int (nI ((8 * j1291) + (g1296)))] [] dX5_query_171 wPX5_86v wIX5_lowerGroup wSX5_lowerGroup iX5_lowerGroup oX5_lowerGroup rfl hok (sX5_lowerGroup Sc Γ n o ml (0) (s) hB hml (j1291) (by omega) ((8 * j1291) + (g1296)) (by omega)) (Nat.le_of_ble_eq_true rfl) (Nat.le_of_ble_eq_true rfl) (Nat.le_of_ble_eq_true rfl) rfl (fun _ _ _ q => by obtain ⟨q, _⟩ := q; cases q) (fun v1365 h thv1365 sv1365 qv1365 hok => ?_)
                      obtain ⟨qv1365, etv1365, esv1365⟩ := qv1365
                      rw [etv1365, esv1365] at hok
                      obtain rfl := Sum.inl.inj qv1365
                      refine q_aload_n dX5_query_174 rfl ?_
                      refine q_iload_n dX5_query_175 rfl ?_
                      refine t_callM (M' := mX5_asks) [.int (nI j1291)] [] dX5_query_176 wPX5_75v wIX5_asks wSX5_asks iX5_asks oX5_asks rfl hok (sX5_asks Sc Γ n o ml (0) (s) hB hml (j1291) (by omega)) (Nat.le_of_ble_eq_true rfl) (Nat.le_of_ble_eq_true rfl) (Nat.le_of_ble_eq_true rfl) rfl (fun _ _ _ q => by obtain ⟨q, _⟩ := q; obtain ⟨_, q, _⟩ := q; cases q) (fun v1366 h thv1366 sv1366 qv1366 hok => ?_)
                      obtain ⟨qv1366, etv1366, esv1366⟩ := qv1366
                      rw [etv1366, esv1366] at hok
                      obtain ⟨x1367, qx1367, bx1367⟩ := qv1366
                      obtain rfl := Sum.inl.inj qx1367
                      exact q_iret dX5_query_179 rfl (q_bl.nar bx1367) ⟨0, s, ⟨⟨_, rfl, bx1367⟩, by omega⟩, hok, rfl⟩
                    ·
                      refine q_aload_n dX5_query_147 rfl ?_
                      refine q_iload_n dX5_query_148 rfl ?_
                      refine q_bipush (v := nI 8) dX5_query_149 rfl ?_
                      refine q_iload_n dX5_query_151 rfl ?_
                      refine t_imul_n dX5_query_152 ?_
                      refine q_iload_n dX5_query_153 rfl ?_
                      refine t_iadd_n dX5_query_154 ?_
                      refine q_iload dX5_query_155 rfl ?_
                      refine t_callM (M' := mX5_lower) [.int (nI j1291), .int (nI ((8 * j1291) + (g1296))), .int (a4)] [] dX5_query_157 wPX5_83v wIX5_lower wSX5_lower iX5_lower oX5_lower rfl hok (sX5_lower Sc Γ n o ml (0) (s) hB hml (j1291) (by omega) ((8 * j1291) + (g1296)) (by omega) (a4)) (Nat.le_of_ble_eq_true rfl) (Nat.le_of_ble_eq_true rfl) (Nat.le_of_ble_eq_true rfl) rfl (fun _ _ _ q => by obtain ⟨q, _⟩ := q; cases q) (fun v1368 h thv1368 sv1368 qv1368 hok => ?_)
                      obtain ⟨qv1368, etv1368, esv1368⟩ := qv1368
                      rw [etv1368, esv1368] at hok
                      obtain rfl := Sum.inl.inj qv1368
                      refine q_goto (tgt := 174) dX5_query_160 (by decide) ?_
                      refine q_aload_n dX5_query_174 rfl ?_
                      refine q_iload_n dX5_query_175 rfl ?_
                      refine t_callM (M' := mX5_asks) [.int (nI j1291)] [] dX5_query_176 wPX5_75v wIX5_asks wSX5_asks iX5_asks oX5_asks rfl hok (sX5_asks Sc Γ n o ml (0) (s) hB hml (j1291) (by omega)) (Nat.le_of_ble_eq_true rfl) (Nat.le_of_ble_eq_true rfl) (Nat.le_of_ble_eq_true rfl) rfl (fun _ _ _ q => by obtain ⟨q, _⟩ := q; obtain ⟨_, q, _⟩ := q; cases q) (fun v1369 h thv1369 sv1369 qv1369 hok => ?_)
                      obtain ⟨qv1369, etv1369, esv1369⟩ := qv1369
                      rw [etv1369, esv1369] at hok
                      obtain ⟨x1370, qx1370, bx1370⟩ := qv1369
                      obtain rfl := Sum.inl.inj qx1370
                      exact q_iret dX5_query_179 rfl (q_bl.nar bx1370) ⟨0, s, ⟨⟨_, rfl, bx1370⟩, by omega⟩, hok, rfl⟩
              ·
                refine q_iload_n dX5_query_83 rfl ?_
                refine q_aload_n dX5_query_84 rfl ?_
                refine t_getr 5 kX5 (by decide) wPX5_19 dX5_query_85 hok mG_o rfl ?_
                refine q_iload_n dX5_query_88 rfl ?_
                refine t_iald dX5_query_89 hok (mG_a3 (ml := ml) (th := 0) (s := s) hB) (by exact vp_in_nI (by omega) (by omega)) (fun x1371 => ?_)
                refine q_icmp_ge (tgt := 97) dX5_query_90 (by decide) (fun c1372 => ?_) (fun c1372 => ?_)
                ·
                  refine q_aload_n dX5_query_97 rfl ?_
                  refine t_getr 5 kX5 (by decide) wPX5_19 dX5_query_98 hok mG_o rfl ?_
                  refine q_iload_n dX5_query_101 rfl ?_
                  refine t_iald dX5_query_102 hok (mG_a3 (ml := ml) (th := 0) (s := s) hB) (by exact vp_in_nI (by omega) (by omega)) (fun x1373 => ?_)
                  refine t_iast dX5_query_103 hok (mG_a3 (ml := ml) (th := 0) (s := s) hB) (by exact vp_in_nI (by omega) (by omega)) (fun h hok => ?_)
                  refine q_aload_n dX5_query_104 rfl ?_
                  refine t_getr 6 kX5 (by decide) wPX5_22 dX5_query_105 hok mG_o rfl ?_
                  refine q_iload_n dX5_query_108 rfl ?_
                  refine q_aload_n dX5_query_109 rfl ?_
                  refine t_getr 2 kX5 (by decide) wPX5_7 dX5_query_110 hok mG_o rfl ?_
                  refine q_iload_n dX5_query_113 rfl ?_
                  refine t_iald dX5_query_114 hok (mG_a0 (ml := ml) (th := 0) (s := s) hB) (by exact vp_in_nI (by omega) (by omega)) (fun x1374 => ?_)
                  refine q_aload_n dX5_query_115 rfl ?_
                  refine t_getr 3 kX5 (by decide) wPX5_13 dX5_query_116 hok mG_o rfl ?_
                  refine q_iload_n dX5_query_119 rfl ?_
                  refine t_iald dX5_query_120 hok (mG_a1 (ml := ml) (th := 0) (s := s) hB) (by exact vp_in_nI (by omega) (by omega)) (fun x1375 => ?_)
                  refine q_imul dX5_query_121 ?_
                  generalize (x1374) * (x1375) = z1376
                  refine q_aload_n dX5_query_122 rfl ?_
                  refine t_getr 4 kX5 (by decide) wPX5_16 dX5_query_123 hok mG_o rfl ?_
                  refine q_iload_n dX5_query_126 rfl ?_
                  refine t_iald dX5_query_127 hok (mG_a2 (ml := ml) (th := 0) (s := s) hB) (by exact vp_in_nI (by omega) (by omega)) (fun x1377 => ?_)
                  refine q_iconst (v := nI 2) dX5_query_128 rfl ?_
                  refine q_idiv dX5_query_129 (by decide) ?_
                  generalize (x1377) / (nI 2) = z1378
                  refine q_iadd dX5_query_130 ?_
                  generalize (z1376) + (z1378) = z1379
                  refine t_iast dX5_query_131 hok (mG_a4 (ml := ml) (th := 0) (s := s) hB) (by exact vp_in_nI (by omega) (by omega)) (fun h hok => ?_)
                  refine q_iload_n dX5_query_132 rfl ?_
                  refine q_iconst (v := -1) dX5_query_133 rfl ?_
                  refine q_icmp_eq (tgt := 174) dX5_query_134 (by decide) (fun c1380 => ?_) (fun c1380 => ?_)
                  ·
                    refine q_aload_n dX5_query_174 rfl ?_
                    refine q_iload_n dX5_query_175 rfl ?_
                    refine t_callM (M' := mX5_asks) [.int (nI j1291)] [] dX5_query_176 wPX5_75v wIX5_asks wSX5_asks iX5_asks oX5_asks rfl hok (sX5_asks Sc Γ n o ml (0) (s) hB hml (j1291) (by omega)) (Nat.le_of_ble_eq_true rfl) (Nat.le_of_ble_eq_true rfl) (Nat.le_of_ble_eq_true rfl) rfl (fun _ _ _ q => by obtain ⟨q, _⟩ := q; obtain ⟨_, q, _⟩ := q; cases q) (fun v1381 h thv1381 sv1381 qv1381 hok => ?_)
                    obtain ⟨qv1381, etv1381, esv1381⟩ := qv1381
                    rw [etv1381, esv1381] at hok
                    obtain ⟨x1382, qx1382, bx1382⟩ := qv1381
                    obtain rfl := Sum.inl.inj qx1382
                    exact q_iret dX5_query_179 rfl (q_bl.nar bx1382) ⟨0, s, ⟨⟨_, rfl, bx1382⟩, by omega⟩, hok, rfl⟩
                  ·
                    refine q_iload dX5_query_137 rfl ?_
                    refine q_if_ne (tgt := 174) dX5_query_139 (by decide) (fun c1383 => ?_) (fun c1383 => ?_)
                    ·
                      refine q_aload_n dX5_query_174 rfl ?_
                      refine q_iload_n dX5_query_175 rfl ?_
                      refine t_callM (M' := mX5_asks) [.int (nI j1291)] [] dX5_query_176 wPX5_75v wIX5_asks wSX5_asks iX5_asks oX5_asks rfl hok (sX5_asks Sc Γ n o ml (0) (s) hB hml (j1291) (by omega)) (Nat.le_of_ble_eq_true rfl) (Nat.le_of_ble_eq_true rfl) (Nat.le_of_ble_eq_true rfl) rfl (fun _ _ _ q => by obtain ⟨q, _⟩ := q; obtain ⟨_, q, _⟩ := q; cases q) (fun v1384 h thv1384 sv1384 qv1384 hok => ?_)
                      obtain ⟨qv1384, etv1384, esv1384⟩ := qv1384
                      rw [etv1384, esv1384] at hok
                      obtain ⟨x1385, qx1385, bx1385⟩ := qv1384
                      obtain rfl := Sum.inl.inj qx1385
                      exact q_iret dX5_query_179 rfl (q_bl.nar bx1385) ⟨0, s, ⟨⟨_, rfl, bx1385⟩, by omega⟩, hok, rfl⟩
                    ·
                      refine q_iload dX5_query_142 rfl ?_
                      refine q_if_eq (tgt := 163) dX5_query_144 (by decide) (fun c1386 => ?_) (fun c1386 => ?_)
                      ·
                        refine q_aload_n dX5_query_163 rfl ?_
                        refine q_iload_n dX5_query_164 rfl ?_
                        refine q_bipush (v := nI 8) dX5_query_165 rfl ?_
                        refine q_iload_n dX5_query_167 rfl ?_
                        refine t_imul_n dX5_query_168 ?_
                        refine q_iload_n dX5_query_169 rfl ?_
                        refine t_iadd_n dX5_query_170 ?_
                        refine t_callM (M' := mX5_lowerGroup) [.int (nI j1291), .int (nI ((8 * j1291) + (g1296)))] [] dX5_query_171 wPX5_86v wIX5_lowerGroup wSX5_lowerGroup iX5_lowerGroup oX5_lowerGroup rfl hok (sX5_lowerGroup Sc Γ n o ml (0) (s) hB hml (j1291) (by omega) ((8 * j1291) + (g1296)) (by omega)) (Nat.le_of_ble_eq_true rfl) (Nat.le_of_ble_eq_true rfl) (Nat.le_of_ble_eq_true rfl) rfl (fun _ _ _ q => by obtain ⟨q, _⟩ := q; cases q) (fun v1387 h thv1387 sv1387 qv1387 hok => ?_)
                        obtain ⟨qv1387, etv1387, esv1387⟩ := qv1387
                        rw [etv1387, esv1387] at hok
                        obtain rfl := Sum.inl.inj qv1387
                        refine q_aload_n dX5_query_174 rfl ?_
                        refine q_iload_n dX5_query_175 rfl ?_
                        refine t_callM (M' := mX5_asks) [.int (nI j1291)] [] dX5_query_176 wPX5_75v wIX5_asks wSX5_asks iX5_asks oX5_asks rfl hok (sX5_asks Sc Γ n o ml (0) (s) hB hml (j1291) (by omega)) (Nat.le_of_ble_eq_true rfl) (Nat.le_of_ble_eq_true rfl) (Nat.le_of_ble_eq_true rfl) rfl (fun _ _ _ q => by obtain ⟨q, _⟩ := q; obtain ⟨_, q, _⟩ := q; cases q) (fun v1388 h thv1388 sv1388 qv1388 hok => ?_)
                        obtain ⟨qv1388, etv1388, esv1388⟩ := qv1388
                        rw [etv1388, esv1388] at hok
                        obtain ⟨x1389, qx1389, bx1389⟩ := qv1388
                        obtain rfl := Sum.inl.inj qx1389
                        exact q_iret dX5_query_179 rfl (q_bl.nar bx1389) ⟨0, s, ⟨⟨_, rfl, bx1389⟩, by omega⟩, hok, rfl⟩
                      ·
                        refine q_aload_n dX5_query_147 rfl ?_
                        refine q_iload_n dX5_query_148 rfl ?_
                        refine q_bipush (v := nI 8) dX5_query_149 rfl ?_
                        refine q_iload_n dX5_query_151 rfl ?_
                        refine t_imul_n dX5_query_152 ?_
                        refine q_iload_n dX5_query_153 rfl ?_
                        refine t_iadd_n dX5_query_154 ?_
                        refine q_iload dX5_query_155 rfl ?_
                        refine t_callM (M' := mX5_lower) [.int (nI j1291), .int (nI ((8 * j1291) + (g1296))), .int (a4)] [] dX5_query_157 wPX5_83v wIX5_lower wSX5_lower iX5_lower oX5_lower rfl hok (sX5_lower Sc Γ n o ml (0) (s) hB hml (j1291) (by omega) ((8 * j1291) + (g1296)) (by omega) (a4)) (Nat.le_of_ble_eq_true rfl) (Nat.le_of_ble_eq_true rfl) (Nat.le_of_ble_eq_true rfl) rfl (fun _ _ _ q => by obtain ⟨q, _⟩ := q; cases q) (fun v1390 h thv1390 sv1390 qv1390 hok => ?_)
                        obtain ⟨qv1390, etv1390, esv1390⟩ := qv1390
                        rw [etv1390, esv1390] at hok
                        obtain rfl := Sum.inl.inj qv1390
                        refine q_goto (tgt := 174) dX5_query_160 (by decide) ?_
                        refine q_aload_n dX5_query_174 rfl ?_
                        refine q_iload_n dX5_query_175 rfl ?_
                        refine t_callM (M' := mX5_asks) [.int (nI j1291)] [] dX5_query_176 wPX5_75v wIX5_asks wSX5_asks iX5_asks oX5_asks rfl hok (sX5_asks Sc Γ n o ml (0) (s) hB hml (j1291) (by omega)) (Nat.le_of_ble_eq_true rfl) (Nat.le_of_ble_eq_true rfl) (Nat.le_of_ble_eq_true rfl) rfl (fun _ _ _ q => by obtain ⟨q, _⟩ := q; obtain ⟨_, q, _⟩ := q; cases q) (fun v1391 h thv1391 sv1391 qv1391 hok => ?_)
                        obtain ⟨qv1391, etv1391, esv1391⟩ := qv1391
                        rw [etv1391, esv1391] at hok
                        obtain ⟨x1392, qx1392, bx1392⟩ := qv1391
                        obtain rfl := Sum.inl.inj qx1392
                        exact q_iret dX5_query_179 rfl (q_bl.nar bx1392) ⟨0, s, ⟨⟨_, rfl, bx1392⟩, by omega⟩, hok, rfl⟩
                ·
                  refine q_iload_n dX5_query_93 rfl ?_
                  refine q_goto (tgt := 103) dX5_query_94 (by decide) ?_
                  refine t_iast dX5_query_103 hok (mG_a3 (ml := ml) (th := 0) (s := s) hB) (by exact vp_in_nI (by omega) (by omega)) (fun h hok => ?_)
                  refine q_aload_n dX5_query_104 rfl ?_
                  refine t_getr 6 kX5 (by decide) wPX5_22 dX5_query_105 hok mG_o rfl ?_
                  refine q_iload_n dX5_query_108 rfl ?_
                  refine q_aload_n dX5_query_109 rfl ?_
                  refine t_getr 2 kX5 (by decide) wPX5_7 dX5_query_110 hok mG_o rfl ?_
                  refine q_iload_n dX5_query_113 rfl ?_
                  refine t_iald dX5_query_114 hok (mG_a0 (ml := ml) (th := 0) (s := s) hB) (by exact vp_in_nI (by omega) (by omega)) (fun x1393 => ?_)
                  refine q_aload_n dX5_query_115 rfl ?_
                  refine t_getr 3 kX5 (by decide) wPX5_13 dX5_query_116 hok mG_o rfl ?_
                  refine q_iload_n dX5_query_119 rfl ?_
                  refine t_iald dX5_query_120 hok (mG_a1 (ml := ml) (th := 0) (s := s) hB) (by exact vp_in_nI (by omega) (by omega)) (fun x1394 => ?_)
                  refine q_imul dX5_query_121 ?_
                  generalize (x1393) * (x1394) = z1395
                  refine q_aload_n dX5_query_122 rfl ?_
                  refine t_getr 4 kX5 (by decide) wPX5_16 dX5_query_123 hok mG_o rfl ?_
                  refine q_iload_n dX5_query_126 rfl ?_
                  refine t_iald dX5_query_127 hok (mG_a2 (ml := ml) (th := 0) (s := s) hB) (by exact vp_in_nI (by omega) (by omega)) (fun x1396 => ?_)
                  refine q_iconst (v := nI 2) dX5_query_128 rfl ?_
                  refine q_idiv dX5_query_129 (by decide) ?_
                  generalize (x1396) / (nI 2) = z1397
                  refine q_iadd dX5_query_130 ?_
                  generalize (z1395) + (z1397) = z1398
                  refine t_iast dX5_query_131 hok (mG_a4 (ml := ml) (th := 0) (s := s) hB) (by exact vp_in_nI (by omega) (by omega)) (fun h hok => ?_)
                  refine q_iload_n dX5_query_132 rfl ?_
                  refine q_iconst (v := -1) dX5_query_133 rfl ?_
                  refine q_icmp_eq (tgt := 174) dX5_query_134 (by decide) (fun c1399 => ?_) (fun c1399 => ?_)
                  ·
                    refine q_aload_n dX5_query_174 rfl ?_
                    refine q_iload_n dX5_query_175 rfl ?_
                    refine t_callM (M' := mX5_asks) [.int (nI j1291)] [] dX5_query_176 wPX5_75v wIX5_asks wSX5_asks iX5_asks oX5_asks rfl hok (sX5_asks Sc Γ n o ml (0) (s) hB hml (j1291) (by omega)) (Nat.le_of_ble_eq_true rfl) (Nat.le_of_ble_eq_true rfl) (Nat.le_of_ble_eq_true rfl) rfl (fun _ _ _ q => by obtain ⟨q, _⟩ := q; obtain ⟨_, q, _⟩ := q; cases q) (fun v1400 h thv1400 sv1400 qv1400 hok => ?_)
                    obtain ⟨qv1400, etv1400, esv1400⟩ := qv1400
                    rw [etv1400, esv1400] at hok
                    obtain ⟨x1401, qx1401, bx1401⟩ := qv1400
                    obtain rfl := Sum.inl.inj qx1401
                    exact q_iret dX5_query_179 rfl (q_bl.nar bx1401) ⟨0, s, ⟨⟨_, rfl, bx1401⟩, by omega⟩, hok, rfl⟩
                  ·
                    refine q_iload dX5_query_137 rfl ?_
                    refine q_if_ne (tgt := 174) dX5_query_139 (by decide) (fun c1402 => ?_) (fun c1402 => ?_)
                    ·
                      refine q_aload_n dX5_query_174 rfl ?_
                      refine q_iload_n dX5_query_175 rfl ?_
                      refine t_callM (M' := mX5_asks) [.int (nI j1291)] [] dX5_query_176 wPX5_75v wIX5_asks wSX5_asks iX5_asks oX5_asks rfl hok (sX5_asks Sc Γ n o ml (0) (s) hB hml (j1291) (by omega)) (Nat.le_of_ble_eq_true rfl) (Nat.le_of_ble_eq_true rfl) (Nat.le_of_ble_eq_true rfl) rfl (fun _ _ _ q => by obtain ⟨q, _⟩ := q; obtain ⟨_, q, _⟩ := q; cases q) (fun v1403 h thv1403 sv1403 qv1403 hok => ?_)
                      obtain ⟨qv1403, etv1403, esv1403⟩ := qv1403
                      rw [etv1403, esv1403] at hok
                      obtain ⟨x1404, qx1404, bx1404⟩ := qv1403
                      obtain rfl := Sum.inl.inj qx1404
                      exact q_iret dX5_query_179 rfl (q_bl.nar bx1404) ⟨0, s, ⟨⟨_, rfl, bx1404⟩, by omega⟩, hok, rfl⟩
                    ·
                      refine q_iload dX5_query_142 rfl ?_
                      refine q_if_eq (tgt := 163) dX5_query_144 (by decide) (fun c1405 => ?_) (fun c1405 => ?_)
                      ·
                        refine q_aload_n dX5_query_163 rfl ?_
                        refine q_iload_n dX5_query_164 rfl ?_
                        refine q_bipush (v := nI 8) dX5_query_165 rfl ?_
                        refine q_iload_n dX5_query_167 rfl ?_
                        refine t_imul_n dX5_query_168 ?_
                        refine q_iload_n dX5_query_169 rfl ?_
                        refine t_iadd_n dX5_query_170 ?_
                        refine t_callM (M' := mX5_lowerGroup) [.int (nI j1291), .int (nI ((8 * j1291) + (g1296)))] [] dX5_query_171 wPX5_86v wIX5_lowerGroup wSX5_lowerGroup iX5_lowerGroup oX5_lowerGroup rfl hok (sX5_lowerGroup Sc Γ n o ml (0) (s) hB hml (j1291) (by omega) ((8 * j1291) + (g1296)) (by omega)) (Nat.le_of_ble_eq_true rfl) (Nat.le_of_ble_eq_true rfl) (Nat.le_of_ble_eq_true rfl) rfl (fun _ _ _ q => by obtain ⟨q, _⟩ := q; cases q) (fun v1406 h thv1406 sv1406 qv1406 hok => ?_)
                        obtain ⟨qv1406, etv1406, esv1406⟩ := qv1406
                        rw [etv1406, esv1406] at hok
                        obtain rfl := Sum.inl.inj qv1406
                        refine q_aload_n dX5_query_174 rfl ?_
                        refine q_iload_n dX5_query_175 rfl ?_
                        refine t_callM (M' := mX5_asks) [.int (nI j1291)] [] dX5_query_176 wPX5_75v wIX5_asks wSX5_asks iX5_asks oX5_asks rfl hok (sX5_asks Sc Γ n o ml (0) (s) hB hml (j1291) (by omega)) (Nat.le_of_ble_eq_true rfl) (Nat.le_of_ble_eq_true rfl) (Nat.le_of_ble_eq_true rfl) rfl (fun _ _ _ q => by obtain ⟨q, _⟩ := q; obtain ⟨_, q, _⟩ := q; cases q) (fun v1407 h thv1407 sv1407 qv1407 hok => ?_)
                        obtain ⟨qv1407, etv1407, esv1407⟩ := qv1407
                        rw [etv1407, esv1407] at hok
                        obtain ⟨x1408, qx1408, bx1408⟩ := qv1407
                        obtain rfl := Sum.inl.inj qx1408
                        exact q_iret dX5_query_179 rfl (q_bl.nar bx1408) ⟨0, s, ⟨⟨_, rfl, bx1408⟩, by omega⟩, hok, rfl⟩
                      ·
                        refine q_aload_n dX5_query_147 rfl ?_
                        refine q_iload_n dX5_query_148 rfl ?_
                        refine q_bipush (v := nI 8) dX5_query_149 rfl ?_
                        refine q_iload_n dX5_query_151 rfl ?_
                        refine t_imul_n dX5_query_152 ?_
                        refine q_iload_n dX5_query_153 rfl ?_
                        refine t_iadd_n dX5_query_154 ?_
                        refine q_iload dX5_query_155 rfl ?_
                        refine t_callM (M' := mX5_lower) [.int (nI j1291), .int (nI ((8 * j1291) + (g1296))), .int (a4)] [] dX5_query_157 wPX5_83v wIX5_lower wSX5_lower iX5_lower oX5_lower rfl hok (sX5_lower Sc Γ n o ml (0) (s) hB hml (j1291) (by omega) ((8 * j1291) + (g1296)) (by omega) (a4)) (Nat.le_of_ble_eq_true rfl) (Nat.le_of_ble_eq_true rfl) (Nat.le_of_ble_eq_true rfl) rfl (fun _ _ _ q => by obtain ⟨q, _⟩ := q; cases q) (fun v1409 h thv1409 sv1409 qv1409 hok => ?_)
                        obtain ⟨qv1409, etv1409, esv1409⟩ := qv1409
                        rw [etv1409, esv1409] at hok
                        obtain rfl := Sum.inl.inj qv1409
                        refine q_goto (tgt := 174) dX5_query_160 (by decide) ?_
                        refine q_aload_n dX5_query_174 rfl ?_
                        refine q_iload_n dX5_query_175 rfl ?_
                        refine t_callM (M' := mX5_asks) [.int (nI j1291)] [] dX5_query_176 wPX5_75v wIX5_asks wSX5_asks iX5_asks oX5_asks rfl hok (sX5_asks Sc Γ n o ml (0) (s) hB hml (j1291) (by omega)) (Nat.le_of_ble_eq_true rfl) (Nat.le_of_ble_eq_true rfl) (Nat.le_of_ble_eq_true rfl) rfl (fun _ _ _ q => by obtain ⟨q, _⟩ := q; obtain ⟨_, q, _⟩ := q; cases q) (fun v1410 h thv1410 sv1410 qv1410 hok => ?_)
                        obtain ⟨qv1410, etv1410, esv1410⟩ := qv1410
                        rw [etv1410, esv1410] at hok
                        obtain ⟨x1411, qx1411, bx1411⟩ := qv1410
                        obtain rfl := Sum.inl.inj qx1411
                        exact q_iret dX5_query_179 rfl (q_bl.nar bx1411) ⟨0, s, ⟨⟨_, rfl, bx1411⟩, by omega⟩, hok, rfl⟩
          ·
            refine q_if_eq (tgt := 49) dX5_query_42 (by decide) (fun _ => ?_) (fun q => absurd q (by decide))
            refine q_iconst (v := nI 2) dX5_query_49 rfl ?_
            refine t_putc 0 (z' := 2) kX5 (by decide) wPX5_66 rfl dX5_query_50 hok mG_o rfl ⟨rfl, rfl⟩ (fun h hok => ?_)
            replace hok := mG_setT hok
            refine q_aload_n dX5_query_53 rfl ?_
            refine t_getc 0 kX5 (by decide) wPX5_66 dX5_query_54 hok mG_o rfl ?_
            refine q_if_le (tgt := 62) dX5_query_57 (by decide) (fun q => absurd q (by decide)) (fun _ => ?_)
            refine q_iconst (v := nI 0) dX5_query_60 rfl ?_
            exact q_iret dX5_query_61 rfl (rfl) ⟨2, s, ⟨⟨_, rfl, Or.inl rfl⟩, by omega⟩, hok, rfl⟩
        ·
          refine q_if_eq (tgt := 49) dX5_query_31 (by decide) (fun _ => ?_) (fun q => absurd q (by decide))
          refine q_iconst (v := nI 2) dX5_query_49 rfl ?_
          refine t_putc 0 (z' := 2) kX5 (by decide) wPX5_66 rfl dX5_query_50 hok mG_o rfl ⟨rfl, rfl⟩ (fun h hok => ?_)
          replace hok := mG_setT hok
          refine q_aload_n dX5_query_53 rfl ?_
          refine t_getc 0 kX5 (by decide) wPX5_66 dX5_query_54 hok mG_o rfl ?_
          refine q_if_le (tgt := 62) dX5_query_57 (by decide) (fun q => absurd q (by decide)) (fun _ => ?_)
          refine q_iconst (v := nI 0) dX5_query_60 rfl ?_
          exact q_iret dX5_query_61 rfl (rfl) ⟨2, s, ⟨⟨_, rfl, Or.inl rfl⟩, by omega⟩, hok, rfl⟩
    ·
      refine q_if_ne (tgt := 23) dX5_query_16 (by decide) (fun q => absurd q (by decide)) (fun _ => ?_)
      refine q_iconst (v := nI 1) dX5_query_19 rfl ?_
      refine q_goto (tgt := 50) dX5_query_20 (by decide) ?_
      refine t_putc 0 (z' := 1) kX5 (by decide) wPX5_66 rfl dX5_query_50 hok mG_o rfl ⟨rfl, rfl⟩ (fun h hok => ?_)
      replace hok := mG_setT hok
      refine q_aload_n dX5_query_53 rfl ?_
      refine t_getc 0 kX5 (by decide) wPX5_66 dX5_query_54 hok mG_o rfl ?_
      refine q_if_le (tgt := 62) dX5_query_57 (by decide) (fun q => absurd q (by decide)) (fun _ => ?_)
      refine q_iconst (v := nI 0) dX5_query_60 rfl ?_
      exact q_iret dX5_query_61 rfl (rfl) ⟨1, s, ⟨⟨_, rfl, Or.inl rfl⟩, by omega⟩, hok, rfl⟩
  ·
    refine q_if_eq (tgt := 19) dX5_query_6 (by decide) (fun _ => ?_) (fun q => absurd q (by decide))
    refine q_iconst (v := nI 1) dX5_query_19 rfl ?_
    refine q_goto (tgt := 50) dX5_query_20 (by decide) ?_
    refine t_putc 0 (z' := 1) kX5 (by decide) wPX5_66 rfl dX5_query_50 hok mG_o rfl ⟨rfl, rfl⟩ (fun h hok => ?_)
    replace hok := mG_setT hok
    refine q_aload_n dX5_query_53 rfl ?_
    refine t_getc 0 kX5 (by decide) wPX5_66 dX5_query_54 hok mG_o rfl ?_
    refine q_if_le (tgt := 62) dX5_query_57 (by decide) (fun q => absurd q (by decide)) (fun _ => ?_)
    refine q_iconst (v := nI 0) dX5_query_60 rfl ?_
    exact q_iret dX5_query_61 rfl (rfl) ⟨1, s, ⟨⟨_, rfl, Or.inl rfl⟩, by omega⟩, hok, rfl⟩
set_option maxRecDepth 20000 in
set_option maxHeartbeats 4000000 in
theorem sX5_tick (Sc : q_S) (Γ : Nat → q_K) (n o ml th s : Nat) (hB : mB Γ o) (hml : ml ≤ 4) (hs : s ≤ 1600000000) (a1 : Int32) : q_mod Sc Γ o ml mX5_tick [.ref o, .int (a1)] n th s (fun O th' s' => q_RI O ∧ s' ≤ s + 8000) := by
  intro h hok
  show q_A Sc mX5_tick 0 [.ref o, .int (a1), .retAddr 0, .retAddr 0, .retAddr 0] [] h n 0 0 (fun O h' n' => ∃ th' s', (fun O th' s' => q_RI O ∧ s' ≤ s + 8000) O th' s' ∧ q_ok (mG Γ o ml th' s') h' ∧ n' = n)
  refine q_aload_n dX5_tick_0 rfl ?_
  refine q_iload_n dX5_tick_1 rfl ?_
  refine q_iconst (v := nI 0) dX5_tick_2 rfl ?_
  refine q_sipush (v := nI 2000) dX5_tick_3 rfl ?_
  refine t_callS (M' := mX5_in) [.int (a1), .int (nI 0), .int (nI 2000)] [.ref o] dX5_tick_6 wPX5_120 wTX5_in wNX5 iX5_in oX5_in rfl hok (sX5_in Sc (mG Γ o ml (th) (s)) n (a1) (nI 0) (nI 2000)) (Nat.le_of_ble_eq_true rfl) (Nat.le_of_ble_eq_true rfl) (Nat.le_of_ble_eq_true rfl) (Nat.le_of_ble_eq_true rfl) (Nat.le_of_ble_eq_true rfl) rfl (fun v1412 h qv1412 hok => ?_) (fun e1413 h qe1413 hok => absurd qe1413 (by intro q; obtain ⟨_, q, _⟩ := q; cases q))
  obtain ⟨x1414, qx1414, hx1414⟩ := qv1412
  obtain rfl := Sum.inl.inj qx1414
  rcases hx1414 with ⟨rfl, c1415a, c1415b⟩ | rfl
  ·
    obtain ⟨g1416, hg1416, rfl⟩ := q_chk2 (by omega) c1415a c1415b
    refine q_if_eq (tgt := 16) dX5_tick_9 (by decide) (fun q => absurd q (by decide)) (fun _ => ?_)
    refine q_iconst (v := nI 0) dX5_tick_12 rfl ?_
    refine q_goto (tgt := 17) dX5_tick_13 (by decide) ?_
    refine t_putc 0 (z' := 0) kX5 (by decide) wPX5_66 rfl dX5_tick_17 hok mG_o rfl ⟨rfl, rfl⟩ (fun h hok => ?_)
    replace hok := mG_setT hok
    refine q_aload_n dX5_tick_20 rfl ?_
    refine t_getc 0 kX5 (by decide) wPX5_66 dX5_tick_21 hok mG_o rfl ?_
    refine q_if_le (tgt := 29) dX5_tick_24 (by decide) (fun _ => ?_) (fun q => absurd q (by decide))
    refine q_iconst (v := nI 0) dX5_tick_29 rfl ?_
    refine t_istore [.ref o, .int (nI g1416), .int (nI 0), .retAddr 0, .retAddr 0] (Or.inl ⟨2, rfl, rfl, dX5_tick_30⟩) (by decide) rfl ?_
    refine q_iconst (v := nI 0) dX5_tick_31 rfl ?_
    refine t_istore [.ref o, .int (nI g1416), .int (nI 0), .int (nI 0), .retAddr 0] (Or.inl ⟨3, rfl, rfl, dX5_tick_32⟩) (by decide) rfl ?_
    have hl1418 : ∀ (d1420 k1419 : Nat) (x1421 : Int32) (sl1418 : Nat) (h : q_H), k1419 + d1420 = g1416 → sl1418 ≤ s + 4 * k1419 → q_ok (mG Γ o ml (0) (sl1418)) h → q_A Sc mX5_tick 33 [.ref o, .int (nI g1416), .int (x1421), .int (nI k1419), .retAddr 0] [] h n 0 0 (fun O h' n' => ∃ th' s', (fun O th' s' => q_RI O ∧ s' ≤ s + 8000) O th' s' ∧ q_ok (mG Γ o ml th' s') h' ∧ n' = n) := by
      intro d1420
      induction d1420 with
      | zero =>
        intro k1419 x1421 sl1418 h el1418 hsl1418 hok
        refine q_iload_n dX5_tick_33 rfl ?_
        refine q_iload_n dX5_tick_34 rfl ?_
        refine t_icmp_ge_n (tgt := 116) (by omega) (by omega) dX5_tick_35 (by decide) (fun c1422 => ?_) (fun c1422 => ?_)
        rotate_left
        · exact absurd c1422 (by omega)
        refine q_iload_n dX5_tick_116 rfl ?_
        exact q_iret dX5_tick_117 rfl (rfl) ⟨0, sl1418, ⟨⟨_, rfl⟩, by omega⟩, hok, rfl⟩
      | succ d1420 ihl1418 =>
        intro k1419 x1421 sl1418 h el1418 hsl1418 hok
        refine q_iload_n dX5_tick_33 rfl ?_
        refine q_iload_n dX5_tick_34 rfl ?_
        refine t_icmp_ge_n (tgt := 116) (by omega) (by omega) dX5_tick_35 (by decide) (fun c1423 => ?_) (fun c1423 => ?_)
        · exact absurd c1423 (by omega)
        refine q_aload_n dX5_tick_38 rfl ?_
        refine q_dup dX5_tick_39 rfl ?_
        refine t_geti 14 kX5 (by decide) wPX5_69 dX5_tick_40 hok mG_o rfl (fun x1424 => ?_)
        refine q_iconst (v := nI 1) dX5_tick_43 rfl ?_
        refine q_iadd dX5_tick_44 ?_
        generalize (x1424) + (nI 1) = z1425
        refine t_puti 14 kX5 (by decide) wPX5_69 rfl dX5_tick_45 hok mG_o rfl ⟨rfl, rfl⟩ (fun h hok => ?_)
        refine q_iconst (v := nI 0) dX5_tick_48 rfl ?_
        refine t_istore [.ref o, .int (nI g1416), .int (x1421), .int (nI k1419), .int (nI 0)] (Or.inr ⟨rfl, dX5_tick_49⟩) (by decide) rfl ?_
        have hl1426 : ∀ (d1428 k1427 : Nat) (h : q_H), k1427 + d1428 = 8 * ml → q_ok (mG Γ o ml (0) (sl1418)) h → q_A Sc mX5_tick 51 [.ref o, .int (nI g1416), .int (x1421), .int (nI k1419), .int (nI k1427)] [] h n 0 0 (fun O h' n' => ∃ th' s', (fun O th' s' => q_RI O ∧ s' ≤ s + 8000) O th' s' ∧ q_ok (mG Γ o ml th' s') h' ∧ n' = n) := by
          intro d1428
          induction d1428 with
          | zero =>
            intro k1427  h el1426 hok
            refine q_iload dX5_tick_51 rfl ?_
            refine q_bipush (v := nI 8) dX5_tick_53 rfl ?_
            refine q_aload_n dX5_tick_55 rfl ?_
            refine t_getc 1 kX5 (by decide) wPX5_59 dX5_tick_56 hok mG_o rfl ?_
            refine t_imul_n dX5_tick_59 ?_
            refine t_icmp_ge_n (tgt := 75) (by omega) (by omega) dX5_tick_60 (by decide) (fun c1429 => ?_) (fun c1429 => ?_)
            rotate_left
            · exact absurd c1429 (by omega)
            refine q_iconst (v := nI 0) dX5_tick_75 rfl ?_
            refine t_istore [.ref o, .int (nI g1416), .int (x1421), .int (nI k1419), .int (nI 0)] (Or.inr ⟨rfl, dX5_tick_76⟩) (by decide) rfl ?_
            have hl1430 : ∀ (d1432 k1431 : Nat) (x1433 : Int32) (sl1430 : Nat) (h : q_H), k1431 + d1432 = ml → sl1430 ≤ s + 4 * k1419 + k1431 → q_ok (mG Γ o ml (0) (sl1430)) h → q_A Sc mX5_tick 78 [.ref o, .int (nI g1416), .int (x1433), .int (nI k1419), .int (nI k1431)] [] h n 0 0 (fun O h' n' => ∃ th' s', (fun O th' s' => q_RI O ∧ s' ≤ s + 8000) O th' s' ∧ q_ok (mG Γ o ml th' s') h' ∧ n' = n) := by
              intro d1432
              induction d1432 with
              | zero =>
                intro k1431 x1433 sl1430 h el1430 hsl1430 hok
                refine q_iload dX5_tick_78 rfl ?_
                refine q_aload_n dX5_tick_80 rfl ?_
                refine t_getc 1 kX5 (by decide) wPX5_59 dX5_tick_81 hok mG_o rfl ?_
                refine t_icmp_ge_n (tgt := 110) (by omega) (by omega) dX5_tick_84 (by decide) (fun c1434 => ?_) (fun c1434 => ?_)
                rotate_left
                · exact absurd c1434 (by omega)
                refine t_iinc_n [.ref o, .int (nI g1416), .int (x1433), .int (nI (k1419 + 1)), .int (nI k1431)] dX5_tick_110 rfl (by decide) rfl ?_
                refine q_goto (tgt := 33) dX5_tick_113 (by decide) ?_
                refine q_weak [.ref o, .int (nI g1416), .int (x1433), .int (nI (k1419 + 1)), .retAddr 0] ⟨Or.inl rfl, Or.inl rfl, Or.inl rfl, Or.inl rfl, Or.inr ⟨0, rfl⟩, trivial⟩ ?_
                exact ihl1418 (k1419 + 1) (x1433) (sl1430) h (by omega) (by omega) hok
              | succ d1432 ihl1430 =>
                intro k1431 x1433 sl1430 h el1430 hsl1430 hok
                refine q_iload dX5_tick_78 rfl ?_
                refine q_aload_n dX5_tick_80 rfl ?_
                refine t_getc 1 kX5 (by decide) wPX5_59 dX5_tick_81 hok mG_o rfl ?_
                refine t_icmp_ge_n (tgt := 110) (by omega) (by omega) dX5_tick_84 (by decide) (fun c1435 => ?_) (fun c1435 => ?_)
                · exact absurd c1435 (by omega)
                refine q_aload_n dX5_tick_87 rfl ?_
                refine q_iload dX5_tick_88 rfl ?_
                refine t_callM (M' := mX5_tickLink) [.int (nI k1431)] [] dX5_tick_90 wPX5_133v wIX5_tickLink wSX5_tickLink iX5_tickLink oX5_tickLink rfl hok (sX5_tickLink Sc Γ n o ml (0) (sl1430) hB hml (by omega) (k1431) (by omega)) (Nat.le_of_ble_eq_true rfl) (Nat.le_of_ble_eq_true rfl) (Nat.le_of_ble_eq_true rfl) rfl (fun _ _ _ q => by obtain ⟨q, _⟩ := q; obtain ⟨_, q, _⟩ := q; cases q) (fun v1436 h thv1436 sv1436 qv1436 hok => ?_)
                obtain ⟨qv1436, etv1436, hsv1436⟩ := qv1436
                rw [etv1436] at hok
                obtain ⟨x1437, qx1437, bx1437⟩ := qv1436
                obtain rfl := Sum.inl.inj qx1437
                refine q_if_eq (tgt := 102) dX5_tick_93 (by decide) (fun c1438 => ?_) (fun c1438 => ?_)
                ·
                  refine q_iload_n dX5_tick_102 rfl ?_
                  refine t_istore [.ref o, .int (nI g1416), .int (x1433), .int (nI k1419), .int (nI k1431)] (Or.inl ⟨2, rfl, rfl, dX5_tick_103⟩) (by decide) rfl ?_
                  refine t_iinc_n [.ref o, .int (nI g1416), .int (x1433), .int (nI k1419), .int (nI (k1431 + 1))] dX5_tick_104 rfl (by decide) rfl ?_
                  refine q_goto (tgt := 78) dX5_tick_107 (by decide) ?_
                  exact ihl1430 (k1431 + 1) (x1433) (sv1436) h (by omega) (by omega) hok
                ·
                  refine q_iload_n dX5_tick_96 rfl ?_
                  refine q_iconst (v := nI 1) dX5_tick_97 rfl ?_
                  refine q_iadd dX5_tick_98 ?_
                  generalize (x1433) + (nI 1) = z1439
                  refine q_goto (tgt := 103) dX5_tick_99 (by decide) ?_
                  refine t_istore [.ref o, .int (nI g1416), .int (z1439), .int (nI k1419), .int (nI k1431)] (Or.inl ⟨2, rfl, rfl, dX5_tick_103⟩) (by decide) rfl ?_
                  refine t_iinc_n [.ref o, .int (nI g1416), .int (z1439), .int (nI k1419), .int (nI (k1431 + 1))] dX5_tick_104 rfl (by decide) rfl ?_
                  refine q_goto (tgt := 78) dX5_tick_107 (by decide) ?_
                  exact ihl1430 (k1431 + 1) (z1439) (sv1436) h (by omega) (by omega) hok
            exact hl1430 (ml) 0 (x1421) (sl1418) h (by omega) (by omega) hok
          | succ d1428 ihl1426 =>
            intro k1427  h el1426 hok
            refine q_iload dX5_tick_51 rfl ?_
            refine q_bipush (v := nI 8) dX5_tick_53 rfl ?_
            refine q_aload_n dX5_tick_55 rfl ?_
            refine t_getc 1 kX5 (by decide) wPX5_59 dX5_tick_56 hok mG_o rfl ?_
            refine t_imul_n dX5_tick_59 ?_
            refine t_icmp_ge_n (tgt := 75) (by omega) (by omega) dX5_tick_60 (by decide) (fun c1440 => ?_) (fun c1440 => ?_)
            · exact absurd c1440 (by omega)
            refine q_aload_n dX5_tick_63 rfl ?_
            refine q_iload dX5_tick_64 rfl ?_
            refine t_callM (M' := mX5_tickRecord) [.int (nI k1427)] [] dX5_tick_66 wPX5_129v wIX5_tickRecord wSX5_tickRecord iX5_tickRecord oX5_tickRecord rfl hok (sX5_tickRecord Sc Γ n o ml (0) (sl1418) hB hml (k1427) (by omega)) (Nat.le_of_ble_eq_true rfl) (Nat.le_of_ble_eq_true rfl) (Nat.le_of_ble_eq_true rfl) rfl (fun _ _ _ q => by obtain ⟨q, _⟩ := q; cases q) (fun v1441 h thv1441 sv1441 qv1441 hok => ?_)
            obtain ⟨qv1441, etv1441, esv1441⟩ := qv1441
            rw [etv1441, esv1441] at hok
            obtain rfl := Sum.inl.inj qv1441
            refine t_iinc_n [.ref o, .int (nI g1416), .int (x1421), .int (nI k1419), .int (nI (k1427 + 1))] dX5_tick_69 rfl (by decide) rfl ?_
            refine q_goto (tgt := 51) dX5_tick_72 (by decide) ?_
            exact ihl1426 (k1427 + 1)  h (by omega) hok
        exact hl1426 (8 * ml) 0  h (by omega) hok
    exact hl1418 (g1416) 0 (nI 0) (s) h (by omega) (by omega) hok
  ·
    refine q_if_eq (tgt := 16) dX5_tick_9 (by decide) (fun _ => ?_) (fun q => absurd q (by decide))
    refine q_iconst (v := nI 1) dX5_tick_16 rfl ?_
    refine t_putc 0 (z' := 1) kX5 (by decide) wPX5_66 rfl dX5_tick_17 hok mG_o rfl ⟨rfl, rfl⟩ (fun h hok => ?_)
    replace hok := mG_setT hok
    refine q_aload_n dX5_tick_20 rfl ?_
    refine t_getc 0 kX5 (by decide) wPX5_66 dX5_tick_21 hok mG_o rfl ?_
    refine q_if_le (tgt := 29) dX5_tick_24 (by decide) (fun q => absurd q (by decide)) (fun _ => ?_)
    refine q_iconst (v := nI 0) dX5_tick_27 rfl ?_
    exact q_iret dX5_tick_28 rfl (rfl) ⟨1, s, ⟨⟨_, rfl⟩, by omega⟩, hok, rfl⟩
set_option maxRecDepth 20000 in
set_option maxHeartbeats 4000000 in
theorem sX5_member (Sc : q_S) (Γ : Nat → q_K) (n o ml th s : Nat) (hB : mB Γ o) (hml : ml ≤ 4) (hs : s ≤ 1600000000) (a1 : Int32) (a2 : Int32) (a3 : Int32) (a4 : Int32) (b4 : q_bl a4) (a5 : Int32) : q_mod Sc Γ o ml mX5_member [.ref o, .int (a1), .int (a2), .int (a3), .int (a4), .int (a5)] n th s (fun O th' s' => q_RI O ∧ s' ≤ s + 4) := by
  intro h hok
  show q_A Sc mX5_member 0 [.ref o, .int (a1), .int (a2), .int (a3), .int (a4), .int (a5), .retAddr 0, .retAddr 0, .retAddr 0, .retAddr 0, .retAddr 0, .retAddr 0, .retAddr 0] [] h n 0 0 (fun O h' n' => ∃ th' s', (fun O th' s' => q_RI O ∧ s' ≤ s + 4) O th' s' ∧ q_ok (mG Γ o ml th' s') h' ∧ n' = n)
  refine q_aload_n dX5_member_0 rfl ?_
  refine q_aload_n dX5_member_1 rfl ?_
  refine q_iload_n dX5_member_2 rfl ?_
  refine t_callM (M' := mX5_isLink) [.int (a1)] [.ref o] dX5_member_3 wPX5_117v wIX5_isLink wSX5_isLink iX5_isLink oX5_isLink rfl hok (sX5_isLink Sc Γ n o ml (th) (s) hB hml (a1)) (Nat.le_of_ble_eq_true rfl) (Nat.le_of_ble_eq_true rfl) (Nat.le_of_ble_eq_true rfl) rfl (fun _ _ _ q => by obtain ⟨⟨_, q, _⟩, _⟩ := q; cases q) (fun v1444 h thv1444 sv1444 qv1444 hok => ?_)
  obtain ⟨⟨x1445, qx1445, hx1445⟩, etv1444, esv1444⟩ := qv1444
  rw [etv1444, esv1444] at hok
  obtain rfl := Sum.inl.inj qx1445
  rcases hx1445 with ⟨rfl, j1446, hj1446, rfl⟩ | rfl
  ·
    refine q_if_eq (tgt := 28) dX5_member_6 (by decide) (fun q => absurd q (by decide)) (fun _ => ?_)
    refine q_iload_n dX5_member_9 rfl ?_
    refine q_iconst (v := nI 0) dX5_member_10 rfl ?_
    refine q_iconst (v := nI 5) dX5_member_11 rfl ?_
    refine t_callS (M' := mX5_in) [.int (a2), .int (nI 0), .int (nI 5)] [.ref o] dX5_member_12 wPX5_120 wTX5_in wNX5 iX5_in oX5_in rfl hok (sX5_in Sc (mG Γ o ml (th) (s)) n (a2) (nI 0) (nI 5)) (Nat.le_of_ble_eq_true rfl) (Nat.le_of_ble_eq_true rfl) (Nat.le_of_ble_eq_true rfl) (Nat.le_of_ble_eq_true rfl) (Nat.le_of_ble_eq_true rfl) rfl (fun v1447 h qv1447 hok => ?_) (fun e1448 h qe1448 hok => absurd qe1448 (by intro q; obtain ⟨_, q, _⟩ := q; cases q))
    obtain ⟨x1449, qx1449, hx1449⟩ := qv1447
    obtain rfl := Sum.inl.inj qx1449
    rcases hx1449 with ⟨rfl, c1450a, c1450b⟩ | rfl
    ·
      obtain ⟨g1451, hg1451, rfl⟩ := q_chk2 (by omega) c1450a c1450b
      refine q_if_eq (tgt := 28) dX5_member_15 (by decide) (fun q => absurd q (by decide)) (fun _ => ?_)
      refine q_iload_n dX5_member_18 rfl ?_
      refine q_iconst (v := nI 0) dX5_member_19 rfl ?_
      refine q_bipush (v := nI 7) dX5_member_20 rfl ?_
      refine t_callS (M' := mX5_in) [.int (a3), .int (nI 0), .int (nI 7)] [.ref o] dX5_member_22 wPX5_120 wTX5_in wNX5 iX5_in oX5_in rfl hok (sX5_in Sc (mG Γ o ml (th) (s)) n (a3) (nI 0) (nI 7)) (Nat.le_of_ble_eq_true rfl) (Nat.le_of_ble_eq_true rfl) (Nat.le_of_ble_eq_true rfl) (Nat.le_of_ble_eq_true rfl) (Nat.le_of_ble_eq_true rfl) rfl (fun v1452 h qv1452 hok => ?_) (fun e1453 h qe1453 hok => absurd qe1453 (by intro q; obtain ⟨_, q, _⟩ := q; cases q))
      obtain ⟨x1454, qx1454, hx1454⟩ := qv1452
      obtain rfl := Sum.inl.inj qx1454
      rcases hx1454 with ⟨rfl, c1455a, c1455b⟩ | rfl
      ·
        obtain ⟨g1456, hg1456, rfl⟩ := q_chk2 (by omega) c1455a c1455b
        refine q_if_ne (tgt := 32) dX5_member_25 (by decide) (fun _ => ?_) (fun q => absurd q (by decide))
        refine q_iload dX5_member_32 rfl ?_
        refine q_iconst (v := nI 0) dX5_member_34 rfl ?_
        refine q_ldc dX5_member_35 wPX5_124 ?_
        refine t_callS (M' := mX5_in) [.int (a5), .int (nI 0), .int (65535)] [.ref o] dX5_member_37 wPX5_120 wTX5_in wNX5 iX5_in oX5_in rfl hok (sX5_in Sc (mG Γ o ml (th) (s)) n (a5) (nI 0) (65535)) (Nat.le_of_ble_eq_true rfl) (Nat.le_of_ble_eq_true rfl) (Nat.le_of_ble_eq_true rfl) (Nat.le_of_ble_eq_true rfl) (Nat.le_of_ble_eq_true rfl) rfl (fun v1457 h qv1457 hok => ?_) (fun e1458 h qe1458 hok => absurd qe1458 (by intro q; obtain ⟨_, q, _⟩ := q; cases q))
        obtain ⟨x1459, qx1459, hx1459⟩ := qv1457
        obtain rfl := Sum.inl.inj qx1459
        rcases hx1459 with ⟨rfl, c1460a, c1460b⟩ | rfl
        ·
          refine q_if_eq (tgt := 47) dX5_member_40 (by decide) (fun q => absurd q (by decide)) (fun _ => ?_)
          refine q_iconst (v := nI 0) dX5_member_43 rfl ?_
          refine q_goto (tgt := 48) dX5_member_44 (by decide) ?_
          refine t_putc 0 (z' := 0) kX5 (by decide) wPX5_66 rfl dX5_member_48 hok mG_o rfl ⟨rfl, rfl⟩ (fun h hok => ?_)
          replace hok := mG_setT hok
          refine q_aload_n dX5_member_51 rfl ?_
          refine t_getc 0 kX5 (by decide) wPX5_66 dX5_member_52 hok mG_o rfl ?_
          refine q_if_le (tgt := 60) dX5_member_55 (by decide) (fun _ => ?_) (fun q => absurd q (by decide))
          refine q_bipush (v := nI 48) dX5_member_60 rfl ?_
          refine q_iload_n dX5_member_62 rfl ?_
          refine t_imul_n dX5_member_63 ?_
          refine q_bipush (v := nI 8) dX5_member_64 rfl ?_
          refine q_iload_n dX5_member_66 rfl ?_
          refine t_imul_n dX5_member_67 ?_
          refine t_iadd_n dX5_member_68 ?_
          refine q_iload_n dX5_member_69 rfl ?_
          refine t_iadd_n dX5_member_70 ?_
          refine t_istore [.ref o, .int (nI j1446), .int (nI g1451), .int (nI g1456), .int (a4), .int (a5), .int (nI (((48 * j1446) + (8 * g1451)) + (g1456))), .retAddr 0, .retAddr 0, .retAddr 0, .retAddr 0, .retAddr 0, .retAddr 0] (Or.inr ⟨rfl, dX5_member_71⟩) (by decide) rfl ?_
          refine q_aload_n dX5_member_73 rfl ?_
          refine t_getr 12 kX5 (by decide) wPX5_40 dX5_member_74 hok mG_o rfl ?_
          refine q_iload dX5_member_77 rfl ?_
          refine t_zald dX5_member_79 hok (mG_a10 (ml := ml) (th := 0) (s := s) hB) (by exact vp_in_nI (by omega) (by omega)) (fun x1461 => ?_)
          refine t_istore [.ref o, .int (nI j1446), .int (nI g1451), .int (nI g1456), .int (a4), .int (a5), .int (nI (((48 * j1446) + (8 * g1451)) + (g1456))), .int (x1461), .retAddr 0, .retAddr 0, .retAddr 0, .retAddr 0, .retAddr 0] (Or.inr ⟨rfl, dX5_member_80⟩) (by decide) rfl ?_
          refine q_aload_n dX5_member_82 rfl ?_
          refine t_getr 13 kX5 (by decide) wPX5_44 dX5_member_83 hok mG_o rfl ?_
          refine q_iload dX5_member_86 rfl ?_
          refine t_iald dX5_member_88 hok (mG_a11 (ml := ml) (th := 0) (s := s) hB) (by exact vp_in_nI (by omega) (by omega)) (fun x1462 => ?_)
          refine t_istore [.ref o, .int (nI j1446), .int (nI g1451), .int (nI g1456), .int (a4), .int (a5), .int (nI (((48 * j1446) + (8 * g1451)) + (g1456))), .int (x1461), .int (x1462), .retAddr 0, .retAddr 0, .retAddr 0, .retAddr 0] (Or.inr ⟨rfl, dX5_member_89⟩) (by decide) rfl ?_
          refine q_aload_n dX5_member_91 rfl ?_
          refine t_getr 12 kX5 (by decide) wPX5_40 dX5_member_92 hok mG_o rfl ?_
          refine q_iload dX5_member_95 rfl ?_
          refine q_iload dX5_member_97 rfl ?_
          refine t_zast dX5_member_99 hok (mG_a10 (ml := ml) (th := 0) (s := s) hB) (by exact vp_in_nI (by omega) (by omega)) (q_bl.vp b4) (fun h hok => ?_)
          refine q_aload_n dX5_member_100 rfl ?_
          refine t_getr 13 kX5 (by decide) wPX5_44 dX5_member_101 hok mG_o rfl ?_
          refine q_iload dX5_member_104 rfl ?_
          refine q_iload dX5_member_106 rfl ?_
          refine t_iast dX5_member_108 hok (mG_a11 (ml := ml) (th := 0) (s := s) hB) (by exact vp_in_nI (by omega) (by omega)) (fun h hok => ?_)
          refine q_aload_n dX5_member_109 rfl ?_
          refine t_getc 15 kX5 (by decide) wPX5_72 dX5_member_110 hok mG_o rfl ?_
          refine t_istore [.ref o, .int (nI j1446), .int (nI g1451), .int (nI g1456), .int (a4), .int (a5), .int (nI (((48 * j1446) + (8 * g1451)) + (g1456))), .int (x1461), .int (x1462), .int (nI s), .retAddr 0, .retAddr 0, .retAddr 0] (Or.inr ⟨rfl, dX5_member_113⟩) (by decide) rfl ?_
          refine q_iload dX5_member_115 rfl ?_
          refine q_iload dX5_member_117 rfl ?_
          refine q_icmp_eq (tgt := 145) dX5_member_119 (by decide) (fun c1463 => ?_) (fun c1463 => ?_)
          ·
            refine q_iload dX5_member_145 rfl ?_
            refine q_if_eq (tgt := 160) dX5_member_147 (by decide) (fun c1464 => ?_) (fun c1464 => ?_)
            ·
              refine q_iload dX5_member_160 rfl ?_
              refine q_iload dX5_member_162 rfl ?_
              refine q_iconst (v := -1) dX5_member_164 rfl ?_
              refine q_ixor dX5_member_165 ?_
              generalize (x1462) ^^^ (-1) = z1465
              refine q_iand dX5_member_166 ?_
              generalize (a5) &&& (z1465) = z1466
              refine t_istore [.ref o, .int (nI j1446), .int (nI g1451), .int (nI g1456), .int (a4), .int (a5), .int (nI (((48 * j1446) + (8 * g1451)) + (g1456))), .int (x1461), .int (x1462), .int (nI s), .int (z1466), .retAddr 0, .retAddr 0] (Or.inr ⟨rfl, dX5_member_167⟩) (by decide) rfl ?_
              refine q_iload dX5_member_169 rfl ?_
              refine q_if_eq (tgt := 184) dX5_member_171 (by decide) (fun c1467 => ?_) (fun c1467 => ?_)
              rotate_left
              · exact absurd c1464 c1467
              refine q_iload dX5_member_184 rfl ?_
              refine q_iload dX5_member_186 rfl ?_
              refine q_iconst (v := -1) dX5_member_188 rfl ?_
              refine q_ixor dX5_member_189 ?_
              generalize (a5) ^^^ (-1) = z1468
              refine q_iand dX5_member_190 ?_
              generalize (x1462) &&& (z1468) = z1469
              refine t_istore [.ref o, .int (nI j1446), .int (nI g1451), .int (nI g1456), .int (a4), .int (a5), .int (nI (((48 * j1446) + (8 * g1451)) + (g1456))), .int (x1461), .int (x1462), .int (nI s), .int (z1466), .int (z1469), .retAddr 0] (Or.inr ⟨rfl, dX5_member_191⟩) (by decide) rfl ?_
              refine q_iload dX5_member_193 rfl ?_
              refine q_if_eq (tgt := 209) dX5_member_195 (by decide) (fun c1470 => ?_) (fun c1470 => ?_)
              ·
                refine q_iload dX5_member_209 rfl ?_
                refine q_if_eq (tgt := 225) dX5_member_211 (by decide) (fun c1471 => ?_) (fun c1471 => ?_)
                ·
                  refine q_aload_n dX5_member_225 rfl ?_
                  refine t_getc 15 kX5 (by decide) wPX5_72 dX5_member_226 hok mG_o rfl ?_
                  refine q_iload dX5_member_229 rfl ?_
                  refine q_isub dX5_member_231 ?_
                  generalize (nI s) - (nI s) = z1472
                  exact q_iret dX5_member_232 rfl (rfl) ⟨0, s, ⟨⟨_, rfl⟩, by omega⟩, hok, rfl⟩
                ·
                  refine q_aload_n dX5_member_214 rfl ?_
                  refine q_iload_n dX5_member_215 rfl ?_
                  refine q_iload_n dX5_member_216 rfl ?_
                  refine q_iconst (v := nI 5) dX5_member_217 rfl ?_
                  refine q_iload dX5_member_218 rfl ?_
                  refine t_callM (M' := mX5_reported) [.int (nI j1446), .int (nI g1456), .int (nI 5), .int (z1469)] [] dX5_member_220 wPX5_125v wIX5_reported wSX5_reported iX5_reported oX5_reported rfl hok (sX5_reported Sc Γ n o ml (0) (s) hB hml (by omega) (j1446) (by omega) (g1456) (by omega) (nI 5) (z1469)) (Nat.le_of_ble_eq_true rfl) (Nat.le_of_ble_eq_true rfl) (Nat.le_of_ble_eq_true rfl) rfl (fun _ _ _ q => by obtain ⟨q, _⟩ := q; obtain ⟨_, q⟩ := q; cases q) (fun v1473 h thv1473 sv1473 qv1473 hok => ?_)
                  obtain ⟨qv1473, etv1473, hsv1473⟩ := qv1473
                  rw [etv1473] at hok
                  obtain ⟨x1474, qx1474⟩ := qv1473
                  obtain rfl := Sum.inl.inj qx1474
                  refine t_istore [.ref o, .int (nI j1446), .int (nI g1451), .int (nI g1456), .int (a4), .int (a5), .int (nI (((48 * j1446) + (8 * g1451)) + (g1456))), .int (x1461), .int (x1462), .int (nI s), .int (z1466), .int (z1469), .int (x1474)] (Or.inr ⟨rfl, dX5_member_223⟩) (by decide) rfl ?_
                  refine q_aload_n dX5_member_225 rfl ?_
                  refine t_getc 15 kX5 (by decide) wPX5_72 dX5_member_226 hok mG_o rfl ?_
                  refine q_iload dX5_member_229 rfl ?_
                  refine q_isub dX5_member_231 ?_
                  generalize (nI sv1473) - (nI s) = z1475
                  exact q_iret dX5_member_232 rfl (rfl) ⟨0, sv1473, ⟨⟨_, rfl⟩, by omega⟩, hok, rfl⟩
              ·
                refine q_aload_n dX5_member_198 rfl ?_
                refine q_iload_n dX5_member_199 rfl ?_
                refine q_iload_n dX5_member_200 rfl ?_
                refine q_iconst (v := nI 4) dX5_member_201 rfl ?_
                refine q_iload dX5_member_202 rfl ?_
                refine t_callM (M' := mX5_reported) [.int (nI j1446), .int (nI g1456), .int (nI 4), .int (z1466)] [] dX5_member_204 wPX5_125v wIX5_reported wSX5_reported iX5_reported oX5_reported rfl hok (sX5_reported Sc Γ n o ml (0) (s) hB hml (by omega) (j1446) (by omega) (g1456) (by omega) (nI 4) (z1466)) (Nat.le_of_ble_eq_true rfl) (Nat.le_of_ble_eq_true rfl) (Nat.le_of_ble_eq_true rfl) rfl (fun _ _ _ q => by obtain ⟨q, _⟩ := q; obtain ⟨_, q⟩ := q; cases q) (fun v1476 h thv1476 sv1476 qv1476 hok => ?_)
                obtain ⟨qv1476, etv1476, hsv1476⟩ := qv1476
                rw [etv1476] at hok
                obtain ⟨x1477, qx1477⟩ := qv1476
                obtain rfl := Sum.inl.inj qx1477
                refine t_istore [.ref o, .int (nI j1446), .int (nI g1451), .int (nI g1456), .int (a4), .int (a5), .int (nI (((48 * j1446) + (8 * g1451)) + (g1456))), .int (x1461), .int (x1462), .int (nI s), .int (z1466), .int (z1469), .int (x1477)] (Or.inr ⟨rfl, dX5_member_207⟩) (by decide) rfl ?_
                refine q_iload dX5_member_209 rfl ?_
                refine q_if_eq (tgt := 225) dX5_member_211 (by decide) (fun c1478 => ?_) (fun c1478 => ?_)
                ·
                  refine q_aload_n dX5_member_225 rfl ?_
                  refine t_getc 15 kX5 (by decide) wPX5_72 dX5_member_226 hok mG_o rfl ?_
                  refine q_iload dX5_member_229 rfl ?_
                  refine q_isub dX5_member_231 ?_
                  generalize (nI sv1476) - (nI s) = z1479
                  exact q_iret dX5_member_232 rfl (rfl) ⟨0, sv1476, ⟨⟨_, rfl⟩, by omega⟩, hok, rfl⟩
                ·
                  refine q_aload_n dX5_member_214 rfl ?_
                  refine q_iload_n dX5_member_215 rfl ?_
                  refine q_iload_n dX5_member_216 rfl ?_
                  refine q_iconst (v := nI 5) dX5_member_217 rfl ?_
                  refine q_iload dX5_member_218 rfl ?_
                  refine t_callM (M' := mX5_reported) [.int (nI j1446), .int (nI g1456), .int (nI 5), .int (z1469)] [] dX5_member_220 wPX5_125v wIX5_reported wSX5_reported iX5_reported oX5_reported rfl hok (sX5_reported Sc Γ n o ml (0) (sv1476) hB hml (by omega) (j1446) (by omega) (g1456) (by omega) (nI 5) (z1469)) (Nat.le_of_ble_eq_true rfl) (Nat.le_of_ble_eq_true rfl) (Nat.le_of_ble_eq_true rfl) rfl (fun _ _ _ q => by obtain ⟨q, _⟩ := q; obtain ⟨_, q⟩ := q; cases q) (fun v1480 h thv1480 sv1480 qv1480 hok => ?_)
                  obtain ⟨qv1480, etv1480, hsv1480⟩ := qv1480
                  rw [etv1480] at hok
                  obtain ⟨x1481, qx1481⟩ := qv1480
                  obtain rfl := Sum.inl.inj qx1481
                  refine t_istore [.ref o, .int (nI j1446), .int (nI g1451), .int (nI g1456), .int (a4), .int (a5), .int (nI (((48 * j1446) + (8 * g1451)) + (g1456))), .int (x1461), .int (x1462), .int (nI s), .int (z1466), .int (z1469), .int (x1481)] (Or.inr ⟨rfl, dX5_member_223⟩) (by decide) rfl ?_
                  refine q_aload_n dX5_member_225 rfl ?_
                  refine t_getc 15 kX5 (by decide) wPX5_72 dX5_member_226 hok mG_o rfl ?_
                  refine q_iload dX5_member_229 rfl ?_
                  refine q_isub dX5_member_231 ?_
                  generalize (nI sv1480) - (nI s) = z1482
                  exact q_iret dX5_member_232 rfl (rfl) ⟨0, sv1480, ⟨⟨_, rfl⟩, by omega⟩, hok, rfl⟩
            ·
              refine q_iload dX5_member_150 rfl ?_
              refine q_iload dX5_member_152 rfl ?_
              refine q_iconst (v := -1) dX5_member_154 rfl ?_
              refine q_ixor dX5_member_155 ?_
              generalize (a5) ^^^ (-1) = z1483
              refine q_iand dX5_member_156 ?_
              generalize (x1462) &&& (z1483) = z1484
              refine q_goto (tgt := 167) dX5_member_157 (by decide) ?_
              refine t_istore [.ref o, .int (nI j1446), .int (nI g1451), .int (nI g1456), .int (a4), .int (a5), .int (nI (((48 * j1446) + (8 * g1451)) + (g1456))), .int (x1461), .int (x1462), .int (nI s), .int (z1484), .retAddr 0, .retAddr 0] (Or.inr ⟨rfl, dX5_member_167⟩) (by decide) rfl ?_
              refine q_iload dX5_member_169 rfl ?_
              refine q_if_eq (tgt := 184) dX5_member_171 (by decide) (fun c1485 => ?_) (fun c1485 => ?_)
              · exact absurd c1485 c1464
              refine q_iload dX5_member_174 rfl ?_
              refine q_iload dX5_member_176 rfl ?_
              refine q_iconst (v := -1) dX5_member_178 rfl ?_
              refine q_ixor dX5_member_179 ?_
              generalize (x1462) ^^^ (-1) = z1486
              refine q_iand dX5_member_180 ?_
              generalize (a5) &&& (z1486) = z1487
              refine q_goto (tgt := 191) dX5_member_181 (by decide) ?_
              refine t_istore [.ref o, .int (nI j1446), .int (nI g1451), .int (nI g1456), .int (a4), .int (a5), .int (nI (((48 * j1446) + (8 * g1451)) + (g1456))), .int (x1461), .int (x1462), .int (nI s), .int (z1484), .int (z1487), .retAddr 0] (Or.inr ⟨rfl, dX5_member_191⟩) (by decide) rfl ?_
              refine q_iload dX5_member_193 rfl ?_
              refine q_if_eq (tgt := 209) dX5_member_195 (by decide) (fun c1488 => ?_) (fun c1488 => ?_)
              ·
                refine q_iload dX5_member_209 rfl ?_
                refine q_if_eq (tgt := 225) dX5_member_211 (by decide) (fun c1489 => ?_) (fun c1489 => ?_)
                ·
                  refine q_aload_n dX5_member_225 rfl ?_
                  refine t_getc 15 kX5 (by decide) wPX5_72 dX5_member_226 hok mG_o rfl ?_
                  refine q_iload dX5_member_229 rfl ?_
                  refine q_isub dX5_member_231 ?_
                  generalize (nI s) - (nI s) = z1490
                  exact q_iret dX5_member_232 rfl (rfl) ⟨0, s, ⟨⟨_, rfl⟩, by omega⟩, hok, rfl⟩
                ·
                  refine q_aload_n dX5_member_214 rfl ?_
                  refine q_iload_n dX5_member_215 rfl ?_
                  refine q_iload_n dX5_member_216 rfl ?_
                  refine q_iconst (v := nI 5) dX5_member_217 rfl ?_
                  refine q_iload dX5_member_218 rfl ?_
                  refine t_callM (M' := mX5_reported) [.int (nI j1446), .int (nI g1456), .int (nI 5), .int (z1487)] [] dX5_member_220 wPX5_125v wIX5_reported wSX5_reported iX5_reported oX5_reported rfl hok (sX5_reported Sc Γ n o ml (0) (s) hB hml (by omega) (j1446) (by omega) (g1456) (by omega) (nI 5) (z1487)) (Nat.le_of_ble_eq_true rfl) (Nat.le_of_ble_eq_true rfl) (Nat.le_of_ble_eq_true rfl) rfl (fun _ _ _ q => by obtain ⟨q, _⟩ := q; obtain ⟨_, q⟩ := q; cases q) (fun v1491 h thv1491 sv1491 qv1491 hok => ?_)
                  obtain ⟨qv1491, etv1491, hsv1491⟩ := qv1491
                  rw [etv1491] at hok
                  obtain ⟨x1492, qx1492⟩ := qv1491
                  obtain rfl := Sum.inl.inj qx1492
                  refine t_istore [.ref o, .int (nI j1446), .int (nI g1451), .int (nI g1456), .int (a4), .int (a5), .int (nI (((48 * j1446) + (8 * g1451)) + (g1456))), .int (x1461), .int (x1462), .int (nI s), .int (z1484), .int (z1487), .int (x1492)] (Or.inr ⟨rfl, dX5_member_223⟩) (by decide) rfl ?_
                  refine q_aload_n dX5_member_225 rfl ?_
                  refine t_getc 15 kX5 (by decide) wPX5_72 dX5_member_226 hok mG_o rfl ?_
                  refine q_iload dX5_member_229 rfl ?_
                  refine q_isub dX5_member_231 ?_
                  generalize (nI sv1491) - (nI s) = z1493
                  exact q_iret dX5_member_232 rfl (rfl) ⟨0, sv1491, ⟨⟨_, rfl⟩, by omega⟩, hok, rfl⟩
              ·
                refine q_aload_n dX5_member_198 rfl ?_
                refine q_iload_n dX5_member_199 rfl ?_
                refine q_iload_n dX5_member_200 rfl ?_
                refine q_iconst (v := nI 4) dX5_member_201 rfl ?_
                refine q_iload dX5_member_202 rfl ?_
                refine t_callM (M' := mX5_reported) [.int (nI j1446), .int (nI g1456), .int (nI 4), .int (z1484)] [] dX5_member_204 wPX5_125v wIX5_reported wSX5_reported iX5_reported oX5_reported rfl hok (sX5_reported Sc Γ n o ml (0) (s) hB hml (by omega) (j1446) (by omega) (g1456) (by omega) (nI 4) (z1484)) (Nat.le_of_ble_eq_true rfl) (Nat.le_of_ble_eq_true rfl) (Nat.le_of_ble_eq_true rfl) rfl (fun _ _ _ q => by obtain ⟨q, _⟩ := q; obtain ⟨_, q⟩ := q; cases q) (fun v1494 h thv1494 sv1494 qv1494 hok => ?_)
                obtain ⟨qv1494, etv1494, hsv1494⟩ := qv1494
                rw [etv1494] at hok
                obtain ⟨x1495, qx1495⟩ := qv1494
                obtain rfl := Sum.inl.inj qx1495
                refine t_istore [.ref o, .int (nI j1446), .int (nI g1451), .int (nI g1456), .int (a4), .int (a5), .int (nI (((48 * j1446) + (8 * g1451)) + (g1456))), .int (x1461), .int (x1462), .int (nI s), .int (z1484), .int (z1487), .int (x1495)] (Or.inr ⟨rfl, dX5_member_207⟩) (by decide) rfl ?_
                refine q_iload dX5_member_209 rfl ?_
                refine q_if_eq (tgt := 225) dX5_member_211 (by decide) (fun c1496 => ?_) (fun c1496 => ?_)
                ·
                  refine q_aload_n dX5_member_225 rfl ?_
                  refine t_getc 15 kX5 (by decide) wPX5_72 dX5_member_226 hok mG_o rfl ?_
                  refine q_iload dX5_member_229 rfl ?_
                  refine q_isub dX5_member_231 ?_
                  generalize (nI sv1494) - (nI s) = z1497
                  exact q_iret dX5_member_232 rfl (rfl) ⟨0, sv1494, ⟨⟨_, rfl⟩, by omega⟩, hok, rfl⟩
                ·
                  refine q_aload_n dX5_member_214 rfl ?_
                  refine q_iload_n dX5_member_215 rfl ?_
                  refine q_iload_n dX5_member_216 rfl ?_
                  refine q_iconst (v := nI 5) dX5_member_217 rfl ?_
                  refine q_iload dX5_member_218 rfl ?_
                  refine t_callM (M' := mX5_reported) [.int (nI j1446), .int (nI g1456), .int (nI 5), .int (z1487)] [] dX5_member_220 wPX5_125v wIX5_reported wSX5_reported iX5_reported oX5_reported rfl hok (sX5_reported Sc Γ n o ml (0) (sv1494) hB hml (by omega) (j1446) (by omega) (g1456) (by omega) (nI 5) (z1487)) (Nat.le_of_ble_eq_true rfl) (Nat.le_of_ble_eq_true rfl) (Nat.le_of_ble_eq_true rfl) rfl (fun _ _ _ q => by obtain ⟨q, _⟩ := q; obtain ⟨_, q⟩ := q; cases q) (fun v1498 h thv1498 sv1498 qv1498 hok => ?_)
                  obtain ⟨qv1498, etv1498, hsv1498⟩ := qv1498
                  rw [etv1498] at hok
                  obtain ⟨x1499, qx1499⟩ := qv1498
                  obtain rfl := Sum.inl.inj qx1499
                  refine t_istore [.ref o, .int (nI j1446), .int (nI g1451), .int (nI g1456), .int (a4), .int (a5), .int (nI (((48 * j1446) + (8 * g1451)) + (g1456))), .int (x1461), .int (x1462), .int (nI s), .int (z1484), .int (z1487), .int (x1499)] (Or.inr ⟨rfl, dX5_member_223⟩) (by decide) rfl ?_
                  refine q_aload_n dX5_member_225 rfl ?_
                  refine t_getc 15 kX5 (by decide) wPX5_72 dX5_member_226 hok mG_o rfl ?_
                  refine q_iload dX5_member_229 rfl ?_
                  refine q_isub dX5_member_231 ?_
                  generalize (nI sv1498) - (nI s) = z1500
                  exact q_iret dX5_member_232 rfl (rfl) ⟨0, sv1498, ⟨⟨_, rfl⟩, by omega⟩, hok, rfl⟩
          ·
            refine q_aload_n dX5_member_122 rfl ?_
            refine q_iload_n dX5_member_123 rfl ?_
            refine q_iload_n dX5_member_124 rfl ?_
            refine q_iload dX5_member_125 rfl ?_
            refine q_if_eq (tgt := 134) dX5_member_127 (by decide) (fun c1501 => ?_) (fun c1501 => ?_)
            ·
              refine q_iconst (v := nI 2) dX5_member_134 rfl ?_
              refine q_iload dX5_member_135 rfl ?_
              refine t_callM (M' := mX5_reported) [.int (nI j1446), .int (nI g1456), .int (nI 2), .int (a5)] [] dX5_member_137 wPX5_125v wIX5_reported wSX5_reported iX5_reported oX5_reported rfl hok (sX5_reported Sc Γ n o ml (0) (s) hB hml (by omega) (j1446) (by omega) (g1456) (by omega) (nI 2) (a5)) (Nat.le_of_ble_eq_true rfl) (Nat.le_of_ble_eq_true rfl) (Nat.le_of_ble_eq_true rfl) rfl (fun _ _ _ q => by obtain ⟨q, _⟩ := q; obtain ⟨_, q⟩ := q; cases q) (fun v1502 h thv1502 sv1502 qv1502 hok => ?_)
              obtain ⟨qv1502, etv1502, hsv1502⟩ := qv1502
              rw [etv1502] at hok
              obtain ⟨x1503, qx1503⟩ := qv1502
              obtain rfl := Sum.inl.inj qx1503
              refine t_istore [.ref o, .int (nI j1446), .int (nI g1451), .int (nI g1456), .int (a4), .int (a5), .int (nI (((48 * j1446) + (8 * g1451)) + (g1456))), .int (x1461), .int (x1462), .int (nI s), .int (x1503), .retAddr 0, .retAddr 0] (Or.inr ⟨rfl, dX5_member_140⟩) (by decide) rfl ?_
              refine q_goto (tgt := 225) dX5_member_142 (by decide) ?_
              refine q_aload_n dX5_member_225 rfl ?_
              refine t_getc 15 kX5 (by decide) wPX5_72 dX5_member_226 hok mG_o rfl ?_
              refine q_iload dX5_member_229 rfl ?_
              refine q_isub dX5_member_231 ?_
              generalize (nI sv1502) - (nI s) = z1504
              exact q_iret dX5_member_232 rfl (rfl) ⟨0, sv1502, ⟨⟨_, rfl⟩, by omega⟩, hok, rfl⟩
            ·
              refine q_iconst (v := nI 3) dX5_member_130 rfl ?_
              refine q_goto (tgt := 135) dX5_member_131 (by decide) ?_
              refine q_iload dX5_member_135 rfl ?_
              refine t_callM (M' := mX5_reported) [.int (nI j1446), .int (nI g1456), .int (nI 3), .int (a5)] [] dX5_member_137 wPX5_125v wIX5_reported wSX5_reported iX5_reported oX5_reported rfl hok (sX5_reported Sc Γ n o ml (0) (s) hB hml (by omega) (j1446) (by omega) (g1456) (by omega) (nI 3) (a5)) (Nat.le_of_ble_eq_true rfl) (Nat.le_of_ble_eq_true rfl) (Nat.le_of_ble_eq_true rfl) rfl (fun _ _ _ q => by obtain ⟨q, _⟩ := q; obtain ⟨_, q⟩ := q; cases q) (fun v1505 h thv1505 sv1505 qv1505 hok => ?_)
              obtain ⟨qv1505, etv1505, hsv1505⟩ := qv1505
              rw [etv1505] at hok
              obtain ⟨x1506, qx1506⟩ := qv1505
              obtain rfl := Sum.inl.inj qx1506
              refine t_istore [.ref o, .int (nI j1446), .int (nI g1451), .int (nI g1456), .int (a4), .int (a5), .int (nI (((48 * j1446) + (8 * g1451)) + (g1456))), .int (x1461), .int (x1462), .int (nI s), .int (x1506), .retAddr 0, .retAddr 0] (Or.inr ⟨rfl, dX5_member_140⟩) (by decide) rfl ?_
              refine q_goto (tgt := 225) dX5_member_142 (by decide) ?_
              refine q_aload_n dX5_member_225 rfl ?_
              refine t_getc 15 kX5 (by decide) wPX5_72 dX5_member_226 hok mG_o rfl ?_
              refine q_iload dX5_member_229 rfl ?_
              refine q_isub dX5_member_231 ?_
              generalize (nI sv1505) - (nI s) = z1507
              exact q_iret dX5_member_232 rfl (rfl) ⟨0, sv1505, ⟨⟨_, rfl⟩, by omega⟩, hok, rfl⟩
        ·
          refine q_if_eq (tgt := 47) dX5_member_40 (by decide) (fun _ => ?_) (fun q => absurd q (by decide))
          refine q_iconst (v := nI 2) dX5_member_47 rfl ?_
          refine t_putc 0 (z' := 2) kX5 (by decide) wPX5_66 rfl dX5_member_48 hok mG_o rfl ⟨rfl, rfl⟩ (fun h hok => ?_)
          replace hok := mG_setT hok
          refine q_aload_n dX5_member_51 rfl ?_
          refine t_getc 0 kX5 (by decide) wPX5_66 dX5_member_52 hok mG_o rfl ?_
          refine q_if_le (tgt := 60) dX5_member_55 (by decide) (fun q => absurd q (by decide)) (fun _ => ?_)
          refine q_iconst (v := nI 0) dX5_member_58 rfl ?_
          exact q_iret dX5_member_59 rfl (rfl) ⟨2, s, ⟨⟨_, rfl⟩, by omega⟩, hok, rfl⟩
      ·
        refine q_if_ne (tgt := 32) dX5_member_25 (by decide) (fun q => absurd q (by decide)) (fun _ => ?_)
        refine q_iconst (v := nI 1) dX5_member_28 rfl ?_
        refine q_goto (tgt := 48) dX5_member_29 (by decide) ?_
        refine t_putc 0 (z' := 1) kX5 (by decide) wPX5_66 rfl dX5_member_48 hok mG_o rfl ⟨rfl, rfl⟩ (fun h hok => ?_)
        replace hok := mG_setT hok
        refine q_aload_n dX5_member_51 rfl ?_
        refine t_getc 0 kX5 (by decide) wPX5_66 dX5_member_52 hok mG_o rfl ?_
        refine q_if_le (tgt := 60) dX5_member_55 (by decide) (fun q => absurd q (by decide)) (fun _ => ?_)
        refine q_iconst (v := nI 0) dX5_member_58 rfl ?_
        exact q_iret dX5_member_59 rfl (rfl) ⟨1, s, ⟨⟨_, rfl⟩, by omega⟩, hok, rfl⟩
    ·
      refine q_if_eq (tgt := 28) dX5_member_15 (by decide) (fun _ => ?_) (fun q => absurd q (by decide))
      refine q_iconst (v := nI 1) dX5_member_28 rfl ?_
      refine q_goto (tgt := 48) dX5_member_29 (by decide) ?_
      refine t_putc 0 (z' := 1) kX5 (by decide) wPX5_66 rfl dX5_member_48 hok mG_o rfl ⟨rfl, rfl⟩ (fun h hok => ?_)
      replace hok := mG_setT hok
      refine q_aload_n dX5_member_51 rfl ?_
      refine t_getc 0 kX5 (by decide) wPX5_66 dX5_member_52 hok mG_o rfl ?_
      refine q_if_le (tgt := 60) dX5_member_55 (by decide) (fun q => absurd q (by decide)) (fun _ => ?_)
      refine q_iconst (v := nI 0) dX5_member_58 rfl ?_
      exact q_iret dX5_member_59 rfl (rfl) ⟨1, s, ⟨⟨_, rfl⟩, by omega⟩, hok, rfl⟩
  ·
    refine q_if_eq (tgt := 28) dX5_member_6 (by decide) (fun _ => ?_) (fun q => absurd q (by decide))
    refine q_iconst (v := nI 1) dX5_member_28 rfl ?_
    refine q_goto (tgt := 48) dX5_member_29 (by decide) ?_
    refine t_putc 0 (z' := 1) kX5 (by decide) wPX5_66 rfl dX5_member_48 hok mG_o rfl ⟨rfl, rfl⟩ (fun h hok => ?_)
    replace hok := mG_setT hok
    refine q_aload_n dX5_member_51 rfl ?_
    refine t_getc 0 kX5 (by decide) wPX5_66 dX5_member_52 hok mG_o rfl ?_
    refine q_if_le (tgt := 60) dX5_member_55 (by decide) (fun q => absurd q (by decide)) (fun _ => ?_)
    refine q_iconst (v := nI 0) dX5_member_58 rfl ?_
    exact q_iret dX5_member_59 rfl (rfl) ⟨1, s, ⟨⟨_, rfl⟩, by omega⟩, hok, rfl⟩
set_option maxRecDepth 20000 in
set_option maxHeartbeats 4000000 in
theorem sX5_answer (Sc : q_S) (Γ : Nat → q_K) (n o ml th s : Nat) (hB : mB Γ o) (hml : ml ≤ 4) (hs : s ≤ 1600000000) (a1 : Int32) (a2 : Int32) : q_mod Sc Γ o ml mX5_answer [.ref o, .int (a1), .int (a2)] n th s (fun O th' s' => q_RI O ∧ s' ≤ s + 16) := by
  intro h hok
  show q_A Sc mX5_answer 0 [.ref o, .int (a1), .int (a2), .retAddr 0, .retAddr 0, .retAddr 0, .retAddr 0] [] h n 0 0 (fun O h' n' => ∃ th' s', (fun O th' s' => q_RI O ∧ s' ≤ s + 16) O th' s' ∧ q_ok (mG Γ o ml th' s') h' ∧ n' = n)
  refine q_aload_n dX5_answer_0 rfl ?_
  refine q_aload_n dX5_answer_1 rfl ?_
  refine q_iload_n dX5_answer_2 rfl ?_
  refine t_callM (M' := mX5_isLink) [.int (a1)] [.ref o] dX5_answer_3 wPX5_117v wIX5_isLink wSX5_isLink iX5_isLink oX5_isLink rfl hok (sX5_isLink Sc Γ n o ml (th) (s) hB hml (a1)) (Nat.le_of_ble_eq_true rfl) (Nat.le_of_ble_eq_true rfl) (Nat.le_of_ble_eq_true rfl) rfl (fun _ _ _ q => by obtain ⟨⟨_, q, _⟩, _⟩ := q; cases q) (fun v1509 h thv1509 sv1509 qv1509 hok => ?_)
  obtain ⟨⟨x1510, qx1510, hx1510⟩, etv1509, esv1509⟩ := qv1509
  rw [etv1509, esv1509] at hok
  obtain rfl := Sum.inl.inj qx1510
  rcases hx1510 with ⟨rfl, j1511, hj1511, rfl⟩ | rfl
  ·
    refine q_if_eq (tgt := 22) dX5_answer_6 (by decide) (fun q => absurd q (by decide)) (fun _ => ?_)
    refine q_iload_n dX5_answer_9 rfl ?_
    refine q_iconst (v := nI 0) dX5_answer_10 rfl ?_
    refine q_iconst (v := nI 5) dX5_answer_11 rfl ?_
    refine t_callS (M' := mX5_in) [.int (a2), .int (nI 0), .int (nI 5)] [.ref o] dX5_answer_12 wPX5_120 wTX5_in wNX5 iX5_in oX5_in rfl hok (sX5_in Sc (mG Γ o ml (th) (s)) n (a2) (nI 0) (nI 5)) (Nat.le_of_ble_eq_true rfl) (Nat.le_of_ble_eq_true rfl) (Nat.le_of_ble_eq_true rfl) (Nat.le_of_ble_eq_true rfl) (Nat.le_of_ble_eq_true rfl) rfl (fun v1512 h qv1512 hok => ?_) (fun e1513 h qe1513 hok => absurd qe1513 (by intro q; obtain ⟨_, q, _⟩ := q; cases q))
    obtain ⟨x1514, qx1514, hx1514⟩ := qv1512
    obtain rfl := Sum.inl.inj qx1514
    rcases hx1514 with ⟨rfl, c1515a, c1515b⟩ | rfl
    ·
      obtain ⟨g1516, hg1516, rfl⟩ := q_chk2 (by omega) c1515a c1515b
      refine q_if_eq (tgt := 22) dX5_answer_15 (by decide) (fun q => absurd q (by decide)) (fun _ => ?_)
      refine q_iconst (v := nI 0) dX5_answer_18 rfl ?_
      refine q_goto (tgt := 23) dX5_answer_19 (by decide) ?_
      refine t_putc 0 (z' := 0) kX5 (by decide) wPX5_66 rfl dX5_answer_23 hok mG_o rfl ⟨rfl, rfl⟩ (fun h hok => ?_)
      replace hok := mG_setT hok
      refine q_aload_n dX5_answer_26 rfl ?_
      refine t_getc 0 kX5 (by decide) wPX5_66 dX5_answer_27 hok mG_o rfl ?_
      refine q_if_le (tgt := 35) dX5_answer_30 (by decide) (fun _ => ?_) (fun q => absurd q (by decide))
      refine q_iconst (v := nI 0) dX5_answer_35 rfl ?_
      refine t_istore [.ref o, .int (nI j1511), .int (nI g1516), .int (nI 0), .retAddr 0, .retAddr 0, .retAddr 0] (Or.inl ⟨3, rfl, rfl, dX5_answer_36⟩) (by decide) rfl ?_
      refine q_iconst (v := nI 0) dX5_answer_37 rfl ?_
      refine t_istore [.ref o, .int (nI j1511), .int (nI g1516), .int (nI 0), .int (nI 0), .retAddr 0, .retAddr 0] (Or.inr ⟨rfl, dX5_answer_38⟩) (by decide) rfl ?_
      have hl1517 : ∀ (d1519 k1518 : Nat) (x1520 : Int32) (sl1517 : Nat) (h : q_H), k1518 + d1519 = 8 → sl1517 ≤ s + 2 * k1518 → q_ok (mG Γ o ml (0) (sl1517)) h → q_A Sc mX5_answer 40 [.ref o, .int (nI j1511), .int (nI g1516), .int (x1520), .int (nI k1518), .retAddr 0, .retAddr 0] [] h n 0 0 (fun O h' n' => ∃ th' s', (fun O th' s' => q_RI O ∧ s' ≤ s + 16) O th' s' ∧ q_ok (mG Γ o ml th' s') h' ∧ n' = n) := by
        intro d1519
        induction d1519 with
        | zero =>
          intro k1518 x1520 sl1517 h el1517 hsl1517 hok
          refine q_iload dX5_answer_40 rfl ?_
          refine q_bipush (v := nI 8) dX5_answer_42 rfl ?_
          refine t_icmp_ge_n (tgt := 121) (by omega) (by omega) dX5_answer_44 (by decide) (fun c1521 => ?_) (fun c1521 => ?_)
          rotate_left
          · exact absurd c1521 (by omega)
          refine q_iload_n dX5_answer_121 rfl ?_
          exact q_iret dX5_answer_122 rfl (rfl) ⟨0, sl1517, ⟨⟨_, rfl⟩, by omega⟩, hok, rfl⟩
        | succ d1519 ihl1517 =>
          intro k1518 x1520 sl1517 h el1517 hsl1517 hok
          refine q_iload dX5_answer_40 rfl ?_
          refine q_bipush (v := nI 8) dX5_answer_42 rfl ?_
          refine t_icmp_ge_n (tgt := 121) (by omega) (by omega) dX5_answer_44 (by decide) (fun c1522 => ?_) (fun c1522 => ?_)
          · exact absurd c1522 (by omega)
          refine q_bipush (v := nI 48) dX5_answer_47 rfl ?_
          refine q_iload_n dX5_answer_49 rfl ?_
          refine t_imul_n dX5_answer_50 ?_
          refine q_bipush (v := nI 8) dX5_answer_51 rfl ?_
          refine q_iload_n dX5_answer_53 rfl ?_
          refine t_imul_n dX5_answer_54 ?_
          refine t_iadd_n dX5_answer_55 ?_
          refine q_iload dX5_answer_56 rfl ?_
          refine t_iadd_n dX5_answer_58 ?_
          refine t_istore [.ref o, .int (nI j1511), .int (nI g1516), .int (x1520), .int (nI k1518), .int (nI (((48 * j1511) + (8 * g1516)) + (k1518))), .retAddr 0] (Or.inr ⟨rfl, dX5_answer_59⟩) (by decide) rfl ?_
          refine q_aload_n dX5_answer_61 rfl ?_
          refine t_getr 12 kX5 (by decide) wPX5_40 dX5_answer_62 hok mG_o rfl ?_
          refine q_iload dX5_answer_65 rfl ?_
          refine t_zald dX5_answer_67 hok (mG_a10 (ml := ml) (th := 0) (s := sl1517) hB) (by exact vp_in_nI (by omega) (by omega)) (fun x1523 => ?_)
          refine q_if_ne (tgt := 81) dX5_answer_68 (by decide) (fun c1524 => ?_) (fun c1524 => ?_)
          ·
            refine q_aload_n dX5_answer_81 rfl ?_
            refine q_iload_n dX5_answer_82 rfl ?_
            refine q_iload dX5_answer_83 rfl ?_
            refine q_aload_n dX5_answer_85 rfl ?_
            refine t_getr 12 kX5 (by decide) wPX5_40 dX5_answer_86 hok mG_o rfl ?_
            refine q_iload dX5_answer_89 rfl ?_
            refine t_zald dX5_answer_91 hok (mG_a10 (ml := ml) (th := 0) (s := sl1517) hB) (by exact vp_in_nI (by omega) (by omega)) (fun x1525 => ?_)
            refine q_if_eq (tgt := 99) dX5_answer_92 (by decide) (fun c1526 => ?_) (fun c1526 => ?_)
            ·
              refine q_iconst (v := nI 0) dX5_answer_99 rfl ?_
              refine q_aload_n dX5_answer_100 rfl ?_
              refine t_getr 13 kX5 (by decide) wPX5_44 dX5_answer_101 hok mG_o rfl ?_
              refine q_iload dX5_answer_104 rfl ?_
              refine t_iald dX5_answer_106 hok (mG_a11 (ml := ml) (th := 0) (s := sl1517) hB) (by exact vp_in_nI (by omega) (by omega)) (fun x1527 => ?_)
              refine t_callM (M' := mX5_reported) [.int (nI j1511), .int (nI k1518), .int (nI 0), .int (x1527)] [] dX5_answer_107 wPX5_125v wIX5_reported wSX5_reported iX5_reported oX5_reported rfl hok (sX5_reported Sc Γ n o ml (0) (sl1517) hB hml (by omega) (j1511) (by omega) (k1518) (by omega) (nI 0) (x1527)) (Nat.le_of_ble_eq_true rfl) (Nat.le_of_ble_eq_true rfl) (Nat.le_of_ble_eq_true rfl) rfl (fun _ _ _ q => by obtain ⟨q, _⟩ := q; obtain ⟨_, q⟩ := q; cases q) (fun v1528 h thv1528 sv1528 qv1528 hok => ?_)
              obtain ⟨qv1528, etv1528, hsv1528⟩ := qv1528
              rw [etv1528] at hok
              obtain ⟨x1529, qx1529⟩ := qv1528
              obtain rfl := Sum.inl.inj qx1529
              refine t_istore [.ref o, .int (nI j1511), .int (nI g1516), .int (x1520), .int (nI k1518), .int (nI (((48 * j1511) + (8 * g1516)) + (k1518))), .int (x1529)] (Or.inr ⟨rfl, dX5_answer_110⟩) (by decide) rfl ?_
              obtain ⟨y1530, hy1530⟩ : ∃ y1530 : Int32, x1520 + Int32.ofInt (1) = y1530 := ⟨_, rfl⟩
              refine t_iinc [.ref o, .int (nI j1511), .int (nI g1516), .int (y1530), .int (nI k1518), .int (nI (((48 * j1511) + (8 * g1516)) + (k1518))), .int (x1529)] dX5_answer_112 rfl hy1530 (by decide) rfl ?_
              refine t_iinc_n [.ref o, .int (nI j1511), .int (nI g1516), .int (y1530), .int (nI (k1518 + 1)), .int (nI (((48 * j1511) + (8 * g1516)) + (k1518))), .int (x1529)] dX5_answer_115 rfl (by decide) rfl ?_
              refine q_goto (tgt := 40) dX5_answer_118 (by decide) ?_
              refine q_weak [.ref o, .int (nI j1511), .int (nI g1516), .int (y1530), .int (nI (k1518 + 1)), .retAddr 0, .retAddr 0] ⟨Or.inl rfl, Or.inl rfl, Or.inl rfl, Or.inl rfl, Or.inl rfl, Or.inr ⟨0, rfl⟩, Or.inr ⟨0, rfl⟩, trivial⟩ ?_
              exact ihl1517 (k1518 + 1) (y1530) (sv1528) h (by omega) (by omega) hok
            ·
              refine q_iconst (v := nI 1) dX5_answer_95 rfl ?_
              refine q_goto (tgt := 100) dX5_answer_96 (by decide) ?_
              refine q_aload_n dX5_answer_100 rfl ?_
              refine t_getr 13 kX5 (by decide) wPX5_44 dX5_answer_101 hok mG_o rfl ?_
              refine q_iload dX5_answer_104 rfl ?_
              refine t_iald dX5_answer_106 hok (mG_a11 (ml := ml) (th := 0) (s := sl1517) hB) (by exact vp_in_nI (by omega) (by omega)) (fun x1531 => ?_)
              refine t_callM (M' := mX5_reported) [.int (nI j1511), .int (nI k1518), .int (nI 1), .int (x1531)] [] dX5_answer_107 wPX5_125v wIX5_reported wSX5_reported iX5_reported oX5_reported rfl hok (sX5_reported Sc Γ n o ml (0) (sl1517) hB hml (by omega) (j1511) (by omega) (k1518) (by omega) (nI 1) (x1531)) (Nat.le_of_ble_eq_true rfl) (Nat.le_of_ble_eq_true rfl) (Nat.le_of_ble_eq_true rfl) rfl (fun _ _ _ q => by obtain ⟨q, _⟩ := q; obtain ⟨_, q⟩ := q; cases q) (fun v1532 h thv1532 sv1532 qv1532 hok => ?_)
              obtain ⟨qv1532, etv1532, hsv1532⟩ := qv1532
              rw [etv1532] at hok
              obtain ⟨x1533, qx1533⟩ := qv1532
              obtain rfl := Sum.inl.inj qx1533
              refine t_istore [.ref o, .int (nI j1511), .int (nI g1516), .int (x1520), .int (nI k1518), .int (nI (((48 * j1511) + (8 * g1516)) + (k1518))), .int (x1533)] (Or.inr ⟨rfl, dX5_answer_110⟩) (by decide) rfl ?_
              obtain ⟨y1534, hy1534⟩ : ∃ y1534 : Int32, x1520 + Int32.ofInt (1) = y1534 := ⟨_, rfl⟩
              refine t_iinc [.ref o, .int (nI j1511), .int (nI g1516), .int (y1534), .int (nI k1518), .int (nI (((48 * j1511) + (8 * g1516)) + (k1518))), .int (x1533)] dX5_answer_112 rfl hy1534 (by decide) rfl ?_
              refine t_iinc_n [.ref o, .int (nI j1511), .int (nI g1516), .int (y1534), .int (nI (k1518 + 1)), .int (nI (((48 * j1511) + (8 * g1516)) + (k1518))), .int (x1533)] dX5_answer_115 rfl (by decide) rfl ?_
              refine q_goto (tgt := 40) dX5_answer_118 (by decide) ?_
              refine q_weak [.ref o, .int (nI j1511), .int (nI g1516), .int (y1534), .int (nI (k1518 + 1)), .retAddr 0, .retAddr 0] ⟨Or.inl rfl, Or.inl rfl, Or.inl rfl, Or.inl rfl, Or.inl rfl, Or.inr ⟨0, rfl⟩, Or.inr ⟨0, rfl⟩, trivial⟩ ?_
              exact ihl1517 (k1518 + 1) (y1534) (sv1532) h (by omega) (by omega) hok
          ·
            refine q_aload_n dX5_answer_71 rfl ?_
            refine t_getr 13 kX5 (by decide) wPX5_44 dX5_answer_72 hok mG_o rfl ?_
            refine q_iload dX5_answer_75 rfl ?_
            refine t_iald dX5_answer_77 hok (mG_a11 (ml := ml) (th := 0) (s := sl1517) hB) (by exact vp_in_nI (by omega) (by omega)) (fun x1535 => ?_)
            refine q_if_eq (tgt := 115) dX5_answer_78 (by decide) (fun c1536 => ?_) (fun c1536 => ?_)
            ·
              refine t_iinc_n [.ref o, .int (nI j1511), .int (nI g1516), .int (x1520), .int (nI (k1518 + 1)), .int (nI (((48 * j1511) + (8 * g1516)) + (k1518))), .retAddr 0] dX5_answer_115 rfl (by decide) rfl ?_
              refine q_goto (tgt := 40) dX5_answer_118 (by decide) ?_
              refine q_weak [.ref o, .int (nI j1511), .int (nI g1516), .int (x1520), .int (nI (k1518 + 1)), .retAddr 0, .retAddr 0] ⟨Or.inl rfl, Or.inl rfl, Or.inl rfl, Or.inl rfl, Or.inl rfl, Or.inr ⟨0, rfl⟩, Or.inr ⟨0, rfl⟩, trivial⟩ ?_
              exact ihl1517 (k1518 + 1) (x1520) (sl1517) h (by omega) (by omega) hok
            ·
              refine q_aload_n dX5_answer_81 rfl ?_
              refine q_iload_n dX5_answer_82 rfl ?_
              refine q_iload dX5_answer_83 rfl ?_
              refine q_aload_n dX5_answer_85 rfl ?_
              refine t_getr 12 kX5 (by decide) wPX5_40 dX5_answer_86 hok mG_o rfl ?_
              refine q_iload dX5_answer_89 rfl ?_
              refine t_zald dX5_answer_91 hok (mG_a10 (ml := ml) (th := 0) (s := sl1517) hB) (by exact vp_in_nI (by omega) (by omega)) (fun x1537 => ?_)
              refine q_if_eq (tgt := 99) dX5_answer_92 (by decide) (fun c1538 => ?_) (fun c1538 => ?_)
              ·
                refine q_iconst (v := nI 0) dX5_answer_99 rfl ?_
                refine q_aload_n dX5_answer_100 rfl ?_
                refine t_getr 13 kX5 (by decide) wPX5_44 dX5_answer_101 hok mG_o rfl ?_
                refine q_iload dX5_answer_104 rfl ?_
                refine t_iald dX5_answer_106 hok (mG_a11 (ml := ml) (th := 0) (s := sl1517) hB) (by exact vp_in_nI (by omega) (by omega)) (fun x1539 => ?_)
                refine t_callM (M' := mX5_reported) [.int (nI j1511), .int (nI k1518), .int (nI 0), .int (x1539)] [] dX5_answer_107 wPX5_125v wIX5_reported wSX5_reported iX5_reported oX5_reported rfl hok (sX5_reported Sc Γ n o ml (0) (sl1517) hB hml (by omega) (j1511) (by omega) (k1518) (by omega) (nI 0) (x1539)) (Nat.le_of_ble_eq_true rfl) (Nat.le_of_ble_eq_true rfl) (Nat.le_of_ble_eq_true rfl) rfl (fun _ _ _ q => by obtain ⟨q, _⟩ := q; obtain ⟨_, q⟩ := q; cases q) (fun v1540 h thv1540 sv1540 qv1540 hok => ?_)
                obtain ⟨qv1540, etv1540, hsv1540⟩ := qv1540
                rw [etv1540] at hok
                obtain ⟨x1541, qx1541⟩ := qv1540
                obtain rfl := Sum.inl.inj qx1541
                refine t_istore [.ref o, .int (nI j1511), .int (nI g1516), .int (x1520), .int (nI k1518), .int (nI (((48 * j1511) + (8 * g1516)) + (k1518))), .int (x1541)] (Or.inr ⟨rfl, dX5_answer_110⟩) (by decide) rfl ?_
                obtain ⟨y1542, hy1542⟩ : ∃ y1542 : Int32, x1520 + Int32.ofInt (1) = y1542 := ⟨_, rfl⟩
                refine t_iinc [.ref o, .int (nI j1511), .int (nI g1516), .int (y1542), .int (nI k1518), .int (nI (((48 * j1511) + (8 * g1516)) + (k1518))), .int (x1541)] dX5_answer_112 rfl hy1542 (by decide) rfl ?_
                refine t_iinc_n [.ref o, .int (nI j1511), .int (nI g1516), .int (y1542), .int (nI (k1518 + 1)), .int (nI (((48 * j1511) + (8 * g1516)) + (k1518))), .int (x1541)] dX5_answer_115 rfl (by decide) rfl ?_
                refine q_goto (tgt := 40) dX5_answer_118 (by decide) ?_
                refine q_weak [.ref o, .int (nI j1511), .int (nI g1516), .int (y1542), .int (nI (k1518 + 1)), .retAddr 0, .retAddr 0] ⟨Or.inl rfl, Or.inl rfl, Or.inl rfl, Or.inl rfl, Or.inl rfl, Or.inr ⟨0, rfl⟩, Or.inr ⟨0, rfl⟩, trivial⟩ ?_
                exact ihl1517 (k1518 + 1) (y1542) (sv1540) h (by omega) (by omega) hok
              ·
                refine q_iconst (v := nI 1) dX5_answer_95 rfl ?_
                refine q_goto (tgt := 100) dX5_answer_96 (by decide) ?_
                refine q_aload_n dX5_answer_100 rfl ?_
                refine t_getr 13 kX5 (by decide) wPX5_44 dX5_answer_101 hok mG_o rfl ?_
                refine q_iload dX5_answer_104 rfl ?_
                refine t_iald dX5_answer_106 hok (mG_a11 (ml := ml) (th := 0) (s := sl1517) hB) (by exact vp_in_nI (by omega) (by omega)) (fun x1543 => ?_)
                refine t_callM (M' := mX5_reported) [.int (nI j1511), .int (nI k1518), .int (nI 1), .int (x1543)] [] dX5_answer_107 wPX5_125v wIX5_reported wSX5_reported iX5_reported oX5_reported rfl hok (sX5_reported Sc Γ n o ml (0) (sl1517) hB hml (by omega) (j1511) (by omega) (k1518) (by omega) (nI 1) (x1543)) (Nat.le_of_ble_eq_true rfl) (Nat.le_of_ble_eq_true rfl) (Nat.le_of_ble_eq_true rfl) rfl (fun _ _ _ q => by obtain ⟨q, _⟩ := q; obtain ⟨_, q⟩ := q; cases q) (fun v1544 h thv1544 sv1544 qv1544 hok => ?_)
                obtain ⟨qv1544, etv1544, hsv1544⟩ := qv1544
                rw [etv1544] at hok
                obtain ⟨x1545, qx1545⟩ := qv1544
                obtain rfl := Sum.inl.inj qx1545
                refine t_istore [.ref o, .int (nI j1511), .int (nI g1516), .int (x1520), .int (nI k1518), .int (nI (((48 * j1511) + (8 * g1516)) + (k1518))), .int (x1545)] (Or.inr ⟨rfl, dX5_answer_110⟩) (by decide) rfl ?_
                obtain ⟨y1546, hy1546⟩ : ∃ y1546 : Int32, x1520 + Int32.ofInt (1) = y1546 := ⟨_, rfl⟩
                refine t_iinc [.ref o, .int (nI j1511), .int (nI g1516), .int (y1546), .int (nI k1518), .int (nI (((48 * j1511) + (8 * g1516)) + (k1518))), .int (x1545)] dX5_answer_112 rfl hy1546 (by decide) rfl ?_
                refine t_iinc_n [.ref o, .int (nI j1511), .int (nI g1516), .int (y1546), .int (nI (k1518 + 1)), .int (nI (((48 * j1511) + (8 * g1516)) + (k1518))), .int (x1545)] dX5_answer_115 rfl (by decide) rfl ?_
                refine q_goto (tgt := 40) dX5_answer_118 (by decide) ?_
                refine q_weak [.ref o, .int (nI j1511), .int (nI g1516), .int (y1546), .int (nI (k1518 + 1)), .retAddr 0, .retAddr 0] ⟨Or.inl rfl, Or.inl rfl, Or.inl rfl, Or.inl rfl, Or.inl rfl, Or.inr ⟨0, rfl⟩, Or.inr ⟨0, rfl⟩, trivial⟩ ?_
                exact ihl1517 (k1518 + 1) (y1546) (sv1544) h (by omega) (by omega) hok
      exact hl1517 (8) 0 (nI 0) (s) h (by omega) (by omega) hok
    ·
      refine q_if_eq (tgt := 22) dX5_answer_15 (by decide) (fun _ => ?_) (fun q => absurd q (by decide))
      refine q_iconst (v := nI 1) dX5_answer_22 rfl ?_
      refine t_putc 0 (z' := 1) kX5 (by decide) wPX5_66 rfl dX5_answer_23 hok mG_o rfl ⟨rfl, rfl⟩ (fun h hok => ?_)
      replace hok := mG_setT hok
      refine q_aload_n dX5_answer_26 rfl ?_
      refine t_getc 0 kX5 (by decide) wPX5_66 dX5_answer_27 hok mG_o rfl ?_
      refine q_if_le (tgt := 35) dX5_answer_30 (by decide) (fun q => absurd q (by decide)) (fun _ => ?_)
      refine q_iconst (v := nI 0) dX5_answer_33 rfl ?_
      exact q_iret dX5_answer_34 rfl (rfl) ⟨1, s, ⟨⟨_, rfl⟩, by omega⟩, hok, rfl⟩
  ·
    refine q_if_eq (tgt := 22) dX5_answer_6 (by decide) (fun _ => ?_) (fun q => absurd q (by decide))
    refine q_iconst (v := nI 1) dX5_answer_22 rfl ?_
    refine t_putc 0 (z' := 1) kX5 (by decide) wPX5_66 rfl dX5_answer_23 hok mG_o rfl ⟨rfl, rfl⟩ (fun h hok => ?_)
    replace hok := mG_setT hok
    refine q_aload_n dX5_answer_26 rfl ?_
    refine t_getc 0 kX5 (by decide) wPX5_66 dX5_answer_27 hok mG_o rfl ?_
    refine q_if_le (tgt := 35) dX5_answer_30 (by decide) (fun q => absurd q (by decide)) (fun _ => ?_)
    refine q_iconst (v := nI 0) dX5_answer_33 rfl ?_
    exact q_iret dX5_answer_34 rfl (rfl) ⟨1, s, ⟨⟨_, rfl⟩, by omega⟩, hok, rfl⟩
