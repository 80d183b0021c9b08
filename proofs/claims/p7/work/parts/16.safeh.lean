set_option maxRecDepth 20000 in
set_option maxHeartbeats 4000000 in
theorem sX5_tickRecord (Sc : q_S) (Γ : Nat → q_K) (n o ml th s : Nat) (hB : mB Γ o) (hml : ml ≤ 4) (a1 : Nat) (b1 : a1 < 32) : q_mod Sc Γ o ml mX5_tickRecord [.ref o, .int (nI a1)] n th s (fun O th' s' => q_RV O ∧ th' = th ∧ s' = s) := by
  intro h hok
  show q_A Sc mX5_tickRecord 0 [.ref o, .int (nI a1), .retAddr 0, .retAddr 0, .retAddr 0, .retAddr 0] [] h n 0 0 (fun O h' n' => ∃ th' s', (fun O th' s' => q_RV O ∧ th' = th ∧ s' = s) O th' s' ∧ q_ok (mG Γ o ml th' s') h' ∧ n' = n)
  refine q_aload_n dX5_tickRecord_0 rfl ?_
  refine t_getr 9 kX5 (by decide) wPX5_31 dX5_tickRecord_1 hok mG_o rfl ?_
  refine q_iload_n dX5_tickRecord_4 rfl ?_
  refine t_iald dX5_tickRecord_5 hok (mG_a7 (ml := ml) (th := th) (s := s) hB) (by exact vp_in_nI (by omega) (by omega)) (fun x951 => ?_)
  refine q_iconst (v := nI 1) dX5_tickRecord_6 rfl ?_
  refine q_icmp_ne (tgt := 14) dX5_tickRecord_7 (by decide) (fun c952 => ?_) (fun c952 => ?_)
  ·
    refine q_iconst (v := nI 0) dX5_tickRecord_14 rfl ?_
    refine t_istore [.ref o, .int (nI a1), .int (nI 0), .retAddr 0, .retAddr 0, .retAddr 0] (Or.inl ⟨2, rfl, rfl, dX5_tickRecord_15⟩) (by decide) rfl ?_
    refine q_aload_n dX5_tickRecord_16 rfl ?_
    refine t_getr 9 kX5 (by decide) wPX5_31 dX5_tickRecord_17 hok mG_o rfl ?_
    refine q_iload_n dX5_tickRecord_20 rfl ?_
    refine q_aload_n dX5_tickRecord_21 rfl ?_
    refine t_getr 9 kX5 (by decide) wPX5_31 dX5_tickRecord_22 hok mG_o rfl ?_
    refine q_iload_n dX5_tickRecord_25 rfl ?_
    refine t_iald dX5_tickRecord_26 hok (mG_a7 (ml := ml) (th := th) (s := s) hB) (by exact vp_in_nI (by omega) (by omega)) (fun x953 => ?_)
    refine q_if_le (tgt := 41) dX5_tickRecord_27 (by decide) (fun c954 => ?_) (fun c954 => ?_)
    ·
      refine q_iconst (v := nI 0) dX5_tickRecord_41 rfl ?_
      refine t_iast dX5_tickRecord_42 hok (mG_a7 (ml := ml) (th := th) (s := s) hB) (by exact vp_in_nI (by omega) (by omega)) (fun h hok => ?_)
      refine q_iconst (v := nI 0) dX5_tickRecord_43 rfl ?_
      refine t_istore [.ref o, .int (nI a1), .int (nI 0), .int (nI 0), .retAddr 0, .retAddr 0] (Or.inl ⟨3, rfl, rfl, dX5_tickRecord_44⟩) (by decide) rfl ?_
      refine q_iconst (v := nI 0) dX5_tickRecord_45 rfl ?_
      refine t_istore [.ref o, .int (nI a1), .int (nI 0), .int (nI 0), .int (nI 0), .retAddr 0] (Or.inr ⟨rfl, dX5_tickRecord_46⟩) (by decide) rfl ?_
      have hl955 : ∀ (d957 k956 : Nat) (x958 : Int32) (h : q_H), k956 + d957 = 16 → q_ok (mG Γ o ml (th) (s)) h → q_A Sc mX5_tickRecord 48 [.ref o, .int (nI a1), .int (nI 0), .int (x958), .int (nI k956), .retAddr 0] [] h n 0 0 (fun O h' n' => ∃ th' s', (fun O th' s' => q_RV O ∧ th' = th ∧ s' = s) O th' s' ∧ q_ok (mG Γ o ml th' s') h' ∧ n' = n) := by
        intro d957
        induction d957 with
        | zero =>
          intro k956 x958 h el955 hok
          refine q_iload dX5_tickRecord_48 rfl ?_
          refine q_bipush (v := nI 16) dX5_tickRecord_50 rfl ?_
          refine t_icmp_ge_n (tgt := 117) (by omega) (by omega) dX5_tickRecord_52 (by decide) (fun c959 => ?_) (fun c959 => ?_)
          rotate_left
          · exact absurd c959 (by omega)
          refine q_aload_n dX5_tickRecord_117 rfl ?_
          refine t_getr 8 kX5 (by decide) wPX5_28 dX5_tickRecord_118 hok mG_o rfl ?_
          refine q_iload_n dX5_tickRecord_121 rfl ?_
          refine t_iald dX5_tickRecord_122 hok (mG_a6 (ml := ml) (th := th) (s := s) hB) (by exact vp_in_nI (by omega) (by omega)) (fun x960 => ?_)
          refine q_iconst (v := -1) dX5_tickRecord_123 rfl ?_
          refine q_icmp_ne (tgt := 128) dX5_tickRecord_124 (by decide) (fun c961 => ?_) (fun c961 => ?_)
          ·
            refine q_aload_n dX5_tickRecord_128 rfl ?_
            refine q_iload_n dX5_tickRecord_129 rfl ?_
            refine q_iconst (v := nI 1) dX5_tickRecord_130 rfl ?_
            refine t_callM (M' := mX5_setOf) [.int (nI a1), .int (nI 1)] [] dX5_tickRecord_131 wPX5_90v wIX5_setOf wSX5_setOf iX5_setOf oX5_setOf rfl hok (sX5_setOf Sc Γ n o ml (th) (s) hB hml (a1) (by omega) (nI 1)) (Nat.le_of_ble_eq_true rfl) (Nat.le_of_ble_eq_true rfl) (Nat.le_of_ble_eq_true rfl) rfl (fun _ _ _ q => by obtain ⟨q, _⟩ := q; obtain ⟨_, q⟩ := q; cases q) (fun v962 h thv962 sv962 qv962 hok => ?_)
            obtain ⟨qv962, etv962, esv962⟩ := qv962
            rw [etv962, esv962] at hok
            obtain ⟨x963, qx963⟩ := qv962
            obtain rfl := Sum.inl.inj qx963
            refine t_istore [.ref o, .int (nI a1), .int (nI 0), .int (x958), .int (x963), .retAddr 0] (Or.inr ⟨rfl, dX5_tickRecord_134⟩) (by decide) rfl ?_
            refine q_aload_n dX5_tickRecord_136 rfl ?_
            refine q_iload_n dX5_tickRecord_137 rfl ?_
            refine q_iconst (v := nI 2) dX5_tickRecord_138 rfl ?_
            refine t_callM (M' := mX5_setOf) [.int (nI a1), .int (nI 2)] [] dX5_tickRecord_139 wPX5_90v wIX5_setOf wSX5_setOf iX5_setOf oX5_setOf rfl hok (sX5_setOf Sc Γ n o ml (th) (s) hB hml (a1) (by omega) (nI 2)) (Nat.le_of_ble_eq_true rfl) (Nat.le_of_ble_eq_true rfl) (Nat.le_of_ble_eq_true rfl) rfl (fun _ _ _ q => by obtain ⟨q, _⟩ := q; obtain ⟨_, q⟩ := q; cases q) (fun v964 h thv964 sv964 qv964 hok => ?_)
            obtain ⟨qv964, etv964, esv964⟩ := qv964
            rw [etv964, esv964] at hok
            obtain ⟨x965, qx965⟩ := qv964
            obtain rfl := Sum.inl.inj qx965
            refine t_istore [.ref o, .int (nI a1), .int (nI 0), .int (x958), .int (x963), .int (x965)] (Or.inr ⟨rfl, dX5_tickRecord_142⟩) (by decide) rfl ?_
            refine q_aload_n dX5_tickRecord_144 rfl ?_
            refine t_getr 8 kX5 (by decide) wPX5_28 dX5_tickRecord_145 hok mG_o rfl ?_
            refine q_iload_n dX5_tickRecord_148 rfl ?_
            refine t_iald dX5_tickRecord_149 hok (mG_a6 (ml := ml) (th := th) (s := s) hB) (by exact vp_in_nI (by omega) (by omega)) (fun x966 => ?_)
            refine q_iconst (v := nI 1) dX5_tickRecord_150 rfl ?_
            refine q_icmp_ne (tgt := 177) dX5_tickRecord_151 (by decide) (fun c967 => ?_) (fun c967 => ?_)
            ·
              refine q_aload_n dX5_tickRecord_177 rfl ?_
              refine q_iload_n dX5_tickRecord_178 rfl ?_
              refine q_iconst (v := nI 0) dX5_tickRecord_179 rfl ?_
              refine q_iload dX5_tickRecord_180 rfl ?_
              refine q_iload_n dX5_tickRecord_182 rfl ?_
              refine q_iconst (v := -1) dX5_tickRecord_183 rfl ?_
              refine q_ixor dX5_tickRecord_184 ?_
              generalize (x958) ^^^ (-1) = z968
              refine q_iand dX5_tickRecord_185 ?_
              generalize (x963) &&& (z968) = z969
              refine q_iconst (v := nI 0) dX5_tickRecord_186 rfl ?_
              refine t_callM (M' := mX5_become) [.int (nI a1), .int (nI 0), .int (z969), .int (nI 0)] [] dX5_tickRecord_187 wPX5_94v wIX5_become wSX5_become iX5_become oX5_become rfl hok (sX5_become Sc Γ n o ml (th) (s) hB hml (a1) (by omega) (nI 0) (z969) (nI 0)) (Nat.le_of_ble_eq_true rfl) (Nat.le_of_ble_eq_true rfl) (Nat.le_of_ble_eq_true rfl) rfl (fun _ _ _ q => by obtain ⟨q, _⟩ := q; cases q) (fun v970 h thv970 sv970 qv970 hok => ?_)
              obtain ⟨qv970, etv970, esv970⟩ := qv970
              rw [etv970, esv970] at hok
              obtain rfl := Sum.inl.inj qv970
              exact q_vret dX5_tickRecord_190 rfl ⟨th, s, ⟨rfl, rfl, rfl⟩, hok, rfl⟩
            ·
              refine q_iload_n dX5_tickRecord_154 rfl ?_
              refine q_if_ne (tgt := 177) dX5_tickRecord_155 (by decide) (fun q => absurd q (by decide)) (fun _ => ?_)
              refine q_aload_n dX5_tickRecord_158 rfl ?_
              refine q_iload_n dX5_tickRecord_159 rfl ?_
              refine q_iconst (v := nI 1) dX5_tickRecord_160 rfl ?_
              refine q_iload dX5_tickRecord_161 rfl ?_
              refine q_iload_n dX5_tickRecord_163 rfl ?_
              refine q_iconst (v := -1) dX5_tickRecord_164 rfl ?_
              refine q_ixor dX5_tickRecord_165 ?_
              generalize (x958) ^^^ (-1) = z971
              refine q_iand dX5_tickRecord_166 ?_
              generalize (x963) &&& (z971) = z972
              refine q_iload dX5_tickRecord_167 rfl ?_
              refine q_iload_n dX5_tickRecord_169 rfl ?_
              refine q_ior dX5_tickRecord_170 ?_
              generalize (x965) ||| (x958) = z973
              refine t_callM (M' := mX5_become) [.int (nI a1), .int (nI 1), .int (z972), .int (z973)] [] dX5_tickRecord_171 wPX5_94v wIX5_become wSX5_become iX5_become oX5_become rfl hok (sX5_become Sc Γ n o ml (th) (s) hB hml (a1) (by omega) (nI 1) (z972) (z973)) (Nat.le_of_ble_eq_true rfl) (Nat.le_of_ble_eq_true rfl) (Nat.le_of_ble_eq_true rfl) rfl (fun _ _ _ q => by obtain ⟨q, _⟩ := q; cases q) (fun v974 h thv974 sv974 qv974 hok => ?_)
              obtain ⟨qv974, etv974, esv974⟩ := qv974
              rw [etv974, esv974] at hok
              obtain rfl := Sum.inl.inj qv974
              refine q_goto (tgt := 190) dX5_tickRecord_174 (by decide) ?_
              exact q_vret dX5_tickRecord_190 rfl ⟨th, s, ⟨rfl, rfl, rfl⟩, hok, rfl⟩
          ·
            exact q_vret dX5_tickRecord_127 rfl ⟨th, s, ⟨rfl, rfl, rfl⟩, hok, rfl⟩
        | succ d957 ihl955 =>
          intro k956 x958 h el955 hok
          refine q_iload dX5_tickRecord_48 rfl ?_
          refine q_bipush (v := nI 16) dX5_tickRecord_50 rfl ?_
          refine t_icmp_ge_n (tgt := 117) (by omega) (by omega) dX5_tickRecord_52 (by decide) (fun c975 => ?_) (fun c975 => ?_)
          · exact absurd c975 (by omega)
          refine q_aload_n dX5_tickRecord_55 rfl ?_
          refine t_getr 11 kX5 (by decide) wPX5_37 dX5_tickRecord_56 hok mG_o rfl ?_
          refine q_bipush (v := nI 16) dX5_tickRecord_59 rfl ?_
          refine q_iload_n dX5_tickRecord_61 rfl ?_
          refine t_imul_n dX5_tickRecord_62 ?_
          refine q_iload dX5_tickRecord_63 rfl ?_
          refine t_iadd_n dX5_tickRecord_65 ?_
          refine t_iald dX5_tickRecord_66 hok (mG_a9 (ml := ml) (th := th) (s := s) hB) (by exact vp_in_nI (by omega) (by omega)) (fun x976 => ?_)
          refine t_istore [.ref o, .int (nI a1), .int (nI 0), .int (x958), .int (nI k956), .int (x976)] (Or.inr ⟨rfl, dX5_tickRecord_67⟩) (by decide) rfl ?_
          refine q_iload dX5_tickRecord_69 rfl ?_
          refine q_iconst (v := nI 1) dX5_tickRecord_71 rfl ?_
          refine q_icmp_ne (tgt := 84) dX5_tickRecord_72 (by decide) (fun c977 => ?_) (fun c977 => ?_)
          ·
            refine q_iload_n dX5_tickRecord_84 rfl ?_
            refine t_istore [.ref o, .int (nI a1), .int (nI 0), .int (x958), .int (nI k956), .int (x976)] (Or.inl ⟨3, rfl, rfl, dX5_tickRecord_85⟩) (by decide) rfl ?_
            refine q_aload_n dX5_tickRecord_86 rfl ?_
            refine t_getr 11 kX5 (by decide) wPX5_37 dX5_tickRecord_87 hok mG_o rfl ?_
            refine q_bipush (v := nI 16) dX5_tickRecord_90 rfl ?_
            refine q_iload_n dX5_tickRecord_92 rfl ?_
            refine t_imul_n dX5_tickRecord_93 ?_
            refine q_iload dX5_tickRecord_94 rfl ?_
            refine t_iadd_n dX5_tickRecord_96 ?_
            refine q_iload dX5_tickRecord_97 rfl ?_
            refine q_if_le (tgt := 109) dX5_tickRecord_99 (by decide) (fun c978 => ?_) (fun c978 => ?_)
            ·
              refine q_iconst (v := nI 0) dX5_tickRecord_109 rfl ?_
              refine t_iast dX5_tickRecord_110 hok (mG_a9 (ml := ml) (th := th) (s := s) hB) (by exact vp_in_nI (by omega) (by omega)) (fun h hok => ?_)
              refine t_iinc_n [.ref o, .int (nI a1), .int (nI 0), .int (x958), .int (nI (k956 + 1)), .int (x976)] dX5_tickRecord_111 rfl (by decide) rfl ?_
              refine q_goto (tgt := 48) dX5_tickRecord_114 (by decide) ?_
              refine q_weak [.ref o, .int (nI a1), .int (nI 0), .int (x958), .int (nI (k956 + 1)), .retAddr 0] ⟨Or.inl rfl, Or.inl rfl, Or.inl rfl, Or.inl rfl, Or.inl rfl, Or.inr ⟨0, rfl⟩, trivial⟩ ?_
              exact ihl955 (k956 + 1) (x958) h (by omega) hok
            ·
              refine q_iload dX5_tickRecord_102 rfl ?_
              refine q_iconst (v := nI 1) dX5_tickRecord_104 rfl ?_
              refine q_isub dX5_tickRecord_105 ?_
              generalize (x976) - (nI 1) = z979
              refine q_goto (tgt := 110) dX5_tickRecord_106 (by decide) ?_
              refine t_iast dX5_tickRecord_110 hok (mG_a9 (ml := ml) (th := th) (s := s) hB) (by exact vp_in_nI (by omega) (by omega)) (fun h hok => ?_)
              refine t_iinc_n [.ref o, .int (nI a1), .int (nI 0), .int (x958), .int (nI (k956 + 1)), .int (x976)] dX5_tickRecord_111 rfl (by decide) rfl ?_
              refine q_goto (tgt := 48) dX5_tickRecord_114 (by decide) ?_
              refine q_weak [.ref o, .int (nI a1), .int (nI 0), .int (x958), .int (nI (k956 + 1)), .retAddr 0] ⟨Or.inl rfl, Or.inl rfl, Or.inl rfl, Or.inl rfl, Or.inl rfl, Or.inr ⟨0, rfl⟩, trivial⟩ ?_
              exact ihl955 (k956 + 1) (x958) h (by omega) hok
          ·
            refine q_iload_n dX5_tickRecord_75 rfl ?_
            refine q_iconst (v := nI 1) dX5_tickRecord_76 rfl ?_
            refine q_iload dX5_tickRecord_77 rfl ?_
            refine q_ishl dX5_tickRecord_79 ?_
            generalize (nI 1) <<< ((nI k956) &&& 31) = z980
            refine q_iadd dX5_tickRecord_80 ?_
            generalize (x958) + (z980) = z981
            refine q_goto (tgt := 85) dX5_tickRecord_81 (by decide) ?_
            refine t_istore [.ref o, .int (nI a1), .int (nI 0), .int (z981), .int (nI k956), .int (x976)] (Or.inl ⟨3, rfl, rfl, dX5_tickRecord_85⟩) (by decide) rfl ?_
            refine q_aload_n dX5_tickRecord_86 rfl ?_
            refine t_getr 11 kX5 (by decide) wPX5_37 dX5_tickRecord_87 hok mG_o rfl ?_
            refine q_bipush (v := nI 16) dX5_tickRecord_90 rfl ?_
            refine q_iload_n dX5_tickRecord_92 rfl ?_
            refine t_imul_n dX5_tickRecord_93 ?_
            refine q_iload dX5_tickRecord_94 rfl ?_
            refine t_iadd_n dX5_tickRecord_96 ?_
            refine q_iload dX5_tickRecord_97 rfl ?_
            refine q_if_le (tgt := 109) dX5_tickRecord_99 (by decide) (fun c982 => ?_) (fun c982 => ?_)
            ·
              refine q_iconst (v := nI 0) dX5_tickRecord_109 rfl ?_
              refine t_iast dX5_tickRecord_110 hok (mG_a9 (ml := ml) (th := th) (s := s) hB) (by exact vp_in_nI (by omega) (by omega)) (fun h hok => ?_)
              refine t_iinc_n [.ref o, .int (nI a1), .int (nI 0), .int (z981), .int (nI (k956 + 1)), .int (x976)] dX5_tickRecord_111 rfl (by decide) rfl ?_
              refine q_goto (tgt := 48) dX5_tickRecord_114 (by decide) ?_
              refine q_weak [.ref o, .int (nI a1), .int (nI 0), .int (z981), .int (nI (k956 + 1)), .retAddr 0] ⟨Or.inl rfl, Or.inl rfl, Or.inl rfl, Or.inl rfl, Or.inl rfl, Or.inr ⟨0, rfl⟩, trivial⟩ ?_
              exact ihl955 (k956 + 1) (z981) h (by omega) hok
            ·
              refine q_iload dX5_tickRecord_102 rfl ?_
              refine q_iconst (v := nI 1) dX5_tickRecord_104 rfl ?_
              refine q_isub dX5_tickRecord_105 ?_
              generalize (x976) - (nI 1) = z983
              refine q_goto (tgt := 110) dX5_tickRecord_106 (by decide) ?_
              refine t_iast dX5_tickRecord_110 hok (mG_a9 (ml := ml) (th := th) (s := s) hB) (by exact vp_in_nI (by omega) (by omega)) (fun h hok => ?_)
              refine t_iinc_n [.ref o, .int (nI a1), .int (nI 0), .int (z981), .int (nI (k956 + 1)), .int (x976)] dX5_tickRecord_111 rfl (by decide) rfl ?_
              refine q_goto (tgt := 48) dX5_tickRecord_114 (by decide) ?_
              refine q_weak [.ref o, .int (nI a1), .int (nI 0), .int (z981), .int (nI (k956 + 1)), .retAddr 0] ⟨Or.inl rfl, Or.inl rfl, Or.inl rfl, Or.inl rfl, Or.inl rfl, Or.inr ⟨0, rfl⟩, trivial⟩ ?_
              exact ihl955 (k956 + 1) (z981) h (by omega) hok
      exact hl955 (16) 0 (nI 0) h (by omega) hok
    ·
      refine q_aload_n dX5_tickRecord_30 rfl ?_
      refine t_getr 9 kX5 (by decide) wPX5_31 dX5_tickRecord_31 hok mG_o rfl ?_
      refine q_iload_n dX5_tickRecord_34 rfl ?_
      refine t_iald dX5_tickRecord_35 hok (mG_a7 (ml := ml) (th := th) (s := s) hB) (by exact vp_in_nI (by omega) (by omega)) (fun x984 => ?_)
      refine q_iconst (v := nI 1) dX5_tickRecord_36 rfl ?_
      refine q_isub dX5_tickRecord_37 ?_
      generalize (x984) - (nI 1) = z985
      refine q_goto (tgt := 42) dX5_tickRecord_38 (by decide) ?_
      refine t_iast dX5_tickRecord_42 hok (mG_a7 (ml := ml) (th := th) (s := s) hB) (by exact vp_in_nI (by omega) (by omega)) (fun h hok => ?_)
      refine q_iconst (v := nI 0) dX5_tickRecord_43 rfl ?_
      refine t_istore [.ref o, .int (nI a1), .int (nI 0), .int (nI 0), .retAddr 0, .retAddr 0] (Or.inl ⟨3, rfl, rfl, dX5_tickRecord_44⟩) (by decide) rfl ?_
      refine q_iconst (v := nI 0) dX5_tickRecord_45 rfl ?_
      refine t_istore [.ref o, .int (nI a1), .int (nI 0), .int (nI 0), .int (nI 0), .retAddr 0] (Or.inr ⟨rfl, dX5_tickRecord_46⟩) (by decide) rfl ?_
      have hl986 : ∀ (d988 k987 : Nat) (x989 : Int32) (h : q_H), k987 + d988 = 16 → q_ok (mG Γ o ml (th) (s)) h → q_A Sc mX5_tickRecord 48 [.ref o, .int (nI a1), .int (nI 0), .int (x989), .int (nI k987), .retAddr 0] [] h n 0 0 (fun O h' n' => ∃ th' s', (fun O th' s' => q_RV O ∧ th' = th ∧ s' = s) O th' s' ∧ q_ok (mG Γ o ml th' s') h' ∧ n' = n) := by
        intro d988
        induction d988 with
        | zero =>
          intro k987 x989 h el986 hok
          refine q_iload dX5_tickRecord_48 rfl ?_
          refine q_bipush (v := nI 16) dX5_tickRecord_50 rfl ?_
          refine t_icmp_ge_n (tgt := 117) (by omega) (by omega) dX5_tickRecord_52 (by decide) (fun c990 => ?_) (fun c990 => ?_)
          rotate_left
          · exact absurd c990 (by omega)
          refine q_aload_n dX5_tickRecord_117 rfl ?_
          refine t_getr 8 kX5 (by decide) wPX5_28 dX5_tickRecord_118 hok mG_o rfl ?_
          refine q_iload_n dX5_tickRecord_121 rfl ?_
          refine t_iald dX5_tickRecord_122 hok (mG_a6 (ml := ml) (th := th) (s := s) hB) (by exact vp_in_nI (by omega) (by omega)) (fun x991 => ?_)
          refine q_iconst (v := -1) dX5_tickRecord_123 rfl ?_
          refine q_icmp_ne (tgt := 128) dX5_tickRecord_124 (by decide) (fun c992 => ?_) (fun c992 => ?_)
          ·
            refine q_aload_n dX5_tickRecord_128 rfl ?_
            refine q_iload_n dX5_tickRecord_129 rfl ?_
            refine q_iconst (v := nI 1) dX5_tickRecord_130 rfl ?_
            refine t_callM (M' := mX5_setOf) [.int (nI a1), .int (nI 1)] [] dX5_tickRecord_131 wPX5_90v wIX5_setOf wSX5_setOf iX5_setOf oX5_setOf rfl hok (sX5_setOf Sc Γ n o ml (th) (s) hB hml (a1) (by omega) (nI 1)) (Nat.le_of_ble_eq_true rfl) (Nat.le_of_ble_eq_true rfl) (Nat.le_of_ble_eq_true rfl) rfl (fun _ _ _ q => by obtain ⟨q, _⟩ := q; obtain ⟨_, q⟩ := q; cases q) (fun v993 h thv993 sv993 qv993 hok => ?_)
            obtain ⟨qv993, etv993, esv993⟩ := qv993
            rw [etv993, esv993] at hok
            obtain ⟨x994, qx994⟩ := qv993
            obtain rfl := Sum.inl.inj qx994
            refine t_istore [.ref o, .int (nI a1), .int (nI 0), .int (x989), .int (x994), .retAddr 0] (Or.inr ⟨rfl, dX5_tickRecord_134⟩) (by decide) rfl ?_
            refine q_aload_n dX5_tickRecord_136 rfl ?_
            refine q_iload_n dX5_tickRecord_137 rfl ?_
            refine q_iconst (v := nI 2) dX5_tickRecord_138 rfl ?_
            refine t_callM (M' := mX5_setOf) [.int (nI a1), .int (nI 2)] [] dX5_tickRecord_139 wPX5_90v wIX5_setOf wSX5_setOf iX5_setOf oX5_setOf rfl hok (sX5_setOf Sc Γ n o ml (th) (s) hB hml (a1) (by omega) (nI 2)) (Nat.le_of_ble_eq_true rfl) (Nat.le_of_ble_eq_true rfl) (Nat.le_of_ble_eq_true rfl) rfl (fun _ _ _ q => by obtain ⟨q, _⟩ := q; obtain ⟨_, q⟩ := q; cases q) (fun v995 h thv995 sv995 qv995 hok => ?_)
            obtain ⟨qv995, etv995, esv995⟩ := qv995
            rw [etv995, esv995] at hok
            obtain ⟨x996, qx996⟩ := qv995
            obtain rfl := Sum.inl.inj qx996
            refine t_istore [.ref o, .int (nI a1), .int (nI 0), .int (x989), .int (x994), .int (x996)] (Or.inr ⟨rfl, dX5_tickRecord_142⟩) (by decide) rfl ?_
            refine q_aload_n dX5_tickRecord_144 rfl ?_
            refine t_getr 8 kX5 (by decide) wPX5_28 dX5_tickRecord_145 hok mG_o rfl ?_
            refine q_iload_n dX5_tickRecord_148 rfl ?_
            refine t_iald dX5_tickRecord_149 hok (mG_a6 (ml := ml) (th := th) (s := s) hB) (by exact vp_in_nI (by omega) (by omega)) (fun x997 => ?_)
            refine q_iconst (v := nI 1) dX5_tickRecord_150 rfl ?_
            refine q_icmp_ne (tgt := 177) dX5_tickRecord_151 (by decide) (fun c998 => ?_) (fun c998 => ?_)
            ·
              refine q_aload_n dX5_tickRecord_177 rfl ?_
              refine q_iload_n dX5_tickRecord_178 rfl ?_
              refine q_iconst (v := nI 0) dX5_tickRecord_179 rfl ?_
              refine q_iload dX5_tickRecord_180 rfl ?_
              refine q_iload_n dX5_tickRecord_182 rfl ?_
              refine q_iconst (v := -1) dX5_tickRecord_183 rfl ?_
              refine q_ixor dX5_tickRecord_184 ?_
              generalize (x989) ^^^ (-1) = z999
              refine q_iand dX5_tickRecord_185 ?_
              generalize (x994) &&& (z999) = z1000
              refine q_iconst (v := nI 0) dX5_tickRecord_186 rfl ?_
              refine t_callM (M' := mX5_become) [.int (nI a1), .int (nI 0), .int (z1000), .int (nI 0)] [] dX5_tickRecord_187 wPX5_94v wIX5_become wSX5_become iX5_become oX5_become rfl hok (sX5_become Sc Γ n o ml (th) (s) hB hml (a1) (by omega) (nI 0) (z1000) (nI 0)) (Nat.le_of_ble_eq_true rfl) (Nat.le_of_ble_eq_true rfl) (Nat.le_of_ble_eq_true rfl) rfl (fun _ _ _ q => by obtain ⟨q, _⟩ := q; cases q) (fun v1001 h thv1001 sv1001 qv1001 hok => ?_)
              obtain ⟨qv1001, etv1001, esv1001⟩ := qv1001
              rw [etv1001, esv1001] at hok
              obtain rfl := Sum.inl.inj qv1001
              exact q_vret dX5_tickRecord_190 rfl ⟨th, s, ⟨rfl, rfl, rfl⟩, hok, rfl⟩
            ·
              refine q_iload_n dX5_tickRecord_154 rfl ?_
              refine q_if_ne (tgt := 177) dX5_tickRecord_155 (by decide) (fun q => absurd q (by decide)) (fun _ => ?_)
              refine q_aload_n dX5_tickRecord_158 rfl ?_
              refine q_iload_n dX5_tickRecord_159 rfl ?_
              refine q_iconst (v := nI 1) dX5_tickRecord_160 rfl ?_
              refine q_iload dX5_tickRecord_161 rfl ?_
              refine q_iload_n dX5_tickRecord_163 rfl ?_
              refine q_iconst (v := -1) dX5_tickRecord_164 rfl ?_
              refine q_ixor dX5_tickRecord_165 ?_
              generalize (x989) ^^^ (-1) = z1002
              refine q_iand dX5_tickRecord_166 ?_
              generalize (x994) &&& (z1002) = z1003
              refine q_iload dX5_tickRecord_167 rfl ?_
              refine q_iload_n dX5_tickRecord_169 rfl ?_
              refine q_ior dX5_tickRecord_170 ?_
              generalize (x996) ||| (x989) = z1004
              refine t_callM (M' := mX5_become) [.int (nI a1), .int (nI 1), .int (z1003), .int (z1004)] [] dX5_tickRecord_171 wPX5_94v wIX5_become wSX5_become iX5_become oX5_become rfl hok (sX5_become Sc Γ n o ml (th) (s) hB hml (a1) (by omega) (nI 1) (z1003) (z1004)) (Nat.le_of_ble_eq_true rfl) (Nat.le_of_ble_eq_true rfl) (Nat.le_of_ble_eq_true rfl) rfl (fun _ _ _ q => by obtain ⟨q, _⟩ := q; cases q) (fun v1005 h thv1005 sv1005 qv1005 hok => ?_)
              obtain ⟨qv1005, etv1005, esv1005⟩ := qv1005
              rw [etv1005, esv1005] at hok
              obtain rfl := Sum.inl.inj qv1005
              refine q_goto (tgt := 190) dX5_tickRecord_174 (by decide) ?_
              exact q_vret dX5_tickRecord_190 rfl ⟨th, s, ⟨rfl, rfl, rfl⟩, hok, rfl⟩
          ·
            exact q_vret dX5_tickRecord_127 rfl ⟨th, s, ⟨rfl, rfl, rfl⟩, hok, rfl⟩
        | succ d988 ihl986 =>
          intro k987 x989 h el986 hok
          refine q_iload dX5_tickRecord_48 rfl ?_
          refine q_bipush (v := nI 16) dX5_tickRecord_50 rfl ?_
          refine t_icmp_ge_n (tgt := 117) (by omega) (by omega) dX5_tickRecord_52 (by decide) (fun c1006 => ?_) (fun c1006 => ?_)
          · exact absurd c1006 (by omega)
          refine q_aload_n dX5_tickRecord_55 rfl ?_
          refine t_getr 11 kX5 (by decide) wPX5_37 dX5_tickRecord_56 hok mG_o rfl ?_
          refine q_bipush (v := nI 16) dX5_tickRecord_59 rfl ?_
          refine q_iload_n dX5_tickRecord_61 rfl ?_
          refine t_imul_n dX5_tickRecord_62 ?_
          refine q_iload dX5_tickRecord_63 rfl ?_
          refine t_iadd_n dX5_tickRecord_65 ?_
          refine t_iald dX5_tickRecord_66 hok (mG_a9 (ml := ml) (th := th) (s := s) hB) (by exact vp_in_nI (by omega) (by omega)) (fun x1007 => ?_)
          refine t_istore [.ref o, .int (nI a1), .int (nI 0), .int (x989), .int (nI k987), .int (x1007)] (Or.inr ⟨rfl, dX5_tickRecord_67⟩) (by decide) rfl ?_
          refine q_iload dX5_tickRecord_69 rfl ?_
          refine q_iconst (v := nI 1) dX5_tickRecord_71 rfl ?_
          refine q_icmp_ne (tgt := 84) dX5_tickRecord_72 (by decide) (fun c1008 => ?_) (fun c1008 => ?_)
          ·
            refine q_iload_n dX5_tickRecord_84 rfl ?_
            refine t_istore [.ref o, .int (nI a1), .int (nI 0), .int (x989), .int (nI k987), .int (x1007)] (Or.inl ⟨3, rfl, rfl, dX5_tickRecord_85⟩) (by decide) rfl ?_
            refine q_aload_n dX5_tickRecord_86 rfl ?_
            refine t_getr 11 kX5 (by decide) wPX5_37 dX5_tickRecord_87 hok mG_o rfl ?_
            refine q_bipush (v := nI 16) dX5_tickRecord_90 rfl ?_
            refine q_iload_n dX5_tickRecord_92 rfl ?_
            refine t_imul_n dX5_tickRecord_93 ?_
            refine q_iload dX5_tickRecord_94 rfl ?_
            refine t_iadd_n dX5_tickRecord_96 ?_
            refine q_iload dX5_tickRecord_97 rfl ?_
            refine q_if_le (tgt := 109) dX5_tickRecord_99 (by decide) (fun c1009 => ?_) (fun c1009 => ?_)
            ·
              refine q_iconst (v := nI 0) dX5_tickRecord_109 rfl ?_
              refine t_iast dX5_tickRecord_110 hok (mG_a9 (ml := ml) (th := th) (s := s) hB) (by exact vp_in_nI (by omega) (by omega)) (fun h hok => ?_)
              refine t_iinc_n [.ref o, .int (nI a1), .int (nI 0), .int (x989), .int (nI (k987 + 1)), .int (x1007)] dX5_tickRecord_111 rfl (by decide) rfl ?_
              refine q_goto (tgt := 48) dX5_tickRecord_114 (by decide) ?_
              refine q_weak [.ref o, .int (nI a1), .int (nI 0), .int (x989), .int (nI (k987 + 1)), .retAddr 0] ⟨Or.inl rfl, Or.inl rfl, Or.inl rfl, Or.inl rfl, Or.inl rfl, Or.inr ⟨0, rfl⟩, trivial⟩ ?_
              exact ihl986 (k987 + 1) (x989) h (by omega) hok
            ·
              refine q_iload dX5_tickRecord_102 rfl ?_
              refine q_iconst (v := nI 1) dX5_tickRecord_104 rfl ?_
              refine q_isub dX5_tickRecord_105 ?_
              generalize (x1007) - (nI 1) = z1010
              refine q_goto (tgt := 110) dX5_tickRecord_106 (by decide) ?_
              refine t_iast dX5_tickRecord_110 hok (mG_a9 (ml := ml) (th := th) (s := s) hB) (by exact vp_in_nI (by omega) (by omega)) (fun h hok => ?_)
              refine t_iinc_n [.ref o, .int (nI a1), .int (nI 0), .int (x989), .int (nI (k987 + 1)), .int (x1007)] dX5_tickRecord_111 rfl (by decide) rfl ?_
              refine q_goto (tgt := 48) dX5_tickRecord_114 (by decide) ?_
              refine q_weak [.ref o, .int (nI a1), .int (nI 0), .int (x989), .int (nI (k987 + 1)), .retAddr 0] ⟨Or.inl rfl, Or.inl rfl, Or.inl rfl, Or.inl rfl, Or.inl rfl, Or.inr ⟨0, rfl⟩, trivial⟩ ?_
              exact ihl986 (k987 + 1) (x989) h (by omega) hok
          ·
            refine q_iload_n dX5_tickRecord_75 rfl ?_
            refine q_iconst (v := nI 1) dX5_tickRecord_76 rfl ?_
            refine q_iload dX5_tickRecord_77 rfl ?_
            refine q_ishl dX5_tickRecord_79 ?_
            generalize (nI 1) <<< ((nI k987) &&& 31) = z1011
            refine q_iadd dX5_tickRecord_80 ?_
            generalize (x989) + (z1011) = z1012
            refine q_goto (tgt := 85) dX5_tickRecord_81 (by decide) ?_
            refine t_istore [.ref o, .int (nI a1), .int (nI 0), .int (z1012), .int (nI k987), .int (x1007)] (Or.inl ⟨3, rfl, rfl, dX5_tickRecord_85⟩) (by decide) rfl ?_
            refine q_aload_n dX5_tickRecord_86 rfl ?_
            refine t_getr 11 kX5 (by decide) wPX5_37 dX5_tickRecord_87 hok mG_o rfl ?_
            refine q_bipush (v := nI 16) dX5_tickRecord_90 rfl ?_
            refine q_iload_n dX5_tickRecord_92 rfl ?_
            refine t_imul_n dX5_tickRecord_93 ?_
            refine q_iload dX5_tickRecord_94 rfl ?_
            refine t_iadd_n dX5_tickRecord_96 ?_
            refine q_iload dX5_tickRecord_97 rfl ?_
            refine q_if_le (tgt := 109) dX5_tickRecord_99 (by decide) (fun c1013 => ?_) (fun c1013 => ?_)
            ·
              refine q_iconst (v := nI 0) dX5_tickRecord_109 rfl ?_
              refine t_iast dX5_tickRecord_110 hok (mG_a9 (ml := ml) (th := th) (s := s) hB) (by exact vp_in_nI (by omega) (by omega)) (fun h hok => ?_)
              refine t_iinc_n [.ref o, .int (nI a1), .int (nI 0), .int (z1012), .int (nI (k987 + 1)), .int (x1007)] dX5_tickRecord_111 rfl (by decide) rfl ?_
              refine q_goto (tgt := 48) dX5_tickRecord_114 (by decide) ?_
              refine q_weak [.ref o, .int (nI a1), .int (nI 0), .int (z1012), .int (nI (k987 + 1)), .retAddr 0] ⟨Or.inl rfl, Or.inl rfl, Or.inl rfl, Or.inl rfl, Or.inl rfl, Or.inr ⟨0, rfl⟩, trivial⟩ ?_
              exact ihl986 (k987 + 1) (z1012) h (by omega) hok
            ·
              refine q_iload dX5_tickRecord_102 rfl ?_
              refine q_iconst (v := nI 1) dX5_tickRecord_104 rfl ?_
              refine q_isub dX5_tickRecord_105 ?_
              generalize (x1007) - (nI 1) = z1014
              refine q_goto (tgt := 110) dX5_tickRecord_106 (by decide) ?_
              refine t_iast dX5_tickRecord_110 hok (mG_a9 (ml := ml) (th := th) (s := s) hB) (by exact vp_in_nI (by omega) (by omega)) (fun h hok => ?_)
              refine t_iinc_n [.ref o, .int (nI a1), .int (nI 0), .int (z1012), .int (nI (k987 + 1)), .int (x1007)] dX5_tickRecord_111 rfl (by decide) rfl ?_
              refine q_goto (tgt := 48) dX5_tickRecord_114 (by decide) ?_
              refine q_weak [.ref o, .int (nI a1), .int (nI 0), .int (z1012), .int (nI (k987 + 1)), .retAddr 0] ⟨Or.inl rfl, Or.inl rfl, Or.inl rfl, Or.inl rfl, Or.inl rfl, Or.inr ⟨0, rfl⟩, trivial⟩ ?_
              exact ihl986 (k987 + 1) (z1012) h (by omega) hok
      exact hl986 (16) 0 (nI 0) h (by omega) hok
  ·
    refine q_iconst (v := nI 1) dX5_tickRecord_10 rfl ?_
    refine q_goto (tgt := 15) dX5_tickRecord_11 (by decide) ?_
    refine t_istore [.ref o, .int (nI a1), .int (nI 1), .retAddr 0, .retAddr 0, .retAddr 0] (Or.inl ⟨2, rfl, rfl, dX5_tickRecord_15⟩) (by decide) rfl ?_
    refine q_aload_n dX5_tickRecord_16 rfl ?_
    refine t_getr 9 kX5 (by decide) wPX5_31 dX5_tickRecord_17 hok mG_o rfl ?_
    refine q_iload_n dX5_tickRecord_20 rfl ?_
    refine q_aload_n dX5_tickRecord_21 rfl ?_
    refine t_getr 9 kX5 (by decide) wPX5_31 dX5_tickRecord_22 hok mG_o rfl ?_
    refine q_iload_n dX5_tickRecord_25 rfl ?_
    refine t_iald dX5_tickRecord_26 hok (mG_a7 (ml := ml) (th := th) (s := s) hB) (by exact vp_in_nI (by omega) (by omega)) (fun x1015 => ?_)
    refine q_if_le (tgt := 41) dX5_tickRecord_27 (by decide) (fun c1016 => ?_) (fun c1016 => ?_)
    ·
      refine q_iconst (v := nI 0) dX5_tickRecord_41 rfl ?_
      refine t_iast dX5_tickRecord_42 hok (mG_a7 (ml := ml) (th := th) (s := s) hB) (by exact vp_in_nI (by omega) (by omega)) (fun h hok => ?_)
      refine q_iconst (v := nI 0) dX5_tickRecord_43 rfl ?_
      refine t_istore [.ref o, .int (nI a1), .int (nI 1), .int (nI 0), .retAddr 0, .retAddr 0] (Or.inl ⟨3, rfl, rfl, dX5_tickRecord_44⟩) (by decide) rfl ?_
      refine q_iconst (v := nI 0) dX5_tickRecord_45 rfl ?_
      refine t_istore [.ref o, .int (nI a1), .int (nI 1), .int (nI 0), .int (nI 0), .retAddr 0] (Or.inr ⟨rfl, dX5_tickRecord_46⟩) (by decide) rfl ?_
      have hl1017 : ∀ (d1019 k1018 : Nat) (x1020 : Int32) (h : q_H), k1018 + d1019 = 16 → q_ok (mG Γ o ml (th) (s)) h → q_A Sc mX5_tickRecord 48 [.ref o, .int (nI a1), .int (nI 1), .int (x1020), .int (nI k1018), .retAddr 0] [] h n 0 0 (fun O h' n' => ∃ th' s', (fun O th' s' => q_RV O ∧ th' = th ∧ s' = s) O th' s' ∧ q_ok (mG Γ o ml th' s') h' ∧ n' = n) := by
        intro d1019
        induction d1019 with
        | zero =>
          intro k1018 x1020 h el1017 hok
          refine q_iload dX5_tickRecord_48 rfl ?_
          refine q_bipush (v := nI 16) dX5_tickRecord_50 rfl ?_
          refine t_icmp_ge_n (tgt := 117) (by omega) (by omega) dX5_tickRecord_52 (by decide) (fun c1021 => ?_) (fun c1021 => ?_)
          rotate_left
          · exact absurd c1021 (by omega)
          refine q_aload_n dX5_tickRecord_117 rfl ?_
          refine t_getr 8 kX5 (by decide) wPX5_28 dX5_tickRecord_118 hok mG_o rfl ?_
          refine q_iload_n dX5_tickRecord_121 rfl ?_
          refine t_iald dX5_tickRecord_122 hok (mG_a6 (ml := ml) (th := th) (s := s) hB) (by exact vp_in_nI (by omega) (by omega)) (fun x1022 => ?_)
          refine q_iconst (v := -1) dX5_tickRecord_123 rfl ?_
          refine q_icmp_ne (tgt := 128) dX5_tickRecord_124 (by decide) (fun c1023 => ?_) (fun c1023 => ?_)
          ·
            refine q_aload_n dX5_tickRecord_128 rfl ?_
            refine q_iload_n dX5_tickRecord_129 rfl ?_
            refine q_iconst (v := nI 1) dX5_tickRecord_130 rfl ?_
            refine t_callM (M' := mX5_setOf) [.int (nI a1), .int (nI 1)] [] dX5_tickRecord_131 wPX5_90v wIX5_setOf wSX5_setOf iX5_setOf oX5_setOf rfl hok (sX5_setOf Sc Γ n o ml (th) (s) hB hml (a1) (by omega) (nI 1)) (Nat.le_of_ble_eq_true rfl) (Nat.le_of_ble_eq_true rfl) (Nat.le_of_ble_eq_true rfl) rfl (fun _ _ _ q => by obtain ⟨q, _⟩ := q; obtain ⟨_, q⟩ := q; cases q) (fun v1024 h thv1024 sv1024 qv1024 hok => ?_)
            obtain ⟨qv1024, etv1024, esv1024⟩ := qv1024
            rw [etv1024, esv1024] at hok
            obtain ⟨x1025, qx1025⟩ := qv1024
            obtain rfl := Sum.inl.inj qx1025
            refine t_istore [.ref o, .int (nI a1), .int (nI 1), .int (x1020), .int (x1025), .retAddr 0] (Or.inr ⟨rfl, dX5_tickRecord_134⟩) (by decide) rfl ?_
            refine q_aload_n dX5_tickRecord_136 rfl ?_
            refine q_iload_n dX5_tickRecord_137 rfl ?_
            refine q_iconst (v := nI 2) dX5_tickRecord_138 rfl ?_
            refine t_callM (M' := mX5_setOf) [.int (nI a1), .int (nI 2)] [] dX5_tickRecord_139 wPX5_90v wIX5_setOf wSX5_setOf iX5_setOf oX5_setOf rfl hok (sX5_setOf Sc Γ n o ml (th) (s) hB hml (a1) (by omega) (nI 2)) (Nat.le_of_ble_eq_true rfl) (Nat.le_of_ble_eq_true rfl) (Nat.le_of_ble_eq_true rfl) rfl (fun _ _ _ q => by obtain ⟨q, _⟩ := q; obtain ⟨_, q⟩ := q; cases q) (fun v1026 h thv1026 sv1026 qv1026 hok => ?_)
            obtain ⟨qv1026, etv1026, esv1026⟩ := qv1026
            rw [etv1026, esv1026] at hok
            obtain ⟨x1027, qx1027⟩ := qv1026
            obtain rfl := Sum.inl.inj qx1027
            refine t_istore [.ref o, .int (nI a1), .int (nI 1), .int (x1020), .int (x1025), .int (x1027)] (Or.inr ⟨rfl, dX5_tickRecord_142⟩) (by decide) rfl ?_
            refine q_aload_n dX5_tickRecord_144 rfl ?_
            refine t_getr 8 kX5 (by decide) wPX5_28 dX5_tickRecord_145 hok mG_o rfl ?_
            refine q_iload_n dX5_tickRecord_148 rfl ?_
            refine t_iald dX5_tickRecord_149 hok (mG_a6 (ml := ml) (th := th) (s := s) hB) (by exact vp_in_nI (by omega) (by omega)) (fun x1028 => ?_)
            refine q_iconst (v := nI 1) dX5_tickRecord_150 rfl ?_
            refine q_icmp_ne (tgt := 177) dX5_tickRecord_151 (by decide) (fun c1029 => ?_) (fun c1029 => ?_)
            ·
              refine q_aload_n dX5_tickRecord_177 rfl ?_
              refine q_iload_n dX5_tickRecord_178 rfl ?_
              refine q_iconst (v := nI 0) dX5_tickRecord_179 rfl ?_
              refine q_iload dX5_tickRecord_180 rfl ?_
              refine q_iload_n dX5_tickRecord_182 rfl ?_
              refine q_iconst (v := -1) dX5_tickRecord_183 rfl ?_
              refine q_ixor dX5_tickRecord_184 ?_
              generalize (x1020) ^^^ (-1) = z1030
              refine q_iand dX5_tickRecord_185 ?_
              generalize (x1025) &&& (z1030) = z1031
              refine q_iconst (v := nI 0) dX5_tickRecord_186 rfl ?_
              refine t_callM (M' := mX5_become) [.int (nI a1), .int (nI 0), .int (z1031), .int (nI 0)] [] dX5_tickRecord_187 wPX5_94v wIX5_become wSX5_become iX5_become oX5_become rfl hok (sX5_become Sc Γ n o ml (th) (s) hB hml (a1) (by omega) (nI 0) (z1031) (nI 0)) (Nat.le_of_ble_eq_true rfl) (Nat.le_of_ble_eq_true rfl) (Nat.le_of_ble_eq_true rfl) rfl (fun _ _ _ q => by obtain ⟨q, _⟩ := q; cases q) (fun v1032 h thv1032 sv1032 qv1032 hok => ?_)
              obtain ⟨qv1032, etv1032, esv1032⟩ := qv1032
              rw [etv1032, esv1032] at hok
              obtain rfl := Sum.inl.inj qv1032
              exact q_vret dX5_tickRecord_190 rfl ⟨th, s, ⟨rfl, rfl, rfl⟩, hok, rfl⟩
            ·
              refine q_iload_n dX5_tickRecord_154 rfl ?_
              refine q_if_ne (tgt := 177) dX5_tickRecord_155 (by decide) (fun _ => ?_) (fun q => absurd q (by decide))
              refine q_aload_n dX5_tickRecord_177 rfl ?_
              refine q_iload_n dX5_tickRecord_178 rfl ?_
              refine q_iconst (v := nI 0) dX5_tickRecord_179 rfl ?_
              refine q_iload dX5_tickRecord_180 rfl ?_
              refine q_iload_n dX5_tickRecord_182 rfl ?_
              refine q_iconst (v := -1) dX5_tickRecord_183 rfl ?_
              refine q_ixor dX5_tickRecord_184 ?_
              generalize (x1020) ^^^ (-1) = z1033
              refine q_iand dX5_tickRecord_185 ?_
              generalize (x1025) &&& (z1033) = z1034
              refine q_iconst (v := nI 0) dX5_tickRecord_186 rfl ?_
              refine t_callM (M' := mX5_become) [.int (nI a1), .int (nI 0), .int (z1034), .int (nI 0)] [] dX5_tickRecord_187 wPX5_94v wIX5_become wSX5_become iX5_become oX5_become rfl hok (sX5_become Sc Γ n o ml (th) (s) hB hml (a1) (by omega) (nI 0) (z1034) (nI 0)) (Nat.le_of_ble_eq_true rfl) (Nat.le_of_ble_eq_true rfl) (Nat.le_of_ble_eq_true rfl) rfl (fun _ _ _ q => by obtain ⟨q, _⟩ := q; cases q) (fun v1035 h thv1035 sv1035 qv1035 hok => ?_)
              obtain ⟨qv1035, etv1035, esv1035⟩ := qv1035
              rw [etv1035, esv1035] at hok
              obtain rfl := Sum.inl.inj qv1035
              exact q_vret dX5_tickRecord_190 rfl ⟨th, s, ⟨rfl, rfl, rfl⟩, hok, rfl⟩
          ·
            exact q_vret dX5_tickRecord_127 rfl ⟨th, s, ⟨rfl, rfl, rfl⟩, hok, rfl⟩
        | succ d1019 ihl1017 =>
          intro k1018 x1020 h el1017 hok
          refine q_iload dX5_tickRecord_48 rfl ?_
          refine q_bipush (v := nI 16) dX5_tickRecord_50 rfl ?_
          refine t_icmp_ge_n (tgt := 117) (by omega) (by omega) dX5_tickRecord_52 (by decide) (fun c1036 => ?_) (fun c1036 => ?_)
          · exact absurd c1036 (by omega)
          refine q_aload_n dX5_tickRecord_55 rfl ?_
          refine t_getr 11 kX5 (by decide) wPX5_37 dX5_tickRecord_56 hok mG_o rfl ?_
          refine q_bipush (v := nI 16) dX5_tickRecord_59 rfl ?_
          refine q_iload_n dX5_tickRecord_61 rfl ?_
          refine t_imul_n dX5_tickRecord_62 ?_
          refine q_iload dX5_tickRecord_63 rfl ?_
          refine t_iadd_n dX5_tickRecord_65 ?_
          refine t_iald dX5_tickRecord_66 hok (mG_a9 (ml := ml) (th := th) (s := s) hB) (by exact vp_in_nI (by omega) (by omega)) (fun x1037 => ?_)
          refine t_istore [.ref o, .int (nI a1), .int (nI 1), .int (x1020), .int (nI k1018), .int (x1037)] (Or.inr ⟨rfl, dX5_tickRecord_67⟩) (by decide) rfl ?_
          refine q_iload dX5_tickRecord_69 rfl ?_
          refine q_iconst (v := nI 1) dX5_tickRecord_71 rfl ?_
          refine q_icmp_ne (tgt := 84) dX5_tickRecord_72 (by decide) (fun c1038 => ?_) (fun c1038 => ?_)
          ·
            refine q_iload_n dX5_tickRecord_84 rfl ?_
            refine t_istore [.ref o, .int (nI a1), .int (nI 1), .int (x1020), .int (nI k1018), .int (x1037)] (Or.inl ⟨3, rfl, rfl, dX5_tickRecord_85⟩) (by decide) rfl ?_
            refine q_aload_n dX5_tickRecord_86 rfl ?_
            refine t_getr 11 kX5 (by decide) wPX5_37 dX5_tickRecord_87 hok mG_o rfl ?_
            refine q_bipush (v := nI 16) dX5_tickRecord_90 rfl ?_
            refine q_iload_n dX5_tickRecord_92 rfl ?_
            refine t_imul_n dX5_tickRecord_93 ?_
            refine q_iload dX5_tickRecord_94 rfl ?_
            refine t_iadd_n dX5_tickRecord_96 ?_
            refine q_iload dX5_tickRecord_97 rfl ?_
            refine q_if_le (tgt := 109) dX5_tickRecord_99 (by decide) (fun c1039 => ?_) (fun c1039 => ?_)
            ·
              refine q_iconst (v := nI 0) dX5_tickRecord_109 rfl ?_
              refine t_iast dX5_tickRecord_110 hok (mG_a9 (ml := ml) (th := th) (s := s) hB) (by exact vp_in_nI (by omega) (by omega)) (fun h hok => ?_)
              refine t_iinc_n [.ref o, .int (nI a1), .int (nI 1), .int (x1020), .int (nI (k1018 + 1)), .int (x1037)] dX5_tickRecord_111 rfl (by decide) rfl ?_
              refine q_goto (tgt := 48) dX5_tickRecord_114 (by decide) ?_
              refine q_weak [.ref o, .int (nI a1), .int (nI 1), .int (x1020), .int (nI (k1018 + 1)), .retAddr 0] ⟨Or.inl rfl, Or.inl rfl, Or.inl rfl, Or.inl rfl, Or.inl rfl, Or.inr ⟨0, rfl⟩, trivial⟩ ?_
              exact ihl1017 (k1018 + 1) (x1020) h (by omega) hok
            ·
              refine q_iload dX5_tickRecord_102 rfl ?_
              refine q_iconst (v := nI 1) dX5_tickRecord_104 rfl ?_
              refine q_isub dX5_tickRecord_105 ?_
              generalize (x1037) - (nI 1) = z1040
              refine q_goto (tgt := 110) dX5_tickRecord_106 (by decide) ?_
              refine t_iast dX5_tickRecord_110 hok (mG_a9 (ml := ml) (th := th) (s := s) hB) (by exact vp_in_nI (by omega) (by omega)) (fun h hok => ?_)
              refine t_iinc_n [.ref o, .int (nI a1), .int (nI 1), .int (x1020), .int (nI (k1018 + 1)), .int (x1037)] dX5_tickRecord_111 rfl (by decide) rfl ?_
              refine q_goto (tgt := 48) dX5_tickRecord_114 (by decide) ?_
              refine q_weak [.ref o, .int (nI a1), .int (nI 1), .int (x1020), .int (nI (k1018 + 1)), .retAddr 0] ⟨Or.inl rfl, Or.inl rfl, Or.inl rfl, Or.inl rfl, Or.inl rfl, Or.inr ⟨0, rfl⟩, trivial⟩ ?_
              exact ihl1017 (k1018 + 1) (x1020) h (by omega) hok
          ·
            refine q_iload_n dX5_tickRecord_75 rfl ?_
            refine q_iconst (v := nI 1) dX5_tickRecord_76 rfl ?_
            refine q_iload dX5_tickRecord_77 rfl ?_
            refine q_ishl dX5_tickRecord_79 ?_
            generalize (nI 1) <<< ((nI k1018) &&& 31) = z1041
            refine q_iadd dX5_tickRecord_80 ?_
            generalize (x1020) + (z1041) = z1042
            refine q_goto (tgt := 85) dX5_tickRecord_81 (by decide) ?_
            refine t_istore [.ref o, .int (nI a1), .int (nI 1), .int (z1042), .int (nI k1018), .int (x1037)] (Or.inl ⟨3, rfl, rfl, dX5_tickRecord_85⟩) (by decide) rfl ?_
            refine q_aload_n dX5_tickRecord_86 rfl ?_
            refine t_getr 11 kX5 (by decide) wPX5_37 dX5_tickRecord_87 hok mG_o rfl ?_
            refine q_bipush (v := nI 16) dX5_tickRecord_90 rfl ?_
            refine q_iload_n dX5_tickRecord_92 rfl ?_
            refine t_imul_n dX5_tickRecord_93 ?_
            refine q_iload dX5_tickRecord_94 rfl ?_
            refine t_iadd_n dX5_tickRecord_96 ?_
            refine q_iload dX5_tickRecord_97 rfl ?_
            refine q_if_le (tgt := 109) dX5_tickRecord_99 (by decide) (fun c1043 => ?_) (fun c1043 => ?_)
            ·
              refine q_iconst (v := nI 0) dX5_tickRecord_109 rfl ?_
              refine t_iast dX5_tickRecord_110 hok (mG_a9 (ml := ml) (th := th) (s := s) hB) (by exact vp_in_nI (by omega) (by omega)) (fun h hok => ?_)
              refine t_iinc_n [.ref o, .int (nI a1), .int (nI 1), .int (z1042), .int (nI (k1018 + 1)), .int (x1037)] dX5_tickRecord_111 rfl (by decide) rfl ?_
              refine q_goto (tgt := 48) dX5_tickRecord_114 (by decide) ?_
              refine q_weak [.ref o, .int (nI a1), .int (nI 1), .int (z1042), .int (nI (k1018 + 1)), .retAddr 0] ⟨Or.inl rfl, Or.inl rfl, Or.inl rfl, Or.inl rfl, Or.inl rfl, Or.inr ⟨0, rfl⟩, trivial⟩ ?_
              exact ihl1017 (k1018 + 1) (z1042) h (by omega) hok
            ·
              refine q_iload dX5_tickRecord_102 rfl ?_
              refine q_iconst (v := nI 1) dX5_tickRecord_104 rfl ?_
              refine q_isub dX5_tickRecord_105 ?_
              generalize (x1037) - (nI 1) = z1044
              refine q_goto (tgt := 110) dX5_tickRecord_106 (by decide) ?_
              refine t_iast dX5_tickRecord_110 hok (mG_a9 (ml := ml) (th := th) (s := s) hB) (by exact vp_in_nI (by omega) (by omega)) (fun h hok => ?_)
              refine t_iinc_n [.ref o, .int (nI a1), .int (nI 1), .int (z1042), .int (nI (k1018 + 1)), .int (x1037)] dX5_tickRecord_111 rfl (by decide) rfl ?_
              refine q_goto (tgt := 48) dX5_tickRecord_114 (by decide) ?_
              refine q_weak [.ref o, .int (nI a1), .int (nI 1), .int (z1042), .int (nI (k1018 + 1)), .retAddr 0] ⟨Or.inl rfl, Or.inl rfl, Or.inl rfl, Or.inl rfl, Or.inl rfl, Or.inr ⟨0, rfl⟩, trivial⟩ ?_
              exact ihl1017 (k1018 + 1) (z1042) h (by omega) hok
      exact hl1017 (16) 0 (nI 0) h (by omega) hok
    ·
      refine q_aload_n dX5_tickRecord_30 rfl ?_
      refine t_getr 9 kX5 (by decide) wPX5_31 dX5_tickRecord_31 hok mG_o rfl ?_
      refine q_iload_n dX5_tickRecord_34 rfl ?_
      refine t_iald dX5_tickRecord_35 hok (mG_a7 (ml := ml) (th := th) (s := s) hB) (by exact vp_in_nI (by omega) (by omega)) (fun x1045 => ?_)
      refine q_iconst (v := nI 1) dX5_tickRecord_36 rfl ?_
      refine q_isub dX5_tickRecord_37 ?_
      generalize (x1045) - (nI 1) = z1046
      refine q_goto (tgt := 42) dX5_tickRecord_38 (by decide) ?_
      refine t_iast dX5_tickRecord_42 hok (mG_a7 (ml := ml) (th := th) (s := s) hB) (by exact vp_in_nI (by omega) (by omega)) (fun h hok => ?_)
      refine q_iconst (v := nI 0) dX5_tickRecord_43 rfl ?_
      refine t_istore [.ref o, .int (nI a1), .int (nI 1), .int (nI 0), .retAddr 0, .retAddr 0] (Or.inl ⟨3, rfl, rfl, dX5_tickRecord_44⟩) (by decide) rfl ?_
      refine q_iconst (v := nI 0) dX5_tickRecord_45 rfl ?_
      refine t_istore [.ref o, .int (nI a1), .int (nI 1), .int (nI 0), .int (nI 0), .retAddr 0] (Or.inr ⟨rfl, dX5_tickRecord_46⟩) (by decide) rfl ?_
      have hl1047 : ∀ (d1049 k1048 : Nat) (x1050 : Int32) (h : q_H), k1048 + d1049 = 16 → q_ok (mG Γ o ml (th) (s)) h → q_A Sc mX5_tickRecord 48 [.ref o, .int (nI a1), .int (nI 1), .int (x1050), .int (nI k1048), .retAddr 0] [] h n 0 0 (fun O h' n' => ∃ th' s', (fun O th' s' => q_RV O ∧ th' = th ∧ s' = s) O th' s' ∧ q_ok (mG Γ o ml th' s') h' ∧ n' = n) := by
        intro d1049
        induction d1049 with
        | zero =>
          intro k1048 x1050 h el1047 hok
          refine q_iload dX5_tickRecord_48 rfl ?_
          refine q_bipush (v := nI 16) dX5_tickRecord_50 rfl ?_
          refine t_icmp_ge_n (tgt := 117) (by omega) (by omega) dX5_tickRecord_52 (by decide) (fun c1051 => ?_) (fun c1051 => ?_)
          rotate_left
          · exact absurd c1051 (by omega)
          refine q_aload_n dX5_tickRecord_117 rfl ?_
          refine t_getr 8 kX5 (by decide) wPX5_28 dX5_tickRecord_118 hok mG_o rfl ?_
          refine q_iload_n dX5_tickRecord_121 rfl ?_
          refine t_iald dX5_tickRecord_122 hok (mG_a6 (ml := ml) (th := th) (s := s) hB) (by exact vp_in_nI (by omega) (by omega)) (fun x1052 => ?_)
          refine q_iconst (v := -1) dX5_tickRecord_123 rfl ?_
          refine q_icmp_ne (tgt := 128) dX5_tickRecord_124 (by decide) (fun c1053 => ?_) (fun c1053 => ?_)
          ·
            refine q_aload_n dX5_tickRecord_128 rfl ?_
            refine q_iload_n dX5_tickRecord_129 rfl ?_
            refine q_iconst (v := nI 1) dX5_tickRecord_130 rfl ?_
            refine t_callM (M' := mX5_setOf) [.int (nI a1), .int (nI 1)] [] dX5_tickRecord_131 wPX5_90v wIX5_setOf wSX5_setOf iX5_setOf oX5_setOf rfl hok (sX5_setOf Sc Γ n o ml (th) (s) hB hml (a1) (by omega) (nI 1)) (Nat.le_of_ble_eq_true rfl) (Nat.le_of_ble_eq_true rfl) (Nat.le_of_ble_eq_true rfl) rfl (fun _ _ _ q => by obtain ⟨q, _⟩ := q; obtain ⟨_, q⟩ := q; cases q) (fun v1054 h thv1054 sv1054 qv1054 hok => ?_)
            obtain ⟨qv1054, etv1054, esv1054⟩ := qv1054
            rw [etv1054, esv1054] at hok
            obtain ⟨x1055, qx1055⟩ := qv1054
            obtain rfl := Sum.inl.inj qx1055
            refine t_istore [.ref o, .int (nI a1), .int (nI 1), .int (x1050), .int (x1055), .retAddr 0] (Or.inr ⟨rfl, dX5_tickRecord_134⟩) (by decide) rfl ?_
            refine q_aload_n dX5_tickRecord_136 rfl ?_
            refine q_iload_n dX5_tickRecord_137 rfl ?_
            refine q_iconst (v := nI 2) dX5_tickRecord_138 rfl ?_
            refine t_callM (M' := mX5_setOf) [.int (nI a1), .int (nI 2)] [] dX5_tickRecord_139 wPX5_90v wIX5_setOf wSX5_setOf iX5_setOf oX5_setOf rfl hok (sX5_setOf Sc Γ n o ml (th) (s) hB hml (a1) (by omega) (nI 2)) (Nat.le_of_ble_eq_true rfl) (Nat.le_of_ble_eq_true rfl) (Nat.le_of_ble_eq_true rfl) rfl (fun _ _ _ q => by obtain ⟨q, _⟩ := q; obtain ⟨_, q⟩ := q; cases q) (fun v1056 h thv1056 sv1056 qv1056 hok => ?_)
            obtain ⟨qv1056, etv1056, esv1056⟩ := qv1056
            rw [etv1056, esv1056] at hok
            obtain ⟨x1057, qx1057⟩ := qv1056
            obtain rfl := Sum.inl.inj qx1057
            refine t_istore [.ref o, .int (nI a1), .int (nI 1), .int (x1050), .int (x1055), .int (x1057)] (Or.inr ⟨rfl, dX5_tickRecord_142⟩) (by decide) rfl ?_
            refine q_aload_n dX5_tickRecord_144 rfl ?_
            refine t_getr 8 kX5 (by decide) wPX5_28 dX5_tickRecord_145 hok mG_o rfl ?_
            refine q_iload_n dX5_tickRecord_148 rfl ?_
            refine t_iald dX5_tickRecord_149 hok (mG_a6 (ml := ml) (th := th) (s := s) hB) (by exact vp_in_nI (by omega) (by omega)) (fun x1058 => ?_)
            refine q_iconst (v := nI 1) dX5_tickRecord_150 rfl ?_
            refine q_icmp_ne (tgt := 177) dX5_tickRecord_151 (by decide) (fun c1059 => ?_) (fun c1059 => ?_)
            ·
              refine q_aload_n dX5_tickRecord_177 rfl ?_
              refine q_iload_n dX5_tickRecord_178 rfl ?_
              refine q_iconst (v := nI 0) dX5_tickRecord_179 rfl ?_
              refine q_iload dX5_tickRecord_180 rfl ?_
              refine q_iload_n dX5_tickRecord_182 rfl ?_
              refine q_iconst (v := -1) dX5_tickRecord_183 rfl ?_
              refine q_ixor dX5_tickRecord_184 ?_
              generalize (x1050) ^^^ (-1) = z1060
              refine q_iand dX5_tickRecord_185 ?_
              generalize (x1055) &&& (z1060) = z1061
              refine q_iconst (v := nI 0) dX5_tickRecord_186 rfl ?_
              refine t_callM (M' := mX5_become) [.int (nI a1), .int (nI 0), .int (z1061), .int (nI 0)] [] dX5_tickRecord_187 wPX5_94v wIX5_become wSX5_become iX5_become oX5_become rfl hok (sX5_become Sc Γ n o ml (th) (s) hB hml (a1) (by omega) (nI 0) (z1061) (nI 0)) (Nat.le_of_ble_eq_true rfl) (Nat.le_of_ble_eq_true rfl) (Nat.le_of_ble_eq_true rfl) rfl (fun _ _ _ q => by obtain ⟨q, _⟩ := q; cases q) (fun v1062 h thv1062 sv1062 qv1062 hok => ?_)
              obtain ⟨qv1062, etv1062, esv1062⟩ := qv1062
              rw [etv1062, esv1062] at hok
              obtain rfl := Sum.inl.inj qv1062
              exact q_vret dX5_tickRecord_190 rfl ⟨th, s, ⟨rfl, rfl, rfl⟩, hok, rfl⟩
            ·
              refine q_iload_n dX5_tickRecord_154 rfl ?_
              refine q_if_ne (tgt := 177) dX5_tickRecord_155 (by decide) (fun _ => ?_) (fun q => absurd q (by decide))
              refine q_aload_n dX5_tickRecord_177 rfl ?_
              refine q_iload_n dX5_tickRecord_178 rfl ?_
              refine q_iconst (v := nI 0) dX5_tickRecord_179 rfl ?_
              refine q_iload dX5_tickRecord_180 rfl ?_
              refine q_iload_n dX5_tickRecord_182 rfl ?_
              refine q_iconst (v := -1) dX5_tickRecord_183 rfl ?_
              refine q_ixor dX5_tickRecord_184 ?_
              generalize (x1050) ^^^ (-1) = z1063
              refine q_iand dX5_tickRecord_185 ?_
              generalize (x1055) &&& (z1063) = z1064
              refine q_iconst (v := nI 0) dX5_tickRecord_186 rfl ?_
              refine t_callM (M' := mX5_become) [.int (nI a1), .int (nI 0), .int (z1064), .int (nI 0)] [] dX5_tickRecord_187 wPX5_94v wIX5_become wSX5_become iX5_become oX5_become rfl hok (sX5_become Sc Γ n o ml (th) (s) hB hml (a1) (by omega) (nI 0) (z1064) (nI 0)) (Nat.le_of_ble_eq_true rfl) (Nat.le_of_ble_eq_true rfl) (Nat.le_of_ble_eq_true rfl) rfl (fun _ _ _ q => by obtain ⟨q, _⟩ := q; cases q) (fun v1065 h thv1065 sv1065 qv1065 hok => ?_)
              obtain ⟨qv1065, etv1065, esv1065⟩ := qv1065
              rw [etv1065, esv1065] at hok
              obtain rfl := Sum.inl.inj qv1065
              exact q_vret dX5_tickRecord_190 rfl ⟨th, s, ⟨rfl, rfl, rfl⟩, hok, rfl⟩
          ·
            exact q_vret dX5_tickRecord_127 rfl ⟨th, s, ⟨rfl, rfl, rfl⟩, hok, rfl⟩
        | succ d1049 ihl1047 =>
          intro k1048 x1050 h el1047 hok
          refine q_iload dX5_tickRecord_48 rfl ?_
          refine q_bipush (v := nI 16) dX5_tickRecord_50 rfl ?_
          refine t_icmp_ge_n (tgt := 117) (by omega) (by omega) dX5_tickRecord_52 (by decide) (fun c1066 => ?_) (fun c1066 => ?_)
          · exact absurd c1066 (by omega)
          refine q_aload_n dX5_tickRecord_55 rfl ?_
          refine t_getr 11 kX5 (by decide) wPX5_37 dX5_tickRecord_56 hok mG_o rfl ?_
          refine q_bipush (v := nI 16) dX5_tickRecord_59 rfl ?_
          refine q_iload_n dX5_tickRecord_61 rfl ?_
          refine t_imul_n dX5_tickRecord_62 ?_
          refine q_iload dX5_tickRecord_63 rfl ?_
          refine t_iadd_n dX5_tickRecord_65 ?_
          refine t_iald dX5_tickRecord_66 hok (mG_a9 (ml := ml) (th := th) (s := s) hB) (by exact vp_in_nI (by omega) (by omega)) (fun x1067 => ?_)
          refine t_istore [.ref o, .int (nI a1), .int (nI 1), .int (x1050), .int (nI k1048), .int (x1067)] (Or.inr ⟨rfl, dX5_tickRecord_67⟩) (by decide) rfl ?_
          refine q_iload dX5_tickRecord_69 rfl ?_
          refine q_iconst (v := nI 1) dX5_tickRecord_71 rfl ?_
          refine q_icmp_ne (tgt := 84) dX5_tickRecord_72 (by decide) (fun c1068 => ?_) (fun c1068 => ?_)
          ·
            refine q_iload_n dX5_tickRecord_84 rfl ?_
            refine t_istore [.ref o, .int (nI a1), .int (nI 1), .int (x1050), .int (nI k1048), .int (x1067)] (Or.inl ⟨3, rfl, rfl, dX5_tickRecord_85⟩) (by decide) rfl ?_
            refine q_aload_n dX5_tickRecord_86 rfl ?_
            refine t_getr 11 kX5 (by decide) wPX5_37 dX5_tickRecord_87 hok mG_o rfl ?_
            refine q_bipush (v := nI 16) dX5_tickRecord_90 rfl ?_
            refine q_iload_n dX5_tickRecord_92 rfl ?_
            refine t_imul_n dX5_tickRecord_93 ?_
            refine q_iload dX5_tickRecord_94 rfl ?_
            refine t_iadd_n dX5_tickRecord_96 ?_
            refine q_iload dX5_tickRecord_97 rfl ?_
            refine q_if_le (tgt := 109) dX5_tickRecord_99 (by decide) (fun c1069 => ?_) (fun c1069 => ?_)
            ·
              refine q_iconst (v := nI 0) dX5_tickRecord_109 rfl ?_
              refine t_iast dX5_tickRecord_110 hok (mG_a9 (ml := ml) (th := th) (s := s) hB) (by exact vp_in_nI (by omega) (by omega)) (fun h hok => ?_)
              refine t_iinc_n [.ref o, .int (nI a1), .int (nI 1), .int (x1050), .int (nI (k1048 + 1)), .int (x1067)] dX5_tickRecord_111 rfl (by decide) rfl ?_
              refine q_goto (tgt := 48) dX5_tickRecord_114 (by decide) ?_
              refine q_weak [.ref o, .int (nI a1), .int (nI 1), .int (x1050), .int (nI (k1048 + 1)), .retAddr 0] ⟨Or.inl rfl, Or.inl rfl, Or.inl rfl, Or.inl rfl, Or.inl rfl, Or.inr ⟨0, rfl⟩, trivial⟩ ?_
              exact ihl1047 (k1048 + 1) (x1050) h (by omega) hok
            ·
              refine q_iload dX5_tickRecord_102 rfl ?_
              refine q_iconst (v := nI 1) dX5_tickRecord_104 rfl ?_
              refine q_isub dX5_tickRecord_105 ?_
              generalize (x1067) - (nI 1) = z1070
              refine q_goto (tgt := 110) dX5_tickRecord_106 (by decide) ?_
              refine t_iast dX5_tickRecord_110 hok (mG_a9 (ml := ml) (th := th) (s := s) hB) (by exact vp_in_nI (by omega) (by omega)) (fun h hok => ?_)
              refine t_iinc_n [.ref o, .int (nI a1), .int (nI 1), .int (x1050), .int (nI (k1048 + 1)), .int (x1067)] dX5_tickRecord_111 rfl (by decide) rfl ?_
              refine q_goto (tgt := 48) dX5_tickRecord_114 (by decide) ?_
              refine q_weak [.ref o, .int (nI a1), .int (nI 1), .int (x1050), .int (nI (k1048 + 1)), .retAddr 0] ⟨Or.inl rfl, Or.inl rfl, Or.inl rfl, Or.inl rfl, Or.inl rfl, Or.inr ⟨0, rfl⟩, trivial⟩ ?_
              exact ihl1047 (k1048 + 1) (x1050) h (by omega) hok
          ·
            refine q_iload_n dX5_tickRecord_75 rfl ?_
            refine q_iconst (v := nI 1) dX5_tickRecord_76 rfl ?_
            refine q_iload dX5_tickRecord_77 rfl ?_
            refine q_ishl dX5_tickRecord_79 ?_
            generalize (nI 1) <<< ((nI k1048) &&& 31) = z1071
            refine q_iadd dX5_tickRecord_80 ?_
            generalize (x1050) + (z1071) = z1072
            refine q_goto (tgt := 85) dX5_tickRecord_81 (by decide) ?_
            refine t_istore [.ref o, .int (nI a1), .int (nI 1), .int (z1072), .int (nI k1048), .int (x1067)] (Or.inl ⟨3, rfl, rfl, dX5_tickRecord_85⟩) (by decide) rfl ?_
            refine q_aload_n dX5_tickRecord_86 rfl ?_
            refine t_getr 11 kX5 (by decide) wPX5_37 dX5_tickRecord_87 hok mG_o rfl ?_
            refine q_bipush (v := nI 16) dX5_tickRecord_90 rfl ?_
            refine q_iload_n dX5_tickRecord_92 rfl ?_
            refine t_imul_n dX5_tickRecord_93 ?_
            refine q_iload dX5_tickRecord_94 rfl ?_
            refine t_iadd_n dX5_tickRecord_96 ?_
            refine q_iload dX5_tickRecord_97 rfl ?_
            refine q_if_le (tgt := 109) dX5_tickRecord_99 (by decide) (fun c1073 => ?_) (fun c1073 => ?_)
            ·
              refine q_iconst (v := nI 0) dX5_tickRecord_109 rfl ?_
              refine t_iast dX5_tickRecord_110 hok (mG_a9 (ml := ml) (th := th) (s := s) hB) (by exact vp_in_nI (by omega) (by omega)) (fun h hok => ?_)
              refine t_iinc_n [.ref o, .int (nI a1), .int (nI 1), .int (z1072), .int (nI (k1048 + 1)), .int (x1067)] dX5_tickRecord_111 rfl (by decide) rfl ?_
              refine q_goto (tgt := 48) dX5_tickRecord_114 (by decide) ?_
              refine q_weak [.ref o, .int (nI a1), .int (nI 1), .int (z1072), .int (nI (k1048 + 1)), .retAddr 0] ⟨Or.inl rfl, Or.inl rfl, Or.inl rfl, Or.inl rfl, Or.inl rfl, Or.inr ⟨0, rfl⟩, trivial⟩ ?_
              exact ihl1047 (k1048 + 1) (z1072) h (by omega) hok
            ·
              refine q_iload dX5_tickRecord_102 rfl ?_
              refine q_iconst (v := nI 1) dX5_tickRecord_104 rfl ?_
              refine q_isub dX5_tickRecord_105 ?_
              generalize (x1067) - (nI 1) = z1074
              refine q_goto (tgt := 110) dX5_tickRecord_106 (by decide) ?_
              refine t_iast dX5_tickRecord_110 hok (mG_a9 (ml := ml) (th := th) (s := s) hB) (by exact vp_in_nI (by omega) (by omega)) (fun h hok => ?_)
              refine t_iinc_n [.ref o, .int (nI a1), .int (nI 1), .int (z1072), .int (nI (k1048 + 1)), .int (x1067)] dX5_tickRecord_111 rfl (by decide) rfl ?_
              refine q_goto (tgt := 48) dX5_tickRecord_114 (by decide) ?_
              refine q_weak [.ref o, .int (nI a1), .int (nI 1), .int (z1072), .int (nI (k1048 + 1)), .retAddr 0] ⟨Or.inl rfl, Or.inl rfl, Or.inl rfl, Or.inl rfl, Or.inl rfl, Or.inr ⟨0, rfl⟩, trivial⟩ ?_
              exact ihl1047 (k1048 + 1) (z1072) h (by omega) hok
      exact hl1047 (16) 0 (nI 0) h (by omega) hok
set_option maxRecDepth 20000 in
set_option maxHeartbeats 4000000 in
theorem sX5_tickLink (Sc : q_S) (Γ : Nat → q_K) (n o ml th s : Nat) (hB : mB Γ o) (hml : ml ≤ 4) (hs : s ≤ 1900000000) (a1 : Nat) (b1 : a1 < 4) : q_mod Sc Γ o ml mX5_tickLink [.ref o, .int (nI a1)] n th s (fun O th' s' => q_RB O ∧ th' = th ∧ s' ≤ s + 1) := by
  intro h hok
  show q_A Sc mX5_tickLink 0 [.ref o, .int (nI a1)] [] h n 0 0 (fun O h' n' => ∃ th' s', (fun O th' s' => q_RB O ∧ th' = th ∧ s' ≤ s + 1) O th' s' ∧ q_ok (mG Γ o ml th' s') h' ∧ n' = n)
  refine q_aload_n dX5_tickLink_0 rfl ?_
  refine t_getr 6 kX5 (by decide) wPX5_22 dX5_tickLink_1 hok mG_o rfl ?_
  refine q_iload_n dX5_tickLink_4 rfl ?_
  refine t_iald dX5_tickLink_5 hok (mG_a4 (ml := ml) (th := th) (s := s) hB) (by exact vp_in_nI (by omega) (by omega)) (fun x1076 => ?_)
  refine q_if_le (tgt := 51) dX5_tickLink_6 (by decide) (fun c1077 => ?_) (fun c1077 => ?_)
  ·
    refine q_aload_n dX5_tickLink_51 rfl ?_
    refine t_getr 7 kX5 (by decide) wPX5_25 dX5_tickLink_52 hok mG_o rfl ?_
    refine q_iload_n dX5_tickLink_55 rfl ?_
    refine q_dup2 dX5_tickLink_56 rfl rfl ?_
    refine t_iald dX5_tickLink_57 hok (mG_a5 (ml := ml) (th := th) (s := s) hB) (by exact vp_in_nI (by omega) (by omega)) (fun x1078 => ?_)
    refine q_iconst (v := nI 1) dX5_tickLink_58 rfl ?_
    refine q_isub dX5_tickLink_59 ?_
    generalize (x1078) - (nI 1) = z1079
    refine t_iast dX5_tickLink_60 hok (mG_a5 (ml := ml) (th := th) (s := s) hB) (by exact vp_in_nI (by omega) (by omega)) (fun h hok => ?_)
    refine q_aload_n dX5_tickLink_61 rfl ?_
    refine t_getr 7 kX5 (by decide) wPX5_25 dX5_tickLink_62 hok mG_o rfl ?_
    refine q_iload_n dX5_tickLink_65 rfl ?_
    refine t_iald dX5_tickLink_66 hok (mG_a5 (ml := ml) (th := th) (s := s) hB) (by exact vp_in_nI (by omega) (by omega)) (fun x1080 => ?_)
    refine q_if_le (tgt := 72) dX5_tickLink_67 (by decide) (fun c1081 => ?_) (fun c1081 => ?_)
    ·
      refine q_aload_n dX5_tickLink_72 rfl ?_
      refine t_getr 7 kX5 (by decide) wPX5_25 dX5_tickLink_73 hok mG_o rfl ?_
      refine q_iload_n dX5_tickLink_76 rfl ?_
      refine q_aload_n dX5_tickLink_77 rfl ?_
      refine t_getr 3 kX5 (by decide) wPX5_13 dX5_tickLink_78 hok mG_o rfl ?_
      refine q_iload_n dX5_tickLink_81 rfl ?_
      refine t_iald dX5_tickLink_82 hok (mG_a1 (ml := ml) (th := th) (s := s) hB) (by exact vp_in_nI (by omega) (by omega)) (fun x1082 => ?_)
      refine t_iast dX5_tickLink_83 hok (mG_a5 (ml := ml) (th := th) (s := s) hB) (by exact vp_in_nI (by omega) (by omega)) (fun h hok => ?_)
      refine q_aload_n dX5_tickLink_84 rfl ?_
      refine q_iload_n dX5_tickLink_85 rfl ?_
      refine q_iconst (v := -1) dX5_tickLink_86 rfl ?_
      refine q_iconst (v := nI 0) dX5_tickLink_87 rfl ?_
      refine t_callM (M' := mX5_send) [.int (nI a1), .int (-1), .int (nI 0)] [] dX5_tickLink_88 wPX5_79v wIX5_send wSX5_send iX5_send oX5_send rfl hok (sX5_send Sc Γ n o ml (th) (s) hB hml (by omega) (nI a1) (-1) (nI 0)) (Nat.le_of_ble_eq_true rfl) (Nat.le_of_ble_eq_true rfl) (Nat.le_of_ble_eq_true rfl) rfl (fun _ _ _ q => by obtain ⟨q, _⟩ := q; cases q) (fun v1083 h thv1083 sv1083 qv1083 hok => ?_)
      obtain ⟨qv1083, etv1083, hsv1083⟩ := qv1083
      rw [etv1083] at hok
      obtain rfl := Sum.inl.inj qv1083
      refine q_iconst (v := nI 1) dX5_tickLink_91 rfl ?_
      exact q_iret dX5_tickLink_92 rfl (rfl) ⟨th, sv1083, ⟨⟨_, rfl, Or.inr rfl⟩, rfl, by omega⟩, hok, rfl⟩
    ·
      refine q_iconst (v := nI 0) dX5_tickLink_70 rfl ?_
      exact q_iret dX5_tickLink_71 rfl (rfl) ⟨th, s, ⟨⟨_, rfl, Or.inl rfl⟩, rfl, by omega⟩, hok, rfl⟩
  ·
    refine q_aload_n dX5_tickLink_9 rfl ?_
    refine t_getr 6 kX5 (by decide) wPX5_22 dX5_tickLink_10 hok mG_o rfl ?_
    refine q_iload_n dX5_tickLink_13 rfl ?_
    refine q_dup2 dX5_tickLink_14 rfl rfl ?_
    refine t_iald dX5_tickLink_15 hok (mG_a4 (ml := ml) (th := th) (s := s) hB) (by exact vp_in_nI (by omega) (by omega)) (fun x1084 => ?_)
    refine q_iconst (v := nI 1) dX5_tickLink_16 rfl ?_
    refine q_isub dX5_tickLink_17 ?_
    generalize (x1084) - (nI 1) = z1085
    refine t_iast dX5_tickLink_18 hok (mG_a4 (ml := ml) (th := th) (s := s) hB) (by exact vp_in_nI (by omega) (by omega)) (fun h hok => ?_)
    refine q_aload_n dX5_tickLink_19 rfl ?_
    refine t_getr 6 kX5 (by decide) wPX5_22 dX5_tickLink_20 hok mG_o rfl ?_
    refine q_iload_n dX5_tickLink_23 rfl ?_
    refine t_iald dX5_tickLink_24 hok (mG_a4 (ml := ml) (th := th) (s := s) hB) (by exact vp_in_nI (by omega) (by omega)) (fun x1086 => ?_)
    refine q_if_ne (tgt := 49) dX5_tickLink_25 (by decide) (fun c1087 => ?_) (fun c1087 => ?_)
    ·
      refine q_iconst (v := nI 0) dX5_tickLink_49 rfl ?_
      exact q_iret dX5_tickLink_50 rfl (rfl) ⟨th, s, ⟨⟨_, rfl, Or.inl rfl⟩, rfl, by omega⟩, hok, rfl⟩
    ·
      refine q_aload_n dX5_tickLink_28 rfl ?_
      refine t_getr 5 kX5 (by decide) wPX5_19 dX5_tickLink_29 hok mG_o rfl ?_
      refine q_iload_n dX5_tickLink_32 rfl ?_
      refine q_sipush (v := nI 500) dX5_tickLink_33 rfl ?_
      refine t_iast dX5_tickLink_36 hok (mG_a3 (ml := ml) (th := th) (s := s) hB) (by exact vp_in_nI (by omega) (by omega)) (fun h hok => ?_)
      refine q_aload_n dX5_tickLink_37 rfl ?_
      refine t_getr 7 kX5 (by decide) wPX5_25 dX5_tickLink_38 hok mG_o rfl ?_
      refine q_iload_n dX5_tickLink_41 rfl ?_
      refine q_aload_n dX5_tickLink_42 rfl ?_
      refine t_getr 3 kX5 (by decide) wPX5_13 dX5_tickLink_43 hok mG_o rfl ?_
      refine q_iload_n dX5_tickLink_46 rfl ?_
      refine t_iald dX5_tickLink_47 hok (mG_a1 (ml := ml) (th := th) (s := s) hB) (by exact vp_in_nI (by omega) (by omega)) (fun x1088 => ?_)
      refine t_iast dX5_tickLink_48 hok (mG_a5 (ml := ml) (th := th) (s := s) hB) (by exact vp_in_nI (by omega) (by omega)) (fun h hok => ?_)
      refine q_iconst (v := nI 0) dX5_tickLink_49 rfl ?_
      exact q_iret dX5_tickLink_50 rfl (rfl) ⟨th, s, ⟨⟨_, rfl, Or.inl rfl⟩, rfl, by omega⟩, hok, rfl⟩
set_option maxRecDepth 20000 in
set_option maxHeartbeats 4000000 in
theorem sX5_report (Sc : q_S) (Γ : Nat → q_K) (n o ml th s : Nat) (hB : mB Γ o) (hml : ml ≤ 4) (hs : s ≤ 1600000000) (a1 : Int32) (a2 : Int32) (a3 : Int32) (a4 : Int32) : q_mod Sc Γ o ml mX5_report [.ref o, .int (a1), .int (a2), .int (a3), .int (a4)] n th s (fun O th' s' => q_RI O ∧ s' ≤ s + 2) := by
  intro h hok
  show q_A Sc mX5_report 0 [.ref o, .int (a1), .int (a2), .int (a3), .int (a4)] [] h n 0 0 (fun O h' n' => ∃ th' s', (fun O th' s' => q_RI O ∧ s' ≤ s + 2) O th' s' ∧ q_ok (mG Γ o ml th' s') h' ∧ n' = n)
  refine q_aload_n dX5_report_0 rfl ?_
  refine q_aload_n dX5_report_1 rfl ?_
  refine q_iload_n dX5_report_2 rfl ?_
  refine t_callM (M' := mX5_isLink) [.int (a1)] [.ref o] dX5_report_3 wPX5_117v wIX5_isLink wSX5_isLink iX5_isLink oX5_isLink rfl hok (sX5_isLink Sc Γ n o ml (th) (s) hB hml (a1)) (Nat.le_of_ble_eq_true rfl) (Nat.le_of_ble_eq_true rfl) (Nat.le_of_ble_eq_true rfl) rfl (fun _ _ _ q => by obtain ⟨⟨_, q, _⟩, _⟩ := q; cases q) (fun v1090 h thv1090 sv1090 qv1090 hok => ?_)
  obtain ⟨⟨x1091, qx1091, hx1091⟩, etv1090, esv1090⟩ := qv1090
  rw [etv1090, esv1090] at hok
  obtain rfl := Sum.inl.inj qx1091
  rcases hx1091 with ⟨rfl, j1092, hj1092, rfl⟩ | rfl
  ·
    refine q_if_eq (tgt := 19) dX5_report_6 (by decide) (fun q => absurd q (by decide)) (fun _ => ?_)
    refine q_iload_n dX5_report_9 rfl ?_
    refine q_iconst (v := nI 0) dX5_report_10 rfl ?_
    refine q_bipush (v := nI 7) dX5_report_11 rfl ?_
    refine t_callS (M' := mX5_in) [.int (a2), .int (nI 0), .int (nI 7)] [.ref o] dX5_report_13 wPX5_120 wTX5_in wNX5 iX5_in oX5_in rfl hok (sX5_in Sc (mG Γ o ml (th) (s)) n (a2) (nI 0) (nI 7)) (Nat.le_of_ble_eq_true rfl) (Nat.le_of_ble_eq_true rfl) (Nat.le_of_ble_eq_true rfl) (Nat.le_of_ble_eq_true rfl) (Nat.le_of_ble_eq_true rfl) rfl (fun v1093 h qv1093 hok => ?_) (fun e1094 h qe1094 hok => absurd qe1094 (by intro q; obtain ⟨_, q, _⟩ := q; cases q))
    obtain ⟨x1095, qx1095, hx1095⟩ := qv1093
    obtain rfl := Sum.inl.inj qx1095
    rcases hx1095 with ⟨rfl, c1096a, c1096b⟩ | rfl
    ·
      obtain ⟨g1097, hg1097, rfl⟩ := q_chk2 (by omega) c1096a c1096b
      refine q_if_ne (tgt := 23) dX5_report_16 (by decide) (fun _ => ?_) (fun q => absurd q (by decide))
      refine q_iload_n dX5_report_23 rfl ?_
      refine q_iconst (v := nI 0) dX5_report_24 rfl ?_
      refine q_iconst (v := nI 5) dX5_report_25 rfl ?_
      refine t_callS (M' := mX5_in) [.int (a3), .int (nI 0), .int (nI 5)] [.ref o] dX5_report_26 wPX5_120 wTX5_in wNX5 iX5_in oX5_in rfl hok (sX5_in Sc (mG Γ o ml (th) (s)) n (a3) (nI 0) (nI 5)) (Nat.le_of_ble_eq_true rfl) (Nat.le_of_ble_eq_true rfl) (Nat.le_of_ble_eq_true rfl) (Nat.le_of_ble_eq_true rfl) (Nat.le_of_ble_eq_true rfl) rfl (fun v1098 h qv1098 hok => ?_) (fun e1099 h qe1099 hok => absurd qe1099 (by intro q; obtain ⟨_, q, _⟩ := q; cases q))
      obtain ⟨x1100, qx1100, hx1100⟩ := qv1098
      obtain rfl := Sum.inl.inj qx1100
      rcases hx1100 with ⟨rfl, c1101a, c1101b⟩ | rfl
      ·
        obtain ⟨g1102, hg1102, rfl⟩ := q_chk2 (by omega) c1101a c1101b
        refine q_if_eq (tgt := 47) dX5_report_29 (by decide) (fun q => absurd q (by decide)) (fun _ => ?_)
        refine q_iload dX5_report_32 rfl ?_
        refine q_iconst (v := nI 0) dX5_report_34 rfl ?_
        refine q_ldc dX5_report_35 wPX5_124 ?_
        refine t_callS (M' := mX5_in) [.int (a4), .int (nI 0), .int (65535)] [.ref o] dX5_report_37 wPX5_120 wTX5_in wNX5 iX5_in oX5_in rfl hok (sX5_in Sc (mG Γ o ml (th) (s)) n (a4) (nI 0) (65535)) (Nat.le_of_ble_eq_true rfl) (Nat.le_of_ble_eq_true rfl) (Nat.le_of_ble_eq_true rfl) (Nat.le_of_ble_eq_true rfl) (Nat.le_of_ble_eq_true rfl) rfl (fun v1103 h qv1103 hok => ?_) (fun e1104 h qe1104 hok => absurd qe1104 (by intro q; obtain ⟨_, q, _⟩ := q; cases q))
        obtain ⟨x1105, qx1105, hx1105⟩ := qv1103
        obtain rfl := Sum.inl.inj qx1105
        rcases hx1105 with ⟨rfl, c1106a, c1106b⟩ | rfl
        ·
          refine q_if_eq (tgt := 47) dX5_report_40 (by decide) (fun q => absurd q (by decide)) (fun _ => ?_)
          refine q_iconst (v := nI 0) dX5_report_43 rfl ?_
          refine q_goto (tgt := 48) dX5_report_44 (by decide) ?_
          refine t_putc 0 (z' := 0) kX5 (by decide) wPX5_66 rfl dX5_report_48 hok mG_o rfl ⟨rfl, rfl⟩ (fun h hok => ?_)
          replace hok := mG_setT hok
          refine q_aload_n dX5_report_51 rfl ?_
          refine t_getc 0 kX5 (by decide) wPX5_66 dX5_report_52 hok mG_o rfl ?_
          refine q_if_le (tgt := 62) dX5_report_55 (by decide) (fun _ => ?_) (fun q => absurd q (by decide))
          refine q_aload_n dX5_report_62 rfl ?_
          refine q_iload_n dX5_report_63 rfl ?_
          refine q_iload_n dX5_report_64 rfl ?_
          refine q_iload_n dX5_report_65 rfl ?_
          refine q_iload dX5_report_66 rfl ?_
          refine t_callM (M' := mX5_reported) [.int (nI j1092), .int (nI g1097), .int (nI g1102), .int (a4)] [] dX5_report_68 wPX5_125v wIX5_reported wSX5_reported iX5_reported oX5_reported rfl hok (sX5_reported Sc Γ n o ml (0) (s) hB hml (by omega) (j1092) (by omega) (g1097) (by omega) (nI g1102) (a4)) (Nat.le_of_ble_eq_true rfl) (Nat.le_of_ble_eq_true rfl) (Nat.le_of_ble_eq_true rfl) rfl (fun _ _ _ q => by obtain ⟨q, _⟩ := q; obtain ⟨_, q⟩ := q; cases q) (fun v1107 h thv1107 sv1107 qv1107 hok => ?_)
          obtain ⟨qv1107, etv1107, hsv1107⟩ := qv1107
          rw [etv1107] at hok
          obtain ⟨x1108, qx1108⟩ := qv1107
          obtain rfl := Sum.inl.inj qx1108
          exact q_iret dX5_report_71 rfl (rfl) ⟨0, sv1107, ⟨⟨_, rfl⟩, by omega⟩, hok, rfl⟩
        ·
          refine q_if_eq (tgt := 47) dX5_report_40 (by decide) (fun _ => ?_) (fun q => absurd q (by decide))
          refine q_iconst (v := nI 2) dX5_report_47 rfl ?_
          refine t_putc 0 (z' := 2) kX5 (by decide) wPX5_66 rfl dX5_report_48 hok mG_o rfl ⟨rfl, rfl⟩ (fun h hok => ?_)
          replace hok := mG_setT hok
          refine q_aload_n dX5_report_51 rfl ?_
          refine t_getc 0 kX5 (by decide) wPX5_66 dX5_report_52 hok mG_o rfl ?_
          refine q_if_le (tgt := 62) dX5_report_55 (by decide) (fun q => absurd q (by decide)) (fun _ => ?_)
          refine q_iconst (v := nI 0) dX5_report_58 rfl ?_
          refine q_goto (tgt := 71) dX5_report_59 (by decide) ?_
          exact q_iret dX5_report_71 rfl (rfl) ⟨2, s, ⟨⟨_, rfl⟩, by omega⟩, hok, rfl⟩
      ·
        refine q_if_eq (tgt := 47) dX5_report_29 (by decide) (fun _ => ?_) (fun q => absurd q (by decide))
        refine q_iconst (v := nI 2) dX5_report_47 rfl ?_
        refine t_putc 0 (z' := 2) kX5 (by decide) wPX5_66 rfl dX5_report_48 hok mG_o rfl ⟨rfl, rfl⟩ (fun h hok => ?_)
        replace hok := mG_setT hok
        refine q_aload_n dX5_report_51 rfl ?_
        refine t_getc 0 kX5 (by decide) wPX5_66 dX5_report_52 hok mG_o rfl ?_
        refine q_if_le (tgt := 62) dX5_report_55 (by decide) (fun q => absurd q (by decide)) (fun _ => ?_)
        refine q_iconst (v := nI 0) dX5_report_58 rfl ?_
        refine q_goto (tgt := 71) dX5_report_59 (by decide) ?_
        exact q_iret dX5_report_71 rfl (rfl) ⟨2, s, ⟨⟨_, rfl⟩, by omega⟩, hok, rfl⟩
    ·
      refine q_if_ne (tgt := 23) dX5_report_16 (by decide) (fun q => absurd q (by decide)) (fun _ => ?_)
      refine q_iconst (v := nI 1) dX5_report_19 rfl ?_
      refine q_goto (tgt := 48) dX5_report_20 (by decide) ?_
      refine t_putc 0 (z' := 1) kX5 (by decide) wPX5_66 rfl dX5_report_48 hok mG_o rfl ⟨rfl, rfl⟩ (fun h hok => ?_)
      replace hok := mG_setT hok
      refine q_aload_n dX5_report_51 rfl ?_
      refine t_getc 0 kX5 (by decide) wPX5_66 dX5_report_52 hok mG_o rfl ?_
      refine q_if_le (tgt := 62) dX5_report_55 (by decide) (fun q => absurd q (by decide)) (fun _ => ?_)
      refine q_iconst (v := nI 0) dX5_report_58 rfl ?_
      refine q_goto (tgt := 71) dX5_report_59 (by decide) ?_
      exact q_iret dX5_report_71 rfl (rfl) ⟨1, s, ⟨⟨_, rfl⟩, by omega⟩, hok, rfl⟩
  ·
    refine q_if_eq (tgt := 19) dX5_report_6 (by decide) (fun _ => ?_) (fun q => absurd q (by decide))
    refine q_iconst (v := nI 1) dX5_report_19 rfl ?_
    refine q_goto (tgt := 48) dX5_report_20 (by decide) ?_
    refine t_putc 0 (z' := 1) kX5 (by decide) wPX5_66 rfl dX5_report_48 hok mG_o rfl ⟨rfl, rfl⟩ (fun h hok => ?_)
    replace hok := mG_setT hok
    refine q_aload_n dX5_report_51 rfl ?_
    refine t_getc 0 kX5 (by decide) wPX5_66 dX5_report_52 hok mG_o rfl ?_
    refine q_if_le (tgt := 62) dX5_report_55 (by decide) (fun q => absurd q (by decide)) (fun _ => ?_)
    refine q_iconst (v := nI 0) dX5_report_58 rfl ?_
    refine q_goto (tgt := 71) dX5_report_59 (by decide) ?_
    exact q_iret dX5_report_71 rfl (rfl) ⟨1, s, ⟨⟨_, rfl⟩, by omega⟩, hok, rfl⟩
set_option maxRecDepth 20000 in
set_option maxHeartbeats 4000000 in
theorem sX5_query (Sc : q_S) (Γ : Nat → q_K) (n o ml th s : Nat) (hB : mB Γ o) (hml : ml ≤ 4) (hs : s ≤ 1600000000) (a1 : Int32) (a2 : Int32) (a3 : Int32) (a4 : Int32) (a5 : Int32) (b5 : q_bl a5) : q_mod Sc Γ o ml mX5_query [.ref o, .int (a1), .int (a2), .int (a3), .int (a4), .int (a5)] n th s (fun O th' s' => q_RB O ∧ s' ≤ s + 0) := by
  intro h hok
  show q_A Sc mX5_query 0 [.ref o, .int (a1), .int (a2), .int (a3), .int (a4), .int (a5)] [] h n 0 0 (fun O h' n' => ∃ th' s', (fun O th' s' => q_RB O ∧ s' ≤ s + 0) O th' s' ∧ q_ok (mG Γ o ml th' s') h' ∧ n' = n)
  refine q_aload_n dX5_query_0 rfl ?_
  refine q_aload_n dX5_query_1 rfl ?_
  refine q_iload_n dX5_query_2 rfl ?_
  refine t_callM (M' := mX5_isLink) [.int (a1)] [.ref o] dX5_query_3 wPX5_117v wIX5_isLink wSX5_isLink iX5_isLink oX5_isLink rfl hok (sX5_isLink Sc Γ n o ml (th) (s) hB hml (a1)) (Nat.le_of_ble_eq_true rfl) (Nat.le_of_ble_eq_true rfl) (Nat.le_of_ble_eq_true rfl) rfl (fun _ _ _ q => by obtain ⟨⟨_, q, _⟩, _⟩ := q; cases q) (fun v1110 h thv1110 sv1110 qv1110 hok => ?_)
  obtain ⟨⟨x1111, qx1111, hx1111⟩, etv1110, esv1110⟩ := qv1110
  rw [etv1110, esv1110] at hok
  obtain rfl := Sum.inl.inj qx1111
  rcases hx1111 with ⟨rfl, j1112, hj1112, rfl⟩ | rfl
  ·
    refine q_if_eq (tgt := 19) dX5_query_6 (by decide) (fun q => absurd q (by decide)) (fun _ => ?_)
    refine q_iload_n dX5_query_9 rfl ?_
    refine q_iconst (v := -1) dX5_query_10 rfl ?_
    refine q_bipush (v := nI 7) dX5_query_11 rfl ?_
    refine t_callS (M' := mX5_in) [.int (a3), .int (-1), .int (nI 7)] [.ref o] dX5_query_13 wPX5_120 wTX5_in wNX5 iX5_in oX5_in rfl hok (sX5_in Sc (mG Γ o ml (th) (s)) n (a3) (-1) (nI 7)) (Nat.le_of_ble_eq_true rfl) (Nat.le_of_ble_eq_true rfl) (Nat.le_of_ble_eq_true rfl) (Nat.le_of_ble_eq_true rfl) (Nat.le_of_ble_eq_true rfl) rfl (fun v1113 h qv1113 hok => ?_) (fun e1114 h qe1114 hok => absurd qe1114 (by intro q; obtain ⟨_, q, _⟩ := q; cases q))
    obtain ⟨x1115, qx1115, hx1115⟩ := qv1113
    obtain rfl := Sum.inl.inj qx1115
    rcases hx1115 with ⟨rfl, c1116a, c1116b⟩ | rfl
    ·
      rcases q_chkN c1116a c1116b with rfl | ⟨g1117, hg1117, rfl⟩
      ·
        refine q_if_ne (tgt := 23) dX5_query_16 (by decide) (fun _ => ?_) (fun q => absurd q (by decide))
        refine q_iload_n dX5_query_23 rfl ?_
        refine q_iconst (v := nI 0) dX5_query_24 rfl ?_
        refine q_sipush (v := nI 999) dX5_query_25 rfl ?_
        refine t_callS (M' := mX5_in) [.int (a2), .int (nI 0), .int (nI 999)] [.ref o] dX5_query_28 wPX5_120 wTX5_in wNX5 iX5_in oX5_in rfl hok (sX5_in Sc (mG Γ o ml (th) (s)) n (a2) (nI 0) (nI 999)) (Nat.le_of_ble_eq_true rfl) (Nat.le_of_ble_eq_true rfl) (Nat.le_of_ble_eq_true rfl) (Nat.le_of_ble_eq_true rfl) (Nat.le_of_ble_eq_true rfl) rfl (fun v1118 h qv1118 hok => ?_) (fun e1119 h qe1119 hok => absurd qe1119 (by intro q; obtain ⟨_, q, _⟩ := q; cases q))
        obtain ⟨x1120, qx1120, hx1120⟩ := qv1118
        obtain rfl := Sum.inl.inj qx1120
        rcases hx1120 with ⟨rfl, c1121a, c1121b⟩ | rfl
        ·
          obtain ⟨g1122, hg1122, rfl⟩ := q_chk2 (by omega) c1121a c1121b
          refine q_if_eq (tgt := 49) dX5_query_31 (by decide) (fun q => absurd q (by decide)) (fun _ => ?_)
          refine q_iload dX5_query_34 rfl ?_
          refine q_iconst (v := nI 0) dX5_query_36 rfl ?_
          refine q_ldc dX5_query_37 wPX5_124 ?_
          refine t_callS (M' := mX5_in) [.int (a4), .int (nI 0), .int (65535)] [.ref o] dX5_query_39 wPX5_120 wTX5_in wNX5 iX5_in oX5_in rfl hok (sX5_in Sc (mG Γ o ml (th) (s)) n (a4) (nI 0) (65535)) (Nat.le_of_ble_eq_true rfl) (Nat.le_of_ble_eq_true rfl) (Nat.le_of_ble_eq_true rfl) (Nat.le_of_ble_eq_true rfl) (Nat.le_of_ble_eq_true rfl) rfl (fun v1123 h qv1123 hok => ?_) (fun e1124 h qe1124 hok => absurd qe1124 (by intro q; obtain ⟨_, q, _⟩ := q; cases q))
          obtain ⟨x1125, qx1125, hx1125⟩ := qv1123
          obtain rfl := Sum.inl.inj qx1125
          rcases hx1125 with ⟨rfl, c1126a, c1126b⟩ | rfl
          ·
            refine q_if_eq (tgt := 49) dX5_query_42 (by decide) (fun q => absurd q (by decide)) (fun _ => ?_)
            refine q_iconst (v := nI 0) dX5_query_45 rfl ?_
            refine q_goto (tgt := 50) dX5_query_46 (by decide) ?_
            refine t_putc 0 (z' := 0) kX5 (by decide) wPX5_66 rfl dX5_query_50 hok mG_o rfl ⟨rfl, rfl⟩ (fun h hok => ?_)
            replace hok := mG_setT hok
            refine q_aload_n dX5_query_53 rfl ?_
            refine t_getc 0 kX5 (by decide) wPX5_66 dX5_query_54 hok mG_o rfl ?_
            refine q_if_le (tgt := 62) dX5_query_57 (by decide) (fun _ => ?_) (fun q => absurd q (by decide))
            refine q_iload_n dX5_query_62 rfl ?_
            refine q_sipush (v := nI 500) dX5_query_63 rfl ?_
            refine t_icmp_ge_n (tgt := 174) (by omega) (by omega) dX5_query_66 (by decide) (fun c1127 => ?_) (fun c1127 => ?_)
            ·
              refine q_aload_n dX5_query_174 rfl ?_
              refine q_iload_n dX5_query_175 rfl ?_
              refine t_callM (M' := mX5_asks) [.int (nI j1112)] [] dX5_query_176 wPX5_75v wIX5_asks wSX5_asks iX5_asks oX5_asks rfl hok (sX5_asks Sc Γ n o ml (0) (s) hB hml (j1112) (by omega)) (Nat.le_of_ble_eq_true rfl) (Nat.le_of_ble_eq_true rfl) (Nat.le_of_ble_eq_true rfl) rfl (fun _ _ _ q => by obtain ⟨q, _⟩ := q; obtain ⟨_, q, _⟩ := q; cases q) (fun v1128 h thv1128 sv1128 qv1128 hok => ?_)
              obtain ⟨qv1128, etv1128, esv1128⟩ := qv1128
              rw [etv1128, esv1128] at hok
              obtain ⟨x1129, qx1129, bx1129⟩ := qv1128
              obtain rfl := Sum.inl.inj qx1129
              exact q_iret dX5_query_179 rfl (q_bl.nar bx1129) ⟨0, s, ⟨⟨_, rfl, bx1129⟩, by omega⟩, hok, rfl⟩
            ·
              refine q_aload_n dX5_query_69 rfl ?_
              refine t_getr 5 kX5 (by decide) wPX5_19 dX5_query_70 hok mG_o rfl ?_
              refine q_iload_n dX5_query_73 rfl ?_
              refine q_aload_n dX5_query_74 rfl ?_
              refine t_getr 6 kX5 (by decide) wPX5_22 dX5_query_75 hok mG_o rfl ?_
              refine q_iload_n dX5_query_78 rfl ?_
              refine t_iald dX5_query_79 hok (mG_a4 (ml := ml) (th := 0) (s := s) hB) (by exact vp_in_nI (by omega) (by omega)) (fun x1130 => ?_)
              refine q_if_eq (tgt := 93) dX5_query_80 (by decide) (fun c1131 => ?_) (fun c1131 => ?_)
              ·
                refine q_iload_n dX5_query_93 rfl ?_
                refine q_goto (tgt := 103) dX5_query_94 (by decide) ?_
                refine t_iast dX5_query_103 hok (mG_a3 (ml := ml) (th := 0) (s := s) hB) (by exact vp_in_nI (by omega) (by omega)) (fun h hok => ?_)
                refine q_aload_n dX5_query_104 rfl ?_
                refine t_getr 6 kX5 (by decide) wPX5_22 dX5_query_105 hok mG_o rfl ?_
                refine q_iload_n dX5_query_108 rfl ?_
                refine q_aload_n dX5_query_109 rfl ?_
                refine t_getr 2 kX5 (by decide) wPX5_7 dX5_query_110 hok mG_o rfl ?_
                refine q_iload_n dX5_query_113 rfl ?_
                refine t_iald dX5_query_114 hok (mG_a0 (ml := ml) (th := 0) (s := s) hB) (by exact vp_in_nI (by omega) (by omega)) (fun x1132 => ?_)
                refine q_aload_n dX5_query_115 rfl ?_
                refine t_getr 3 kX5 (by decide) wPX5_13 dX5_query_116 hok mG_o rfl ?_
                refine q_iload_n dX5_query_119 rfl ?_
                refine t_iald dX5_query_120 hok (mG_a1 (ml := ml) (th := 0) (s := s) hB) (by exact vp_in_nI (by omega) (by omega)) (fun x1133 => ?_)
                refine q_imul dX5_query_121 ?_
                generalize (x1132) * (x1133) = z1134
                refine q_aload_n dX5_query_122 rfl ?_
                refine t_getr 4 kX5 (by decide) wPX5_16 dX5_query_123 hok mG_o rfl ?_
                refine q_iload_n dX5_query_126 rfl ?_
                refine t_iald dX5_query_127 hok (mG_a2 (ml := ml) (th := 0) (s := s) hB) (by exact vp_in_nI (by omega) (by omega)) (fun x1135 => ?_)
                refine q_iconst (v := nI 2) dX5_query_128 rfl ?_
                refine q_idiv dX5_query_129 (by decide) ?_
                generalize (x1135) / (nI 2) = z1136
                refine q_iadd dX5_query_130 ?_
                generalize (z1134) + (z1136) = z1137
                refine t_iast dX5_query_131 hok (mG_a4 (ml := ml) (th := 0) (s := s) hB) (by exact vp_in_nI (by omega) (by omega)) (fun h hok => ?_)
                refine q_iload_n dX5_query_132 rfl ?_
                refine q_iconst (v := -1) dX5_query_133 rfl ?_
                refine q_icmp_eq (tgt := 174) dX5_query_134 (by decide) (fun _ => ?_) (fun q => absurd q (by decide))
                refine q_aload_n dX5_query_174 rfl ?_
                refine q_iload_n dX5_query_175 rfl ?_
                refine t_callM (M' := mX5_asks) [.int (nI j1112)] [] dX5_query_176 wPX5_75v wIX5_asks wSX5_asks iX5_asks oX5_asks rfl hok (sX5_asks Sc Γ n o ml (0) (s) hB hml (j1112) (by omega)) (Nat.le_of_ble_eq_true rfl) (Nat.le_of_ble_eq_true rfl) (Nat.le_of_ble_eq_true rfl) rfl (fun _ _ _ q => by obtain ⟨q, _⟩ := q; obtain ⟨_, q, _⟩ := q; cases q) (fun v1138 h thv1138 sv1138 qv1138 hok => ?_)
                obtain ⟨qv1138, etv1138, esv1138⟩ := qv1138
                rw [etv1138, esv1138] at hok
                obtain ⟨x1139, qx1139, bx1139⟩ := qv1138
                obtain rfl := Sum.inl.inj qx1139
                exact q_iret dX5_query_179 rfl (q_bl.nar bx1139) ⟨0, s, ⟨⟨_, rfl, bx1139⟩, by omega⟩, hok, rfl⟩
              ·
                refine q_iload_n dX5_query_83 rfl ?_
                refine q_aload_n dX5_query_84 rfl ?_
                refine t_getr 5 kX5 (by decide) wPX5_19 dX5_query_85 hok mG_o rfl ?_
                refine q_iload_n dX5_query_88 rfl ?_
                refine t_iald dX5_query_89 hok (mG_a3 (ml := ml) (th := 0) (s := s) hB) (by exact vp_in_nI (by omega) (by omega)) (fun x1140 => ?_)
                refine q_icmp_ge (tgt := 97) dX5_query_90 (by decide) (fun c1141 => ?_) (fun c1141 => ?_)
                ·
                  refine q_aload_n dX5_query_97 rfl ?_
                  refine t_getr 5 kX5 (by decide) wPX5_19 dX5_query_98 hok mG_o rfl ?_
                  refine q_iload_n dX5_query_101 rfl ?_
                  refine t_iald dX5_query_102 hok (mG_a3 (ml := ml) (th := 0) (s := s) hB) (by exact vp_in_nI (by omega) (by omega)) (fun x1142 => ?_)
                  refine t_iast dX5_query_103 hok (mG_a3 (ml := ml) (th := 0) (s := s) hB) (by exact vp_in_nI (by omega) (by omega)) (fun h hok => ?_)
                  refine q_aload_n dX5_query_104 rfl ?_
                  refine t_getr 6 kX5 (by decide) wPX5_22 dX5_query_105 hok mG_o rfl ?_
                  refine q_iload_n dX5_query_108 rfl ?_
                  refine q_aload_n dX5_query_109 rfl ?_
                  refine t_getr 2 kX5 (by decide) wPX5_7 dX5_query_110 hok mG_o rfl ?_
                  refine q_iload_n dX5_query_113 rfl ?_
                  refine t_iald dX5_query_114 hok (mG_a0 (ml := ml) (th := 0) (s := s) hB) (by exact vp_in_nI (by omega) (by omega)) (fun x1143 => ?_)
                  refine q_aload_n dX5_query_115 rfl ?_
                  refine t_getr 3 kX5 (by decide) wPX5_13 dX5_query_116 hok mG_o rfl ?_
                  refine q_iload_n dX5_query_119 rfl ?_
                  refine t_iald dX5_query_120 hok (mG_a1 (ml := ml) (th := 0) (s := s) hB) (by exact vp_in_nI (by omega) (by omega)) (fun x1144 => ?_)
                  refine q_imul dX5_query_121 ?_
                  generalize (x1143) * (x1144) = z1145
                  refine q_aload_n dX5_query_122 rfl ?_
                  refine t_getr 4 kX5 (by decide) wPX5_16 dX5_query_123 hok mG_o rfl ?_
                  refine q_iload_n dX5_query_126 rfl ?_
                  refine t_iald dX5_query_127 hok (mG_a2 (ml := ml) (th := 0) (s := s) hB) (by exact vp_in_nI (by omega) (by omega)) (fun x1146 => ?_)
                  refine q_iconst (v := nI 2) dX5_query_128 rfl ?_
                  refine q_idiv dX5_query_129 (by decide) ?_
                  generalize (x1146) / (nI 2) = z1147
                  refine q_iadd dX5_query_130 ?_
                  generalize (z1145) + (z1147) = z1148
                  refine t_iast dX5_query_131 hok (mG_a4 (ml := ml) (th := 0) (s := s) hB) (by exact vp_in_nI (by omega) (by omega)) (fun h hok => ?_)
                  refine q_iload_n dX5_query_132 rfl ?_
                  refine q_iconst (v := -1) dX5_query_133 rfl ?_
                  refine q_icmp_eq (tgt := 174) dX5_query_134 (by decide) (fun _ => ?_) (fun q => absurd q (by decide))
                  refine q_aload_n dX5_query_174 rfl ?_
                  refine q_iload_n dX5_query_175 rfl ?_
                  refine t_callM (M' := mX5_asks) [.int (nI j1112)] [] dX5_query_176 wPX5_75v wIX5_asks wSX5_asks iX5_asks oX5_asks rfl hok (sX5_asks Sc Γ n o ml (0) (s) hB hml (j1112) (by omega)) (Nat.le_of_ble_eq_true rfl) (Nat.le_of_ble_eq_true rfl) (Nat.le_of_ble_eq_true rfl) rfl (fun _ _ _ q => by obtain ⟨q, _⟩ := q; obtain ⟨_, q, _⟩ := q; cases q) (fun v1149 h thv1149 sv1149 qv1149 hok => ?_)
                  obtain ⟨qv1149, etv1149, esv1149⟩ := qv1149
                  rw [etv1149, esv1149] at hok
                  obtain ⟨x1150, qx1150, bx1150⟩ := qv1149
                  obtain rfl := Sum.inl.inj qx1150
                  exact q_iret dX5_query_179 rfl (q_bl.nar bx1150) ⟨0, s, ⟨⟨_, rfl, bx1150⟩, by omega⟩, hok, rfl⟩
                ·
                  refine q_iload_n dX5_query_93 rfl ?_
                  refine q_goto (tgt := 103) dX5_query_94 (by decide) ?_
                  refine t_iast dX5_query_103 hok (mG_a3 (ml := ml) (th := 0) (s := s) hB) (by exact vp_in_nI (by omega) (by omega)) (fun h hok => ?_)
                  refine q_aload_n dX5_query_104 rfl ?_
                  refine t_getr 6 kX5 (by decide) wPX5_22 dX5_query_105 hok mG_o rfl ?_
                  refine q_iload_n dX5_query_108 rfl ?_
                  refine q_aload_n dX5_query_109 rfl ?_
                  refine t_getr 2 kX5 (by decide) wPX5_7 dX5_query_110 hok mG_o rfl ?_
                  refine q_iload_n dX5_query_113 rfl ?_
                  refine t_iald dX5_query_114 hok (mG_a0 (ml := ml) (th := 0) (s := s) hB) (by exact vp_in_nI (by omega) (by omega)) (fun x1151 => ?_)
                  refine q_aload_n dX5_query_115 rfl ?_
                  refine t_getr 3 kX5 (by decide) wPX5_13 dX5_query_116 hok mG_o rfl ?_
                  refine q_iload_n dX5_query_119 rfl ?_
                  refine t_iald dX5_query_120 hok (mG_a1 (ml := ml) (th := 0) (s := s) hB) (by exact vp_in_nI (by omega) (by omega)) (fun x1152 => ?_)
                  refine q_imul dX5_query_121 ?_
                  generalize (x1151) * (x1152) = z1153
                  refine q_aload_n dX5_query_122 rfl ?_
                  refine t_getr 4 kX5 (by decide) wPX5_16 dX5_query_123 hok mG_o rfl ?_
                  refine q_iload_n dX5_query_126 rfl ?_
                  refine t_iald dX5_query_127 hok (mG_a2 (ml := ml) (th := 0) (s := s) hB) (by exact vp_in_nI (by omega) (by omega)) (fun x1154 => ?_)
                  refine q_iconst (v := nI 2) dX5_query_128 rfl ?_
                  refine q_idiv dX5_query_129 (by decide) ?_
                  generalize (x1154) / (nI 2) = z1155
                  refine q_iadd dX5_query_130 ?_
                  generalize (z1153) + (z1155) = z1156
                  refine t_iast dX5_query_131 hok (mG_a4 (ml := ml) (th := 0) (s := s) hB) (by exact vp_in_nI (by omega) (by omega)) (fun h hok => ?_)
                  refine q_iload_n dX5_query_132 rfl ?_
                  refine q_iconst (v := -1) dX5_query_133 rfl ?_
                  refine q_icmp_eq (tgt := 174) dX5_query_134 (by decide) (fun _ => ?_) (fun q => absurd q (by decide))
                  refine q_aload_n dX5_query_174 rfl ?_
                  refine q_iload_n dX5_query_175 rfl ?_
                  refine t_callM (M' := mX5_asks) [.int (nI j1112)] [] dX5_query_176 wPX5_75v wIX5_asks wSX5_asks iX5_asks oX5_asks rfl hok (sX5_asks Sc Γ n o ml (0) (s) hB hml (j1112) (by omega)) (Nat.le_of_ble_eq_true rfl) (Nat.le_of_ble_eq_true rfl) (Nat.le_of_ble_eq_true rfl) rfl (fun _ _ _ q => by obtain ⟨q, _⟩ := q; obtain ⟨_, q, _⟩ := q; cases q) (fun v1157 h thv1157 sv1157 qv1157 hok => ?_)
                  obtain ⟨qv1157, etv1157, esv1157⟩ := qv1157
                  rw [etv1157, esv1157] at hok
                  obtain ⟨x1158, qx1158, bx1158⟩ := qv1157
                  obtain rfl := Sum.inl.inj qx1158
                  exact q_iret dX5_query_179 rfl (q_bl.nar bx1158) ⟨0, s, ⟨⟨_, rfl, bx1158⟩, by omega⟩, hok, rfl⟩
          ·
            refine q_if_eq (tgt := 49) dX5_query_42 (by decide) (fun _ => ?_) (fun q => absurd q (by decide))
            refine q_iconst (v := nI 2) dX5_query_49 rfl ?_
            refine t_putc 0 (z' := 2) kX5 (by decide) wPX5_66 rfl dX5_query_50 hok mG_o rfl ⟨rfl, rfl⟩ (fun h hok => ?_)
            replace hok := mG_setT hok
            refine q_aload_n dX5_query_53 rfl ?_
            refine t_getc 0 kX5 (by decide) wPX5_66 dX5_query_54 hok mG_o rfl ?_
            refine q_if_le (tgt := 62) dX5_query_57 (by decide) (fun q => absurd q (by decide)) (fun _ => ?_)
            refine q_iconst (v := nI 0) dX5_query_60 rfl ?_
            exact q_iret dX5_query_61 rfl (rfl) ⟨2, s, ⟨⟨_, rfl, Or.inl rfl⟩, by omega⟩, hok, rfl⟩
        ·
          refine q_if_eq (tgt := 49) dX5_query_31 (by decide) (fun _ => ?_) (fun q => absurd q (by decide))
          refine q_iconst (v := nI 2) dX5_query_49 rfl ?_
          refine t_putc 0 (z' := 2) kX5 (by decide) wPX5_66 rfl dX5_query_50 hok mG_o rfl ⟨rfl, rfl⟩ (fun h hok => ?_)
          replace hok := mG_setT hok
          refine q_aload_n dX5_query_53 rfl ?_
          refine t_getc 0 kX5 (by decide) wPX5_66 dX5_query_54 hok mG_o rfl ?_
          refine q_if_le (tgt := 62) dX5_query_57 (by decide) (fun q => absurd q (by decide)) (fun _ => ?_)
          refine q_iconst (v := nI 0) dX5_query_60 rfl ?_
          exact q_iret dX5_query_61 rfl (rfl) ⟨2, s, ⟨⟨_, rfl, Or.inl rfl⟩, by omega⟩, hok, rfl⟩
      ·
        refine q_if_ne (tgt := 23) dX5_query_16 (by decide) (fun _ => ?_) (fun q => absurd q (by decide))
        refine q_iload_n dX5_query_23 rfl ?_
        refine q_iconst (v := nI 0) dX5_query_24 rfl ?_
        refine q_sipush (v := nI 999) dX5_query_25 rfl ?_
        refine t_callS (M' := mX5_in) [.int (a2), .int (nI 0), .int (nI 999)] [.ref o] dX5_query_28 wPX5_120 wTX5_in wNX5 iX5_in oX5_in rfl hok (sX5_in Sc (mG Γ o ml (th) (s)) n (a2) (nI 0) (nI 999)) (Nat.le_of_ble_eq_true rfl) (Nat.le_of_ble_eq_true rfl) (Nat.le_of_ble_eq_true rfl) (Nat.le_of_ble_eq_true rfl) (Nat.le_of_ble_eq_true rfl) rfl (fun v1159 h qv1159 hok => ?_) (fun e1160 h qe1160 hok => absurd qe1160 (by intro q; obtain ⟨_, q, _⟩ := q; cases q))
        obtain ⟨x1161, qx1161, hx1161⟩ := qv1159
        obtain rfl := Sum.inl.inj qx1161
        rcases hx1161 with ⟨rfl, c1162a, c1162b⟩ | rfl
        ·
          obtain ⟨g1163, hg1163, rfl⟩ := q_chk2 (by omega) c1162a c1162b
          refine q_if_eq (tgt := 49) dX5_query_31 (by decide) (fun q => absurd q (by decide)) (fun _ => ?_)
          refine q_iload dX5_query_34 rfl ?_
          refine q_iconst (v := nI 0) dX5_query_36 rfl ?_
          refine q_ldc dX5_query_37 wPX5_124 ?_
          refine t_callS (M' := mX5_in) [.int (a4), .int (nI 0), .int (65535)] [.ref o] dX5_query_39 wPX5_120 wTX5_in wNX5 iX5_in oX5_in rfl hok (sX5_in Sc (mG Γ o ml (th) (s)) n (a4) (nI 0) (65535)) (Nat.le_of_ble_eq_true rfl) (Nat.le_of_ble_eq_true rfl) (Nat.le_of_ble_eq_true rfl) (Nat.le_of_ble_eq_true rfl) (Nat.le_of_ble_eq_true rfl) rfl (fun v1164 h qv1164 hok => ?_) (fun e1165 h qe1165 hok => absurd qe1165 (by intro q; obtain ⟨_, q, _⟩ := q; cases q))
          obtain ⟨x1166, qx1166, hx1166⟩ := qv1164
          obtain rfl := Sum.inl.inj qx1166
          rcases hx1166 with ⟨rfl, c1167a, c1167b⟩ | rfl
          ·
            refine q_if_eq (tgt := 49) dX5_query_42 (by decide) (fun q => absurd q (by decide)) (fun _ => ?_)
            refine q_iconst (v := nI 0) dX5_query_45 rfl ?_
            refine q_goto (tgt := 50) dX5_query_46 (by decide) ?_
            refine t_putc 0 (z' := 0) kX5 (by decide) wPX5_66 rfl dX5_query_50 hok mG_o rfl ⟨rfl, rfl⟩ (fun h hok => ?_)
            replace hok := mG_setT hok
            refine q_aload_n dX5_query_53 rfl ?_
            refine t_getc 0 kX5 (by decide) wPX5_66 dX5_query_54 hok mG_o rfl ?_
            refine q_if_le (tgt := 62) dX5_query_57 (by decide) (fun _ => ?_) (fun q => absurd q (by decide))
            refine q_iload_n dX5_query_62 rfl ?_
            refine q_sipush (v := nI 500) dX5_query_63 rfl ?_
            refine t_icmp_ge_n (tgt := 174) (by omega) (by omega) dX5_query_66 (by decide) (fun c1168 => ?_) (fun c1168 => ?_)
            ·
              refine q_aload_n dX5_query_174 rfl ?_
              refine q_iload_n dX5_query_175 rfl ?_
              refine t_callM (M' := mX5_asks) [.int (nI j1112)] [] dX5_query_176 wPX5_75v wIX5_asks wSX5_asks iX5_asks oX5_asks rfl hok (sX5_asks Sc Γ n o ml (0) (s) hB hml (j1112) (by omega)) (Nat.le_of_ble_eq_true rfl) (Nat.le_of_ble_eq_true rfl) (Nat.le_of_ble_eq_true rfl) rfl (fun _ _ _ q => by obtain ⟨q, _⟩ := q; obtain ⟨_, q, _⟩ := q; cases q) (fun v1169 h thv1169 sv1169 qv1169 hok => ?_)
              obtain ⟨qv1169, etv1169, esv1169⟩ := qv1169
              rw [etv1169, esv1169] at hok
              obtain ⟨x1170, qx1170, bx1170⟩ := qv1169
              obtain rfl := Sum.inl.inj qx1170
              exact q_iret dX5_query_179 rfl (q_bl.nar bx1170) ⟨0, s, ⟨⟨_, rfl, bx1170⟩, by omega⟩, hok, rfl⟩
            ·
              refine q_aload_n dX5_query_69 rfl ?_
              refine t_getr 5 kX5 (by decide) wPX5_19 dX5_query_70 hok mG_o rfl ?_
              refine q_iload_n dX5_query_73 rfl ?_
              refine q_aload_n dX5_query_74 rfl ?_
              refine t_getr 6 kX5 (by decide) wPX5_22 dX5_query_75 hok mG_o rfl ?_
              refine q_iload_n dX5_query_78 rfl ?_
              refine t_iald dX5_query_79 hok (mG_a4 (ml := ml) (th := 0) (s := s) hB) (by exact vp_in_nI (by omega) (by omega)) (fun x1171 => ?_)
              refine q_if_eq (tgt := 93) dX5_query_80 (by decide) (fun c1172 => ?_) (fun c1172 => ?_)
              ·
                refine q_iload_n dX5_query_93 rfl ?_
                refine q_goto (tgt := 103) dX5_query_94 (by decide) ?_
                refine t_iast dX5_query_103 hok (mG_a3 (ml := ml) (th := 0) (s := s) hB) (by exact vp_in_nI (by omega) (by omega)) (fun h hok => ?_)
                refine q_aload_n dX5_query_104 rfl ?_
                refine t_getr 6 kX5 (by decide) wPX5_22 dX5_query_105 hok mG_o rfl ?_
                refine q_iload_n dX5_query_108 rfl ?_
                refine q_aload_n dX5_query_109 rfl ?_
                refine t_getr 2 kX5 (by decide) wPX5_7 dX5_query_110 hok mG_o rfl ?_
                refine q_iload_n dX5_query_113 rfl ?_
                refine t_iald dX5_query_114 hok (mG_a0 (ml := ml) (th := 0) (s := s) hB) (by exact vp_in_nI (by omega) (by omega)) (fun x1173 => ?_)
                refine q_aload_n dX5_query_115 rfl ?_
                refine t_getr 3 kX5 (by decide) wPX5_13 dX5_query_116 hok mG_o rfl ?_
                refine q_iload_n dX5_query_119 rfl ?_
                refine t_iald dX5_query_120 hok (mG_a1 (ml := ml) (th := 0) (s := s) hB) (by exact vp_in_nI (by omega) (by omega)) (fun x1174 => ?_)
                refine q_imul dX5_query_121 ?_
                generalize (x1173) * (x1174) = z1175
                refine q_aload_n dX5_query_122 rfl ?_
                refine t_getr 4 kX5 (by decide) wPX5_16 dX5_query_123 hok mG_o rfl ?_
                refine q_iload_n dX5_query_126 rfl ?_
                refine t_iald dX5_query_127 hok (mG_a2 (ml := ml) (th := 0) (s := s) hB) (by exact vp_in_nI (by omega) (by omega)) (fun x1176 => ?_)
                refine q_iconst (v := nI 2) dX5_query_128 rfl ?_
                refine q_idiv dX5_query_129 (by decide) ?_
                generalize (x1176) / (nI 2) = z1177
                refine q_iadd dX5_query_130 ?_
                generalize (z1175) + (z1177) = z1178
                refine t_iast dX5_query_131 hok (mG_a4 (ml := ml) (th := 0) (s := s) hB) (by exact vp_in_nI (by omega) (by omega)) (fun h hok => ?_)
                refine q_iload_n dX5_query_132 rfl ?_
                refine q_iconst (v := -1) dX5_query_133 rfl ?_
                refine q_icmp_eq (tgt := 174) dX5_query_134 (by decide) (fun c1179 => ?_) (fun c1179 => ?_)
                ·
                  refine q_aload_n dX5_query_174 rfl ?_
                  refine q_iload_n dX5_query_175 rfl ?_
                  refine t_callM (M' := mX5_asks) [.int (nI j1112)] [] dX5_query_176 wPX5_75v wIX5_asks wSX5_asks iX5_asks oX5_asks rfl hok (sX5_asks Sc Γ n o ml (0) (s) hB hml (j1112) (by omega)) (Nat.le_of_ble_eq_true rfl) (Nat.le_of_ble_eq_true rfl) (Nat.le_of_ble_eq_true rfl) rfl (fun _ _ _ q => by obtain ⟨q, _⟩ := q; obtain ⟨_, q, _⟩ := q; cases q) (fun v1180 h thv1180 sv1180 qv1180 hok => ?_)
                  obtain ⟨qv1180, etv1180, esv1180⟩ := qv1180
                  rw [etv1180, esv1180] at hok
                  obtain ⟨x1181, qx1181, bx1181⟩ := qv1180
                  obtain rfl := Sum.inl.inj qx1181
                  exact q_iret dX5_query_179 rfl (q_bl.nar bx1181) ⟨0, s, ⟨⟨_, rfl, bx1181⟩, by omega⟩, hok, rfl⟩
                ·
                  refine q_iload dX5_query_137 rfl ?_
                  refine q_if_ne (tgt := 174) dX5_query_139 (by decide) (fun c1182 => ?_) (fun c1182 => ?_)
                  ·
                    refine q_aload_n dX5_query_174 rfl ?_
                    refine q_iload_n dX5_query_175 rfl ?_
                    refine t_callM (M' := mX5_asks) [.int (nI j1112)] [] dX5_query_176 wPX5_75v wIX5_asks wSX5_asks iX5_asks oX5_asks rfl hok (sX5_asks Sc Γ n o ml (0) (s) hB hml (j1112) (by omega)) (Nat.le_of_ble_eq_true rfl) (Nat.le_of_ble_eq_true rfl) (Nat.le_of_ble_eq_true rfl) rfl (fun _ _ _ q => by obtain ⟨q, _⟩ := q; obtain ⟨_, q, _⟩ := q; cases q) (fun v1183 h thv1183 sv1183 qv1183 hok => ?_)
                    obtain ⟨qv1183, etv1183, esv1183⟩ := qv1183
                    rw [etv1183, esv1183] at hok
                    obtain ⟨x1184, qx1184, bx1184⟩ := qv1183
                    obtain rfl := Sum.inl.inj qx1184
                    exact q_iret dX5_query_179 rfl (q_bl.nar bx1184) ⟨0, s, ⟨⟨_, rfl, bx1184⟩, by omega⟩, hok, rfl⟩
                  ·
                    refine q_iload dX5_query_142 rfl ?_
                    refine q_if_eq (tgt := 163) dX5_query_144 (by decide) (fun c1185 => ?_) (fun c1185 => ?_)
                    ·
                      refine q_aload_n dX5_query_163 rfl ?_
                      refine q_iload_n dX5_query_164 rfl ?_
                      refine q_bipush (v := nI 8) dX5_query_165 rfl ?_
                      refine q_iload_n dX5_query_167 rfl ?_
                      refine t_imul_n dX5_query_168 ?_
                      refine q_iload_n dX5_query_169 rfl ?_
                      refine t_iadd_n dX5_query_170 ?_
                      refine t_callM (M' := mX5_lowerGroup) [.int (nI j1112), .int (nI ((8 * j1112) + (g1117)))] [] dX5_query_171 wPX5_86v wIX5_lowerGroup wSX5_lowerGroup iX5_lowerGroup oX5_lowerGroup rfl hok (sX5_lowerGroup Sc Γ n o ml (0) (s) hB hml (j1112) (by omega) ((8 * j1112) + (g1117)) (by omega)) (Nat.le_of_ble_eq_true rfl) (Nat.le_of_ble_eq_true rfl) (Nat.le_of_ble_eq_true rfl) rfl (fun _ _ _ q => by obtain ⟨q, _⟩ := q; cases q) (fun v1186 h thv1186 sv1186 qv1186 hok => ?_)
                      obtain ⟨qv1186, etv1186, esv1186⟩ := qv1186
                      rw [etv1186, esv1186] at hok
                      obtain rfl := Sum.inl.inj qv1186
                      refine q_aload_n dX5_query_174 rfl ?_
                      refine q_iload_n dX5_query_175 rfl ?_
                      refine t_callM (M' := mX5_asks) [.int (nI j1112)] [] dX5_query_176 wPX5_75v wIX5_asks wSX5_asks iX5_asks oX5_asks rfl hok (sX5_asks Sc Γ n o ml (0) (s) hB hml (j1112) (by omega)) (Nat.le_of_ble_eq_true rfl) (Nat.le_of_ble_eq_true rfl) (Nat.le_of_ble_eq_true rfl) rfl (fun _ _ _ q => by obtain ⟨q, _⟩ := q; obtain ⟨_, q, _⟩ := q; cases q) (fun v1187 h thv1187 sv1187 qv1187 hok => ?_)
                      obtain ⟨qv1187, etv1187, esv1187⟩ := qv1187
                      rw [etv1187, esv1187] at hok
                      obtain ⟨x1188, qx1188, bx1188⟩ := qv1187
                      obtain rfl := Sum.inl.inj qx1188
                      exact q_iret dX5_query_179 rfl (q_bl.nar bx1188) ⟨0, s, ⟨⟨_, rfl, bx1188⟩, by omega⟩, hok, rfl⟩
                    ·
                      refine q_aload_n dX5_query_147 rfl ?_
                      refine q_iload_n dX5_query_148 rfl ?_
                      refine q_bipush (v := nI 8) dX5_query_149 rfl ?_
                      refine q_iload_n dX5_query_151 rfl ?_
                      refine t_imul_n dX5_query_152 ?_
                      refine q_iload_n dX5_query_153 rfl ?_
                      refine t_iadd_n dX5_query_154 ?_
                      refine q_iload dX5_query_155 rfl ?_
                      refine t_callM (M' := mX5_lower) [.int (nI j1112), .int (nI ((8 * j1112) + (g1117))), .int (a4)] [] dX5_query_157 wPX5_83v wIX5_lower wSX5_lower iX5_lower oX5_lower rfl hok (sX5_lower Sc Γ n o ml (0) (s) hB hml (j1112) (by omega) ((8 * j1112) + (g1117)) (by omega) (a4)) (Nat.le_of_ble_eq_true rfl) (Nat.le_of_ble_eq_true rfl) (Nat.le_of_ble_eq_true rfl) rfl (fun _ _ _ q => by obtain ⟨q, _⟩ := q; cases q) (fun v1189 h thv1189 sv1189 qv1189 hok => ?_)
                      obtain ⟨qv1189, etv1189, esv1189⟩ := qv1189
                      rw [etv1189, esv1189] at hok
                      obtain rfl := Sum.inl.inj qv1189
                      refine q_goto (tgt := 174) dX5_query_160 (by decide) ?_
                      refine q_aload_n dX5_query_174 rfl ?_
                      refine q_iload_n dX5_query_175 rfl ?_
                      refine t_callM (M' := mX5_asks) [.int (nI j1112)] [] dX5_query_176 wPX5_75v wIX5_asks wSX5_asks iX5_asks oX5_asks rfl hok (sX5_asks Sc Γ n o ml (0) (s) hB hml (j1112) (by omega)) (Nat.le_of_ble_eq_true rfl) (Nat.le_of_ble_eq_true rfl) (Nat.le_of_ble_eq_true rfl) rfl (fun _ _ _ q => by obtain ⟨q, _⟩ := q; obtain ⟨_, q, _⟩ := q; cases q) (fun v1190 h thv1190 sv1190 qv1190 hok => ?_)
                      obtain ⟨qv1190, etv1190, esv1190⟩ := qv1190
                      rw [etv1190, esv1190] at hok
                      obtain ⟨x1191, qx1191, bx1191⟩ := qv1190
                      obtain rfl := Sum.inl.inj qx1191
                      exact q_iret dX5_query_179 rfl (q_bl.nar bx1191) ⟨0, s, ⟨⟨_, rfl, bx1191⟩, by omega⟩, hok, rfl⟩
              ·
                refine q_iload_n dX5_query_83 rfl ?_
                refine q_aload_n dX5_query_84 rfl ?_
                refine t_getr 5 kX5 (by decide) wPX5_19 dX5_query_85 hok mG_o rfl ?_
                refine q_iload_n dX5_query_88 rfl ?_
                refine t_iald dX5_query_89 hok (mG_a3 (ml := ml) (th := 0) (s := s) hB) (by exact vp_in_nI (by omega) (by omega)) (fun x1192 => ?_)
                refine q_icmp_ge (tgt := 97) dX5_query_90 (by decide) (fun c1193 => ?_) (fun c1193 => ?_)
                ·
                  refine q_aload_n dX5_query_97 rfl ?_
                  refine t_getr 5 kX5 (by decide) wPX5_19 dX5_query_98 hok mG_o rfl ?_
                  refine q_iload_n dX5_query_101 rfl ?_
                  refine t_iald dX5_query_102 hok (mG_a3 (ml := ml) (th := 0) (s := s) hB) (by exact vp_in_nI (by omega) (by omega)) (fun x1194 => ?_)
                  refine t_iast dX5_query_103 hok (mG_a3 (ml := ml) (th := 0) (s := s) hB) (by exact vp_in_nI (by omega) (by omega)) (fun h hok => ?_)
                  refine q_aload_n dX5_query_104 rfl ?_
                  refine t_getr 6 kX5 (by decide) wPX5_22 dX5_query_105 hok mG_o rfl ?_
                  refine q_iload_n dX5_query_108 rfl ?_
                  refine q_aload_n dX5_query_109 rfl ?_
                  refine t_getr 2 kX5 (by decide) wPX5_7 dX5_query_110 hok mG_o rfl ?_
                  refine q_iload_n dX5_query_113 rfl ?_
                  refine t_iald dX5_query_114 hok (mG_a0 (ml := ml) (th := 0) (s := s) hB) (by exact vp_in_nI (by omega) (by omega)) (fun x1195 => ?_)
                  refine q_aload_n dX5_query_115 rfl ?_
                  refine t_getr 3 kX5 (by decide) wPX5_13 dX5_query_116 hok mG_o rfl ?_
                  refine q_iload_n dX5_query_119 rfl ?_
                  refine t_iald dX5_query_120 hok (mG_a1 (ml := ml) (th := 0) (s := s) hB) (by exact vp_in_nI (by omega) (by omega)) (fun x1196 => ?_)
                  refine q_imul dX5_query_121 ?_
                  generalize (x1195) * (x1196) = z1197
                  refine q_aload_n dX5_query_122 rfl ?_
                  refine t_getr 4 kX5 (by decide) wPX5_16 dX5_query_123 hok mG_o rfl ?_
                  refine q_iload_n dX5_query_126 rfl ?_
                  refine t_iald dX5_query_127 hok (mG_a2 (ml := ml) (th := 0) (s := s) hB) (by exact vp_in_nI (by omega) (by omega)) (fun x1198 => ?_)
                  refine q_iconst (v := nI 2) dX5_query_128 rfl ?_
                  refine q_idiv dX5_query_129 (by decide) ?_
                  generalize (x1198) / (nI 2) = z1199
                  refine q_iadd dX5_query_130 ?_
                  generalize (z1197) + (z1199) = z1200
                  refine t_iast dX5_query_131 hok (mG_a4 (ml := ml) (th := 0) (s := s) hB) (by exact vp_in_nI (by omega) (by omega)) (fun h hok => ?_)
                  refine q_iload_n dX5_query_132 rfl ?_
                  refine q_iconst (v := -1) dX5_query_133 rfl ?_
                  refine q_icmp_eq (tgt := 174) dX5_query_134 (by decide) (fun c1201 => ?_) (fun c1201 => ?_)
                  ·
                    refine q_aload_n dX5_query_174 rfl ?_
                    refine q_iload_n dX5_query_175 rfl ?_
                    refine t_callM (M' := mX5_asks) [.int (nI j1112)] [] dX5_query_176 wPX5_75v wIX5_asks wSX5_asks iX5_asks oX5_asks rfl hok (sX5_asks Sc Γ n o ml (0) (s) hB hml (j1112) (by omega)) (Nat.le_of_ble_eq_true rfl) (Nat.le_of_ble_eq_true rfl) (Nat.le_of_ble_eq_true rfl) rfl (fun _ _ _ q => by obtain ⟨q, _⟩ := q; obtain ⟨_, q, _⟩ := q; cases q) (fun v1202 h thv1202 sv1202 qv1202 hok => ?_)
                    obtain ⟨qv1202, etv1202, esv1202⟩ := qv1202
                    rw [etv1202, esv1202] at hok
                    obtain ⟨x1203, qx1203, bx1203⟩ := qv1202
                    obtain rfl := Sum.inl.inj qx1203
                    exact q_iret dX5_query_179 rfl (q_bl.nar bx1203) ⟨0, s, ⟨⟨_, rfl, bx1203⟩, by omega⟩, hok, rfl⟩
                  ·
                    refine q_iload dX5_query_137 rfl ?_
                    refine q_if_ne (tgt := 174) dX5_query_139 (by decide) (fun c1204 => ?_) (fun c1204 => ?_)
                    ·
                      refine q_aload_n dX5_query_174 rfl ?_
                      refine q_iload_n dX5_query_175 rfl ?_
                      refine t_callM (M' := mX5_asks) [.int (nI j1112)] [] dX5_query_176 wPX5_75v wIX5_asks wSX5_asks iX5_asks oX5_asks rfl hok (sX5_asks Sc Γ n o ml (0) (s) hB hml (j1112) (by omega)) (Nat.le_of_ble_eq_true rfl) (Nat.le_of_ble_eq_true rfl) (Nat.le_of_ble_eq_true rfl) rfl (fun _ _ _ q => by obtain ⟨q, _⟩ := q; obtain ⟨_, q, _⟩ := q; cases q) (fun v1205 h thv1205 sv1205 qv1205 hok => ?_)
                      obtain ⟨qv1205, etv1205, esv1205⟩ := qv1205
                      rw [etv1205, esv1205] at hok
                      obtain ⟨x1206, qx1206, bx1206⟩ := qv1205
                      obtain rfl := Sum.inl.inj qx1206
                      exact q_iret dX5_query_179 rfl (q_bl.nar bx1206) ⟨0, s, ⟨⟨_, rfl, bx1206⟩, by omega⟩, hok, rfl⟩
                    ·
                      refine q_iload dX5_query_142 rfl ?_
                      refine q_if_eq (tgt := 163) dX5_query_144 (by decide) (fun c1207 => ?_) (fun c1207 => ?_)
                      ·
                        refine q_aload_n dX5_query_163 rfl ?_
                        refine q_iload_n dX5_query_164 rfl ?_
                        refine q_bipush (v := nI 8) dX5_query_165 rfl ?_
                        refine q_iload_n dX5_query_167 rfl ?_
                        refine t_imul_n dX5_query_168 ?_
                        refine q_iload_n dX5_query_169 rfl ?_
                        refine t_iadd_n dX5_query_170 ?_
                        refine t_callM (M' := mX5_lowerGroup) [.int (nI j1112), .int (nI ((8 * j1112) + (g1117)))] [] dX5_query_171 wPX5_86v wIX5_lowerGroup wSX5_lowerGroup iX5_lowerGroup oX5_lowerGroup rfl hok (sX5_lowerGroup Sc Γ n o ml (0) (s) hB hml (j1112) (by omega) ((8 * j1112) + (g1117)) (by omega)) (Nat.le_of_ble_eq_true rfl) (Nat.le_of_ble_eq_true rfl) (Nat.le_of_ble_eq_true rfl) rfl (fun _ _ _ q => by obtain ⟨q, _⟩ := q; cases q) (fun v1208 h thv1208 sv1208 qv1208 hok => ?_)
                        obtain ⟨qv1208, etv1208, esv1208⟩ := qv1208
                        rw [etv1208, esv1208] at hok
                        obtain rfl := Sum.inl.inj qv1208
                        refine q_aload_n dX5_query_174 rfl ?_
                        refine q_iload_n dX5_query_175 rfl ?_
                        refine t_callM (M' := mX5_asks) [.int (nI j1112)] [] dX5_query_176 wPX5_75v wIX5_asks wSX5_asks iX5_asks oX5_asks rfl hok (sX5_asks Sc Γ n o ml (0) (s) hB hml (j1112) (by omega)) (Nat.le_of_ble_eq_true rfl) (Nat.le_of_ble_eq_true rfl) (Nat.le_of_ble_eq_true rfl) rfl (fun _ _ _ q => by obtain ⟨q, _⟩ := q; obtain ⟨_, q, _⟩ := q; cases q) (fun v1209 h thv1209 sv1209 qv1209 hok => ?_)
                        obtain ⟨qv1209, etv1209, esv1209⟩ := qv1209
                        rw [etv1209, esv1209] at hok
                        obtain ⟨x1210, qx1210, bx1210⟩ := qv1209
                        obtain rfl := Sum.inl.inj qx1210
                        exact q_iret dX5_query_179 rfl (q_bl.nar bx1210) ⟨0, s, ⟨⟨_, rfl, bx1210⟩, by omega⟩, hok, rfl⟩
                      ·
                        refine q_aload_n dX5_query_147 rfl ?_
                        refine q_iload_n dX5_query_148 rfl ?_
                        refine q_bipush (v := nI 8) dX5_query_149 rfl ?_
                        refine q_iload_n dX5_query_151 rfl ?_
                        refine t_imul_n dX5_query_152 ?_
                        refine q_iload_n dX5_query_153 rfl ?_
                        refine t_iadd_n dX5_query_154 ?_
                        refine q_iload dX5_query_155 rfl ?_
                        refine t_callM (M' := mX5_lower) [.int (nI j1112), .int (nI ((8 * j1112) + (g1117))), .int (a4)] [] dX5_query_157 wPX5_83v wIX5_lower wSX5_lower iX5_lower oX5_lower rfl hok (sX5_lower Sc Γ n o ml (0) (s) hB hml (j1112) (by omega) ((8 * j1112) + (g1117)) (by omega) (a4)) (Nat.le_of_ble_eq_true rfl) (Nat.le_of_ble_eq_true rfl) (Nat.le_of_ble_eq_true rfl) rfl (fun _ _ _ q => by obtain ⟨q, _⟩ := q; cases q) (fun v1211 h thv1211 sv1211 qv1211 hok => ?_)
                        obtain ⟨qv1211, etv1211, esv1211⟩ := qv1211
                        rw [etv1211, esv1211] at hok
                        obtain rfl := Sum.inl.inj qv1211
                        refine q_goto (tgt := 174) dX5_query_160 (by decide) ?_
                        refine q_aload_n dX5_query_174 rfl ?_
                        refine q_iload_n dX5_query_175 rfl ?_
                        refine t_callM (M' := mX5_asks) [.int (nI j1112)] [] dX5_query_176 wPX5_75v wIX5_asks wSX5_asks iX5_asks oX5_asks rfl hok (sX5_asks Sc Γ n o ml (0) (s) hB hml (j1112) (by omega)) (Nat.le_of_ble_eq_true rfl) (Nat.le_of_ble_eq_true rfl) (Nat.le_of_ble_eq_true rfl) rfl (fun _ _ _ q => by obtain ⟨q, _⟩ := q; obtain ⟨_, q, _⟩ := q; cases q) (fun v1212 h thv1212 sv1212 qv1212 hok => ?_)
                        obtain ⟨qv1212, etv1212, esv1212⟩ := qv1212
                        rw [etv1212, esv1212] at hok
                        obtain ⟨x1213, qx1213, bx1213⟩ := qv1212
                        obtain rfl := Sum.inl.inj qx1213
                        exact q_iret dX5_query_179 rfl (q_bl.nar bx1213) ⟨0, s, ⟨⟨_, rfl, bx1213⟩, by omega⟩, hok, rfl⟩
                ·
                  refine q_iload_n dX5_query_93 rfl ?_
                  refine q_goto (tgt := 103) dX5_query_94 (by decide) ?_
                  refine t_iast dX5_query_103 hok (mG_a3 (ml := ml) (th := 0) (s := s) hB) (by exact vp_in_nI (by omega) (by omega)) (fun h hok => ?_)
                  refine q_aload_n dX5_query_104 rfl ?_
                  refine t_getr 6 kX5 (by decide) wPX5_22 dX5_query_105 hok mG_o rfl ?_
                  refine q_iload_n dX5_query_108 rfl ?_
                  refine q_aload_n dX5_query_109 rfl ?_
                  refine t_getr 2 kX5 (by decide) wPX5_7 dX5_query_110 hok mG_o rfl ?_
                  refine q_iload_n dX5_query_113 rfl ?_
                  refine t_iald dX5_query_114 hok (mG_a0 (ml := ml) (th := 0) (s := s) hB) (by exact vp_in_nI (by omega) (by omega)) (fun x1214 => ?_)
                  refine q_aload_n dX5_query_115 rfl ?_
                  refine t_getr 3 kX5 (by decide) wPX5_13 dX5_query_116 hok mG_o rfl ?_
                  refine q_iload_n dX5_query_119 rfl ?_
                  refine t_iald dX5_query_120 hok (mG_a1 (ml := ml) (th := 0) (s := s) hB) (by exact vp_in_nI (by omega) (by omega)) (fun x1215 => ?_)
                  refine q_imul dX5_query_121 ?_
                  generalize (x1214) * (x1215) = z1216
                  refine q_aload_n dX5_query_122 rfl ?_
                  refine t_getr 4 kX5 (by decide) wPX5_16 dX5_query_123 hok mG_o rfl ?_
                  refine q_iload_n dX5_query_126 rfl ?_
                  refine t_iald dX5_query_127 hok (mG_a2 (ml := ml) (th := 0) (s := s) hB) (by exact vp_in_nI (by omega) (by omega)) (fun x1217 => ?_)
                  refine q_iconst (v := nI 2) dX5_query_128 rfl ?_
                  refine q_idiv dX5_query_129 (by decide) ?_
                  generalize (x1217) / (nI 2) = z1218
                  refine q_iadd dX5_query_130 ?_
                  generalize (z1216) + (z1218) = z1219
                  refine t_iast dX5_query_131 hok (mG_a4 (ml := ml) (th := 0) (s := s) hB) (by exact vp_in_nI (by omega) (by omega)) (fun h hok => ?_)
                  refine q_iload_n dX5_query_132 rfl ?_
                  refine q_iconst (v := -1) dX5_query_133 rfl ?_
                  refine q_icmp_eq (tgt := 174) dX5_query_134 (by decide) (fun c1220 => ?_) (fun c1220 => ?_)
                  ·
                    refine q_aload_n dX5_query_174 rfl ?_
                    refine q_iload_n dX5_query_175 rfl ?_
                    refine t_callM (M' := mX5_asks) [.int (nI j1112)] [] dX5_query_176 wPX5_75v wIX5_asks wSX5_asks iX5_asks oX5_asks rfl hok (sX5_asks Sc Γ n o ml (0) (s) hB hml (j1112) (by omega)) (Nat.le_of_ble_eq_true rfl) (Nat.le_of_ble_eq_true rfl) (Nat.le_of_ble_eq_true rfl) rfl (fun _ _ _ q => by obtain ⟨q, _⟩ := q; obtain ⟨_, q, _⟩ := q; cases q) (fun v1221 h thv1221 sv1221 qv1221 hok => ?_)
                    obtain ⟨qv1221, etv1221, esv1221⟩ := qv1221
                    rw [etv1221, esv1221] at hok
                    obtain ⟨x1222, qx1222, bx1222⟩ := qv1221
                    obtain rfl := Sum.inl.inj qx1222
                    exact q_iret dX5_query_179 rfl (q_bl.nar bx1222) ⟨0, s, ⟨⟨_, rfl, bx1222⟩, by omega⟩, hok, rfl⟩
                  ·
                    refine q_iload dX5_query_137 rfl ?_
                    refine q_if_ne (tgt := 174) dX5_query_139 (by decide) (fun c1223 => ?_) (fun c1223 => ?_)
                    ·
                      refine q_aload_n dX5_query_174 rfl ?_
                      refine q_iload_n dX5_query_175 rfl ?_
                      refine t_callM (M' := mX5_asks) [.int (nI j1112)] [] dX5_query_176 wPX5_75v wIX5_asks wSX5_asks iX5_asks oX5_asks rfl hok (sX5_asks Sc Γ n o ml (0) (s) hB hml (j1112) (by omega)) (Nat.le_of_ble_eq_true rfl) (Nat.le_of_ble_eq_true rfl) (Nat.le_of_ble_eq_true rfl) rfl (fun _ _ _ q => by obtain ⟨q, _⟩ := q; obtain ⟨_, q, _⟩ := q; cases q) (fun v1224 h thv1224 sv1224 qv1224 hok => ?_)
                      obtain ⟨qv1224, etv1224, esv1224⟩ := qv1224
                      rw [etv1224, esv1224] at hok
                      obtain ⟨x1225, qx1225, bx1225⟩ := qv1224
                      obtain rfl := Sum.inl.inj qx1225
                      exact q_iret dX5_query_179 rfl (q_bl.nar bx1225) ⟨0, s, ⟨⟨_, rfl, bx1225⟩, by omega⟩, hok, rfl⟩
                    ·
                      refine q_iload dX5_query_142 rfl ?_
                      refine q_if_eq (tgt := 163) dX5_query_144 (by decide) (fun c1226 => ?_) (fun c1226 => ?_)
                      ·
                        refine q_aload_n dX5_query_163 rfl ?_
                        refine q_iload_n dX5_query_164 rfl ?_
                        refine q_bipush (v := nI 8) dX5_query_165 rfl ?_
                        refine q_iload_n dX5_query_167 rfl ?_
                        refine t_imul_n dX5_query_168 ?_
                        refine q_iload_n dX5_query_169 rfl ?_
                        refine t_iadd_n dX5_query_170 ?_
                        refine t_callM (M' := mX5_lowerGroup) [.int (nI j1112), .int (nI ((8 * j1112) + (g1117)))] [] dX5_query_171 wPX5_86v wIX5_lowerGroup wSX5_lowerGroup iX5_lowerGroup oX5_lowerGroup rfl hok (sX5_lowerGroup Sc Γ n o ml (0) (s) hB hml (j1112) (by omega) ((8 * j1112) + (g1117)) (by omega)) (Nat.le_of_ble_eq_true rfl) (Nat.le_of_ble_eq_true rfl) (Nat.le_of_ble_eq_true rfl) rfl (fun _ _ _ q => by obtain ⟨q, _⟩ := q; cases q) (fun v1227 h thv1227 sv1227 qv1227 hok => ?_)
                        obtain ⟨qv1227, etv1227, esv1227⟩ := qv1227
                        rw [etv1227, esv1227] at hok
                        obtain rfl := Sum.inl.inj qv1227
                        refine q_aload_n dX5_query_174 rfl ?_
                        refine q_iload_n dX5_query_175 rfl ?_
                        refine t_callM (M' := mX5_asks) [.int (nI j1112)] [] dX5_query_176 wPX5_75v wIX5_asks wSX5_asks iX5_asks oX5_asks rfl hok (sX5_asks Sc Γ n o ml (0) (s) hB hml (j1112) (by omega)) (Nat.le_of_ble_eq_true rfl) (Nat.le_of_ble_eq_true rfl) (Nat.le_of_ble_eq_true rfl) rfl (fun _ _ _ q => by obtain ⟨q, _⟩ := q; obtain ⟨_, q, _⟩ := q; cases q) (fun v1228 h thv1228 sv1228 qv1228 hok => ?_)
                        obtain ⟨qv1228, etv1228, esv1228⟩ := qv1228
                        rw [etv1228, esv1228] at hok
                        obtain ⟨x1229, qx1229, bx1229⟩ := qv1228
                        obtain rfl := Sum.inl.inj qx1229
                        exact q_iret dX5_query_179 rfl (q_bl.nar bx1229) ⟨0, s, ⟨⟨_, rfl, bx1229⟩, by omega⟩, hok, rfl⟩
                      ·
                        refine q_aload_n dX5_query_147 rfl ?_
                        refine q_iload_n dX5_query_148 rfl ?_
                        refine q_bipush (v := nI 8) dX5_query_149 rfl ?_
                        refine q_iload_n dX5_query_151 rfl ?_
                        refine t_imul_n dX5_query_152 ?_
                        refine q_iload_n dX5_query_153 rfl ?_
                        refine t_iadd_n dX5_query_154 ?_
                        refine q_iload dX5_query_155 rfl ?_
                        refine t_callM (M' := mX5_lower) [.int (nI j1112), .int (nI ((8 * j1112) + (g1117))), .int (a4)] [] dX5_query_157 wPX5_83v wIX5_lower wSX5_lower iX5_lower oX5_lower rfl hok (sX5_lower Sc Γ n o ml (0) (s) hB hml (j1112) (by omega) ((8 * j1112) + (g1117)) (by omega) (a4)) (Nat.le_of_ble_eq_true rfl) (Nat.le_of_ble_eq_true rfl) (Nat.le_of_ble_eq_true rfl) rfl (fun _ _ _ q => by obtain ⟨q, _⟩ := q; cases q) (fun v1230 h thv1230 sv1230 qv1230 hok => ?_)
                        obtain ⟨qv1230, etv1230, esv1230⟩ := qv1230
                        rw [etv1230, esv1230] at hok
                        obtain rfl := Sum.inl.inj qv1230
                        refine q_goto (tgt := 174) dX5_query_160 (by decide) ?_
                        refine q_aload_n dX5_query_174 rfl ?_
                        refine q_iload_n dX5_query_175 rfl ?_
                        refine t_callM (M' := mX5_asks) [.int (nI j1112)] [] dX5_query_176 wPX5_75v wIX5_asks wSX5_asks iX5_asks oX5_asks rfl hok (sX5_asks Sc Γ n o ml (0) (s) hB hml (j1112) (by omega)) (Nat.le_of_ble_eq_true rfl) (Nat.le_of_ble_eq_true rfl) (Nat.le_of_ble_eq_true rfl) rfl (fun _ _ _ q => by obtain ⟨q, _⟩ := q; obtain ⟨_, q, _⟩ := q; cases q) (fun v1231 h thv1231 sv1231 qv1231 hok => ?_)
                        obtain ⟨qv1231, etv1231, esv1231⟩ := qv1231
                        rw [etv1231, esv1231] at hok
                        obtain ⟨x1232, qx1232, bx1232⟩ := qv1231
                        obtain rfl := Sum.inl.inj qx1232
                        exact q_iret dX5_query_179 rfl (q_bl.nar bx1232) ⟨0, s, ⟨⟨_, rfl, bx1232⟩, by omega⟩, hok, rfl⟩
          ·
            refine q_if_eq (tgt := 49) dX5_query_42 (by decide) (fun _ => ?_) (fun q => absurd q (by decide))
            refine q_iconst (v := nI 2) dX5_query_49 rfl ?_
            refine t_putc 0 (z' := 2) kX5 (by decide) wPX5_66 rfl dX5_query_50 hok mG_o rfl ⟨rfl, rfl⟩ (fun h hok => ?_)
            replace hok := mG_setT hok
            refine q_aload_n dX5_query_53 rfl ?_
            refine t_getc 0 kX5 (by decide) wPX5_66 dX5_query_54 hok mG_o rfl ?_
            refine q_if_le (tgt := 62) dX5_query_57 (by decide) (fun q => absurd q (by decide)) (fun _ => ?_)
            refine q_iconst (v := nI 0) dX5_query_60 rfl ?_
            exact q_iret dX5_query_61 rfl (rfl) ⟨2, s, ⟨⟨_, rfl, Or.inl rfl⟩, by omega⟩, hok, rfl⟩
        ·
          refine q_if_eq (tgt := 49) dX5_query_31 (by decide) (fun _ => ?_) (fun q => absurd q (by decide))
          refine q_iconst (v := nI 2) dX5_query_49 rfl ?_
          refine t_putc 0 (z' := 2) kX5 (by decide) wPX5_66 rfl dX5_query_50 hok mG_o rfl ⟨rfl, rfl⟩ (fun h hok => ?_)
          replace hok := mG_setT hok
          refine q_aload_n dX5_query_53 rfl ?_
          refine t_getc 0 kX5 (by decide) wPX5_66 dX5_query_54 hok mG_o rfl ?_
          refine q_if_le (tgt := 62) dX5_query_57 (by decide) (fun q => absurd q (by decide)) (fun _ => ?_)
          refine q_iconst (v := nI 0) dX5_query_60 rfl ?_
          exact q_iret dX5_query_61 rfl (rfl) ⟨2, s, ⟨⟨_, rfl, Or.inl rfl⟩, by omega⟩, hok, rfl⟩
    ·
      refine q_if_ne (tgt := 23) dX5_query_16 (by decide) (fun q => absurd q (by decide)) (fun _ => ?_)
      refine q_iconst (v := nI 1) dX5_query_19 rfl ?_
      refine q_goto (tgt := 50) dX5_query_20 (by decide) ?_
      refine t_putc 0 (z' := 1) kX5 (by decide) wPX5_66 rfl dX5_query_50 hok mG_o rfl ⟨rfl, rfl⟩ (fun h hok => ?_)
      replace hok := mG_setT hok
      refine q_aload_n dX5_query_53 rfl ?_
      refine t_getc 0 kX5 (by decide) wPX5_66 dX5_query_54 hok mG_o rfl ?_
      refine q_if_le (tgt := 62) dX5_query_57 (by decide) (fun q => absurd q (by decide)) (fun _ => ?_)
      refine q_iconst (v := nI 0) dX5_query_60 rfl ?_
      exact q_iret dX5_query_61 rfl (rfl) ⟨1, s, ⟨⟨_, rfl, Or.inl rfl⟩, by omega⟩, hok, rfl⟩
  ·
    refine q_if_eq (tgt := 19) dX5_query_6 (by decide) (fun _ => ?_) (fun q => absurd q (by decide))
    refine q_iconst (v := nI 1) dX5_query_19 rfl ?_
    refine q_goto (tgt := 50) dX5_query_20 (by decide) ?_
    refine t_putc 0 (z' := 1) kX5 (by decide) wPX5_66 rfl dX5_query_50 hok mG_o rfl ⟨rfl, rfl⟩ (fun h hok => ?_)
    replace hok := mG_setT hok
    refine q_aload_n dX5_query_53 rfl ?_
    refine t_getc 0 kX5 (by decide) wPX5_66 dX5_query_54 hok mG_o rfl ?_
    refine q_if_le (tgt := 62) dX5_query_57 (by decide) (fun q => absurd q (by decide)) (fun _ => ?_)
    refine q_iconst (v := nI 0) dX5_query_60 rfl ?_
    exact q_iret dX5_query_61 rfl (rfl) ⟨1, s, ⟨⟨_, rfl, Or.inl rfl⟩, by omega⟩, hok, rfl⟩
set_option maxRecDepth 20000 in
set_option maxHeartbeats 4000000 in
theorem sX5_tick (Sc : q_S) (Γ : Nat → q_K) (n o ml th s : Nat) (hB : mB Γ o) (hml : ml ≤ 4) (hs : s ≤ 1600000000) (a1 : Int32) : q_mod Sc Γ o ml mX5_tick [.ref o, .int (a1)] n th s (fun O th' s' => q_RI O ∧ s' ≤ s + 8000) := by
  intro h hok
  show q_A Sc mX5_tick 0 [.ref o, .int (a1), .retAddr 0, .retAddr 0, .retAddr 0] [] h n 0 0 (fun O h' n' => ∃ th' s', (fun O th' s' => q_RI O ∧ s' ≤ s + 8000) O th' s' ∧ q_ok (mG Γ o ml th' s') h' ∧ n' = n)
  refine q_aload_n dX5_tick_0 rfl ?_
  refine q_iload_n dX5_tick_1 rfl ?_
  refine q_iconst (v := nI 0) dX5_tick_2 rfl ?_
  refine q_sipush (v := nI 2000) dX5_tick_3 rfl ?_
  refine t_callS (M' := mX5_in) [.int (a1), .int (nI 0), .int (nI 2000)] [.ref o] dX5_tick_6 wPX5_120 wTX5_in wNX5 iX5_in oX5_in rfl hok (sX5_in Sc (mG Γ o ml (th) (s)) n (a1) (nI 0) (nI 2000)) (Nat.le_of_ble_eq_true rfl) (Nat.le_of_ble_eq_true rfl) (Nat.le_of_ble_eq_true rfl) (Nat.le_of_ble_eq_true rfl) (Nat.le_of_ble_eq_true rfl) rfl (fun v1233 h qv1233 hok => ?_) (fun e1234 h qe1234 hok => absurd qe1234 (by intro q; obtain ⟨_, q, _⟩ := q; cases q))
  obtain ⟨x1235, qx1235, hx1235⟩ := qv1233
  obtain rfl := Sum.inl.inj qx1235
  rcases hx1235 with ⟨rfl, c1236a, c1236b⟩ | rfl
  ·
    obtain ⟨g1237, hg1237, rfl⟩ := q_chk2 (by omega) c1236a c1236b
    refine q_if_eq (tgt := 16) dX5_tick_9 (by decide) (fun q => absurd q (by decide)) (fun _ => ?_)
    refine q_iconst (v := nI 0) dX5_tick_12 rfl ?_
    refine q_goto (tgt := 17) dX5_tick_13 (by decide) ?_
    refine t_putc 0 (z' := 0) kX5 (by decide) wPX5_66 rfl dX5_tick_17 hok mG_o rfl ⟨rfl, rfl⟩ (fun h hok => ?_)
    replace hok := mG_setT hok
    refine q_aload_n dX5_tick_20 rfl ?_
    refine t_getc 0 kX5 (by decide) wPX5_66 dX5_tick_21 hok mG_o rfl ?_
    refine q_if_le (tgt := 29) dX5_tick_24 (by decide) (fun _ => ?_) (fun q => absurd q (by decide))
    refine q_iconst (v := nI 0) dX5_tick_29 rfl ?_
    refine t_istore [.ref o, .int (nI g1237), .int (nI 0), .retAddr 0, .retAddr 0] (Or.inl ⟨2, rfl, rfl, dX5_tick_30⟩) (by decide) rfl ?_
    refine q_iconst (v := nI 0) dX5_tick_31 rfl ?_
    refine t_istore [.ref o, .int (nI g1237), .int (nI 0), .int (nI 0), .retAddr 0] (Or.inl ⟨3, rfl, rfl, dX5_tick_32⟩) (by decide) rfl ?_
    have hl1239 : ∀ (d1241 k1240 : Nat) (x1242 : Int32) (sl1239 : Nat) (h : q_H), k1240 + d1241 = g1237 → sl1239 ≤ s + 4 * k1240 → q_ok (mG Γ o ml (0) (sl1239)) h → q_A Sc mX5_tick 33 [.ref o, .int (nI g1237), .int (x1242), .int (nI k1240), .retAddr 0] [] h n 0 0 (fun O h' n' => ∃ th' s', (fun O th' s' => q_RI O ∧ s' ≤ s + 8000) O th' s' ∧ q_ok (mG Γ o ml th' s') h' ∧ n' = n) := by
      intro d1241
      induction d1241 with
      | zero =>
        intro k1240 x1242 sl1239 h el1239 hsl1239 hok
        refine q_iload_n dX5_tick_33 rfl ?_
        refine q_iload_n dX5_tick_34 rfl ?_
        refine t_icmp_ge_n (tgt := 116) (by omega) (by omega) dX5_tick_35 (by decide) (fun c1243 => ?_) (fun c1243 => ?_)
        rotate_left
        · exact absurd c1243 (by omega)
        refine q_iload_n dX5_tick_116 rfl ?_
        exact q_iret dX5_tick_117 rfl (rfl) ⟨0, sl1239, ⟨⟨_, rfl⟩, by omega⟩, hok, rfl⟩
      | succ d1241 ihl1239 =>
        intro k1240 x1242 sl1239 h el1239 hsl1239 hok
        refine q_iload_n dX5_tick_33 rfl ?_
        refine q_iload_n dX5_tick_34 rfl ?_
        refine t_icmp_ge_n (tgt := 116) (by omega) (by omega) dX5_tick_35 (by decide) (fun c1244 => ?_) (fun c1244 => ?_)
        · exact absurd c1244 (by omega)
        refine q_aload_n dX5_tick_38 rfl ?_
        refine q_dup dX5_tick_39 rfl ?_
        refine t_geti 14 kX5 (by decide) wPX5_69 dX5_tick_40 hok mG_o rfl (fun x1245 => ?_)
        refine q_iconst (v := nI 1) dX5_tick_43 rfl ?_
        refine q_iadd dX5_tick_44 ?_
        generalize (x1245) + (nI 1) = z1246
        refine t_puti 14 kX5 (by decide) wPX5_69 rfl dX5_tick_45 hok mG_o rfl ⟨rfl, rfl⟩ (fun h hok => ?_)
        refine q_iconst (v := nI 0) dX5_tick_48 rfl ?_
        refine t_istore [.ref o, .int (nI g1237), .int (x1242), .int (nI k1240), .int (nI 0)] (Or.inr ⟨rfl, dX5_tick_49⟩) (by decide) rfl ?_
        have hl1247 : ∀ (d1249 k1248 : Nat) (h : q_H), k1248 + d1249 = 8 * ml → q_ok (mG Γ o ml (0) (sl1239)) h → q_A Sc mX5_tick 51 [.ref o, .int (nI g1237), .int (x1242), .int (nI k1240), .int (nI k1248)] [] h n 0 0 (fun O h' n' => ∃ th' s', (fun O th' s' => q_RI O ∧ s' ≤ s + 8000) O th' s' ∧ q_ok (mG Γ o ml th' s') h' ∧ n' = n) := by
          intro d1249
          induction d1249 with
          | zero =>
            intro k1248  h el1247 hok
            refine q_iload dX5_tick_51 rfl ?_
            refine q_bipush (v := nI 8) dX5_tick_53 rfl ?_
            refine q_aload_n dX5_tick_55 rfl ?_
            refine t_getc 1 kX5 (by decide) wPX5_59 dX5_tick_56 hok mG_o rfl ?_
            refine t_imul_n dX5_tick_59 ?_
            refine t_icmp_ge_n (tgt := 75) (by omega) (by omega) dX5_tick_60 (by decide) (fun c1250 => ?_) (fun c1250 => ?_)
            rotate_left
            · exact absurd c1250 (by omega)
            refine q_iconst (v := nI 0) dX5_tick_75 rfl ?_
            refine t_istore [.ref o, .int (nI g1237), .int (x1242), .int (nI k1240), .int (nI 0)] (Or.inr ⟨rfl, dX5_tick_76⟩) (by decide) rfl ?_
            have hl1251 : ∀ (d1253 k1252 : Nat) (x1254 : Int32) (sl1251 : Nat) (h : q_H), k1252 + d1253 = ml → sl1251 ≤ s + 4 * k1240 + k1252 → q_ok (mG Γ o ml (0) (sl1251)) h → q_A Sc mX5_tick 78 [.ref o, .int (nI g1237), .int (x1254), .int (nI k1240), .int (nI k1252)] [] h n 0 0 (fun O h' n' => ∃ th' s', (fun O th' s' => q_RI O ∧ s' ≤ s + 8000) O th' s' ∧ q_ok (mG Γ o ml th' s') h' ∧ n' = n) := by
              intro d1253
              induction d1253 with
              | zero =>
                intro k1252 x1254 sl1251 h el1251 hsl1251 hok
                refine q_iload dX5_tick_78 rfl ?_
                refine q_aload_n dX5_tick_80 rfl ?_
                refine t_getc 1 kX5 (by decide) wPX5_59 dX5_tick_81 hok mG_o rfl ?_
                refine t_icmp_ge_n (tgt := 110) (by omega) (by omega) dX5_tick_84 (by decide) (fun c1255 => ?_) (fun c1255 => ?_)
                rotate_left
                · exact absurd c1255 (by omega)
                refine t_iinc_n [.ref o, .int (nI g1237), .int (x1254), .int (nI (k1240 + 1)), .int (nI k1252)] dX5_tick_110 rfl (by decide) rfl ?_
                refine q_goto (tgt := 33) dX5_tick_113 (by decide) ?_
                refine q_weak [.ref o, .int (nI g1237), .int (x1254), .int (nI (k1240 + 1)), .retAddr 0] ⟨Or.inl rfl, Or.inl rfl, Or.inl rfl, Or.inl rfl, Or.inr ⟨0, rfl⟩, trivial⟩ ?_
                exact ihl1239 (k1240 + 1) (x1254) (sl1251) h (by omega) (by omega) hok
              | succ d1253 ihl1251 =>
                intro k1252 x1254 sl1251 h el1251 hsl1251 hok
                refine q_iload dX5_tick_78 rfl ?_
                refine q_aload_n dX5_tick_80 rfl ?_
                refine t_getc 1 kX5 (by decide) wPX5_59 dX5_tick_81 hok mG_o rfl ?_
                refine t_icmp_ge_n (tgt := 110) (by omega) (by omega) dX5_tick_84 (by decide) (fun c1256 => ?_) (fun c1256 => ?_)
                · exact absurd c1256 (by omega)
                refine q_aload_n dX5_tick_87 rfl ?_
                refine q_iload dX5_tick_88 rfl ?_
                refine t_callM (M' := mX5_tickLink) [.int (nI k1252)] [] dX5_tick_90 wPX5_133v wIX5_tickLink wSX5_tickLink iX5_tickLink oX5_tickLink rfl hok (sX5_tickLink Sc Γ n o ml (0) (sl1251) hB hml (by omega) (k1252) (by omega)) (Nat.le_of_ble_eq_true rfl) (Nat.le_of_ble_eq_true rfl) (Nat.le_of_ble_eq_true rfl) rfl (fun _ _ _ q => by obtain ⟨q, _⟩ := q; obtain ⟨_, q, _⟩ := q; cases q) (fun v1257 h thv1257 sv1257 qv1257 hok => ?_)
                obtain ⟨qv1257, etv1257, hsv1257⟩ := qv1257
                rw [etv1257] at hok
                obtain ⟨x1258, qx1258, bx1258⟩ := qv1257
                obtain rfl := Sum.inl.inj qx1258
                refine q_if_eq (tgt := 102) dX5_tick_93 (by decide) (fun c1259 => ?_) (fun c1259 => ?_)
                ·
                  refine q_iload_n dX5_tick_102 rfl ?_
                  refine t_istore [.ref o, .int (nI g1237), .int (x1254), .int (nI k1240), .int (nI k1252)] (Or.inl ⟨2, rfl, rfl, dX5_tick_103⟩) (by decide) rfl ?_
                  refine t_iinc_n [.ref o, .int (nI g1237), .int (x1254), .int (nI k1240), .int (nI (k1252 + 1))] dX5_tick_104 rfl (by decide) rfl ?_
                  refine q_goto (tgt := 78) dX5_tick_107 (by decide) ?_
                  exact ihl1251 (k1252 + 1) (x1254) (sv1257) h (by omega) (by omega) hok
                ·
                  refine q_iload_n dX5_tick_96 rfl ?_
                  refine q_iconst (v := nI 1) dX5_tick_97 rfl ?_
                  refine q_iadd dX5_tick_98 ?_
                  generalize (x1254) + (nI 1) = z1260
                  refine q_goto (tgt := 103) dX5_tick_99 (by decide) ?_
                  refine t_istore [.ref o, .int (nI g1237), .int (z1260), .int (nI k1240), .int (nI k1252)] (Or.inl ⟨2, rfl, rfl, dX5_tick_103⟩) (by decide) rfl ?_
                  refine t_iinc_n [.ref o, .int (nI g1237), .int (z1260), .int (nI k1240), .int (nI (k1252 + 1))] dX5_tick_104 rfl (by decide) rfl ?_
                  refine q_goto (tgt := 78) dX5_tick_107 (by decide) ?_
                  exact ihl1251 (k1252 + 1) (z1260) (sv1257) h (by omega) (by omega) hok
            exact hl1251 (ml) 0 (x1242) (sl1239) h (by omega) (by omega) hok
          | succ d1249 ihl1247 =>
            intro k1248  h el1247 hok
            refine q_iload dX5_tick_51 rfl ?_
            refine q_bipush (v := nI 8) dX5_tick_53 rfl ?_
            refine q_aload_n dX5_tick_55 rfl ?_
            refine t_getc 1 kX5 (by decide) wPX5_59 dX5_tick_56 hok mG_o rfl ?_
            refine t_imul_n dX5_tick_59 ?_
            refine t_icmp_ge_n (tgt := 75) (by omega) (by omega) dX5_tick_60 (by decide) (fun c1261 => ?_) (fun c1261 => ?_)
            · exact absurd c1261 (by omega)
            refine q_aload_n dX5_tick_63 rfl ?_
            refine q_iload dX5_tick_64 rfl ?_
            refine t_callM (M' := mX5_tickRecord) [.int (nI k1248)] [] dX5_tick_66 wPX5_129v wIX5_tickRecord wSX5_tickRecord iX5_tickRecord oX5_tickRecord rfl hok (sX5_tickRecord Sc Γ n o ml (0) (sl1239) hB hml (k1248) (by omega)) (Nat.le_of_ble_eq_true rfl) (Nat.le_of_ble_eq_true rfl) (Nat.le_of_ble_eq_true rfl) rfl (fun _ _ _ q => by obtain ⟨q, _⟩ := q; cases q) (fun v1262 h thv1262 sv1262 qv1262 hok => ?_)
            obtain ⟨qv1262, etv1262, esv1262⟩ := qv1262
            rw [etv1262, esv1262] at hok
            obtain rfl := Sum.inl.inj qv1262
            refine t_iinc_n [.ref o, .int (nI g1237), .int (x1242), .int (nI k1240), .int (nI (k1248 + 1))] dX5_tick_69 rfl (by decide) rfl ?_
            refine q_goto (tgt := 51) dX5_tick_72 (by decide) ?_
            exact ihl1247 (k1248 + 1)  h (by omega) hok
        exact hl1247 (8 * ml) 0  h (by omega) hok
    exact hl1239 (g1237) 0 (nI 0) (s) h (by omega) (by omega) hok
  ·
    refine q_if_eq (tgt := 16) dX5_tick_9 (by decide) (fun _ => ?_) (fun q => absurd q (by decide))
    refine q_iconst (v := nI 1) dX5_tick_16 rfl ?_
    refine t_putc 0 (z' := 1) kX5 (by decide) wPX5_66 rfl dX5_tick_17 hok mG_o rfl ⟨rfl, rfl⟩ (fun h hok => ?_)
    replace hok := mG_setT hok
    refine q_aload_n dX5_tick_20 rfl ?_
    refine t_getc 0 kX5 (by decide) wPX5_66 dX5_tick_21 hok mG_o rfl ?_
    refine q_if_le (tgt := 29) dX5_tick_24 (by decide) (fun q => absurd q (by decide)) (fun _ => ?_)
    refine q_iconst (v := nI 0) dX5_tick_27 rfl ?_
    exact q_iret dX5_tick_28 rfl (rfl) ⟨1, s, ⟨⟨_, rfl⟩, by omega⟩, hok, rfl⟩
