set_option maxRecDepth 20000 in
set_option maxHeartbeats 4000000 in
theorem sX5_passed (Sc : q_S) (Γ : Nat → q_K) (n o ml th s : Nat) (hB : mB Γ o) (hml : ml ≤ 4) (a1 : Int32) (a2 : Int32) (a3 : Int32) : q_mod Sc Γ o ml mX5_passed [.ref o, .int (a1), .int (a2), .int (a3)] n th s (fun O th' s' => q_RI O ∧ s' ≤ s + 0) := by
  intro h hok
  show q_A Sc mX5_passed 0 [.ref o, .int (a1), .int (a2), .int (a3), .retAddr 0, .retAddr 0, .retAddr 0, .retAddr 0, .retAddr 0] [] h n 0 0 (fun O h' n' => ∃ th' s', (fun O th' s' => q_RI O ∧ s' ≤ s + 0) O th' s' ∧ q_ok (mG Γ o ml th' s') h' ∧ n' = n)
  refine q_aload_n dX5_passed_0 rfl ?_
  refine q_aload_n dX5_passed_1 rfl ?_
  refine q_iload_n dX5_passed_2 rfl ?_
  refine t_callM (M' := mX5_isLink) [.int (a1)] [.ref o] dX5_passed_3 wPX5_117v wIX5_isLink wSX5_isLink iX5_isLink oX5_isLink rfl hok (sX5_isLink Sc Γ n o ml (th) (s) hB hml (a1)) (Nat.le_of_ble_eq_true rfl) (Nat.le_of_ble_eq_true rfl) (Nat.le_of_ble_eq_true rfl) rfl (fun _ _ _ q => by obtain ⟨⟨_, q, _⟩, _⟩ := q; cases q) (fun v1265 h thv1265 sv1265 qv1265 hok => ?_)
  obtain ⟨⟨x1266, qx1266, hx1266⟩, etv1265, esv1265⟩ := qv1265
  rw [etv1265, esv1265] at hok
  obtain rfl := Sum.inl.inj qx1266
  rcases hx1266 with ⟨rfl, j1267, hj1267, rfl⟩ | rfl
  ·
    refine q_if_eq (tgt := 33) dX5_passed_6 (by decide) (fun q => absurd q (by decide)) (fun _ => ?_)
    refine q_iload_n dX5_passed_9 rfl ?_
    refine q_iconst (v := nI 0) dX5_passed_10 rfl ?_
    refine q_bipush (v := nI 7) dX5_passed_11 rfl ?_
    refine t_callS (M' := mX5_in) [.int (a2), .int (nI 0), .int (nI 7)] [.ref o] dX5_passed_13 wPX5_120 wTX5_in wNX5 iX5_in oX5_in rfl hok (sX5_in Sc (mG Γ o ml (th) (s)) n (a2) (nI 0) (nI 7)) (Nat.le_of_ble_eq_true rfl) (Nat.le_of_ble_eq_true rfl) (Nat.le_of_ble_eq_true rfl) (Nat.le_of_ble_eq_true rfl) (Nat.le_of_ble_eq_true rfl) rfl (fun v1268 h qv1268 hok => ?_) (fun e1269 h qe1269 hok => absurd qe1269 (by intro q; obtain ⟨_, q, _⟩ := q; cases q))
    obtain ⟨x1270, qx1270, hx1270⟩ := qv1268
    obtain rfl := Sum.inl.inj qx1270
    rcases hx1270 with ⟨rfl, c1271a, c1271b⟩ | rfl
    ·
      obtain ⟨g1272, hg1272, rfl⟩ := q_chk2 (by omega) c1271a c1271b
      refine q_if_eq (tgt := 33) dX5_passed_16 (by decide) (fun q => absurd q (by decide)) (fun _ => ?_)
      refine q_iload_n dX5_passed_19 rfl ?_
      refine q_iconst (v := nI 0) dX5_passed_20 rfl ?_
      refine q_bipush (v := nI 15) dX5_passed_21 rfl ?_
      refine t_callS (M' := mX5_in) [.int (a3), .int (nI 0), .int (nI 15)] [.ref o] dX5_passed_23 wPX5_120 wTX5_in wNX5 iX5_in oX5_in rfl hok (sX5_in Sc (mG Γ o ml (th) (s)) n (a3) (nI 0) (nI 15)) (Nat.le_of_ble_eq_true rfl) (Nat.le_of_ble_eq_true rfl) (Nat.le_of_ble_eq_true rfl) (Nat.le_of_ble_eq_true rfl) (Nat.le_of_ble_eq_true rfl) rfl (fun v1273 h qv1273 hok => ?_) (fun e1274 h qe1274 hok => absurd qe1274 (by intro q; obtain ⟨_, q, _⟩ := q; cases q))
      obtain ⟨x1275, qx1275, hx1275⟩ := qv1273
      obtain rfl := Sum.inl.inj qx1275
      rcases hx1275 with ⟨rfl, c1276a, c1276b⟩ | rfl
      ·
        obtain ⟨g1277, hg1277, rfl⟩ := q_chk2 (by omega) c1276a c1276b
        refine q_if_eq (tgt := 33) dX5_passed_26 (by decide) (fun q => absurd q (by decide)) (fun _ => ?_)
        refine q_iconst (v := nI 0) dX5_passed_29 rfl ?_
        refine q_goto (tgt := 34) dX5_passed_30 (by decide) ?_
        refine t_putc 0 (z' := 0) kX5 (by decide) wPX5_66 rfl dX5_passed_34 hok mG_o rfl ⟨rfl, rfl⟩ (fun h hok => ?_)
        replace hok := mG_setT hok
        refine q_iconst (v := nI 0) dX5_passed_37 rfl ?_
        refine t_istore [.ref o, .int (nI j1267), .int (nI g1272), .int (nI g1277), .int (nI 0), .retAddr 0, .retAddr 0, .retAddr 0, .retAddr 0] (Or.inr ⟨rfl, dX5_passed_38⟩) (by decide) rfl ?_
        refine q_iconst (v := nI 0) dX5_passed_40 rfl ?_
        refine t_istore [.ref o, .int (nI j1267), .int (nI g1272), .int (nI g1277), .int (nI 0), .int (nI 0), .retAddr 0, .retAddr 0, .retAddr 0] (Or.inr ⟨rfl, dX5_passed_41⟩) (by decide) rfl ?_
        have hl1278 : ∀ (d1280 k1279 : Nat) (x1281 : Int32) (h : q_H), k1279 + d1280 = ml → q_ok (mG Γ o ml (0) (s)) h → q_A Sc mX5_passed 43 [.ref o, .int (nI j1267), .int (nI g1272), .int (nI g1277), .int (x1281), .int (nI k1279), .retAddr 0, .retAddr 0, .retAddr 0] [] h n 0 0 (fun O h' n' => ∃ th' s', (fun O th' s' => q_RI O ∧ s' ≤ s + 0) O th' s' ∧ q_ok (mG Γ o ml th' s') h' ∧ n' = n) := by
          intro d1280
          induction d1280 with
          | zero =>
            intro k1279 x1281 h el1278 hok
            refine q_iload dX5_passed_43 rfl ?_
            refine q_aload_n dX5_passed_45 rfl ?_
            refine t_getc 1 kX5 (by decide) wPX5_59 dX5_passed_46 hok mG_o rfl ?_
            refine t_icmp_ge_n (tgt := 153) (by omega) (by omega) dX5_passed_49 (by decide) (fun c1282 => ?_) (fun c1282 => ?_)
            rotate_left
            · exact absurd c1282 (by omega)
            refine q_iload dX5_passed_153 rfl ?_
            exact q_iret dX5_passed_155 rfl (rfl) ⟨0, s, ⟨⟨_, rfl⟩, by omega⟩, hok, rfl⟩
          | succ d1280 ihl1278 =>
            intro k1279 x1281 h el1278 hok
            refine q_iload dX5_passed_43 rfl ?_
            refine q_aload_n dX5_passed_45 rfl ?_
            refine t_getc 1 kX5 (by decide) wPX5_59 dX5_passed_46 hok mG_o rfl ?_
            refine t_icmp_ge_n (tgt := 153) (by omega) (by omega) dX5_passed_49 (by decide) (fun c1283 => ?_) (fun c1283 => ?_)
            · exact absurd c1283 (by omega)
            refine q_aload_n dX5_passed_52 rfl ?_
            refine t_getc 0 kX5 (by decide) wPX5_66 dX5_passed_53 hok mG_o rfl ?_
            refine q_if_ne (tgt := 153) dX5_passed_56 (by decide) (fun q => absurd q (by decide)) (fun _ => ?_)
            refine q_bipush (v := nI 8) dX5_passed_59 rfl ?_
            refine q_iload dX5_passed_61 rfl ?_
            refine t_imul_n dX5_passed_63 ?_
            refine q_iload_n dX5_passed_64 rfl ?_
            refine t_iadd_n dX5_passed_65 ?_
            refine t_istore [.ref o, .int (nI j1267), .int (nI g1272), .int (nI g1277), .int (x1281), .int (nI k1279), .int (nI ((8 * k1279) + (g1272))), .retAddr 0, .retAddr 0] (Or.inr ⟨rfl, dX5_passed_66⟩) (by decide) rfl ?_
            refine q_aload_n dX5_passed_68 rfl ?_
            refine t_getr 10 kX5 (by decide) wPX5_34 dX5_passed_69 hok mG_o rfl ?_
            refine q_bipush (v := nI 16) dX5_passed_72 rfl ?_
            refine q_iload dX5_passed_74 rfl ?_
            refine t_imul_n dX5_passed_76 ?_
            refine q_iload_n dX5_passed_77 rfl ?_
            refine t_iadd_n dX5_passed_78 ?_
            refine t_iald dX5_passed_79 hok (mG_a8 (ml := ml) (th := 0) (s := s) hB) (by exact vp_in_nI (by omega) (by omega)) (fun x1284 => ?_)
            refine t_istore [.ref o, .int (nI j1267), .int (nI g1272), .int (nI g1277), .int (x1281), .int (nI k1279), .int (nI ((8 * k1279) + (g1272))), .int (x1284), .retAddr 0] (Or.inr ⟨rfl, dX5_passed_80⟩) (by decide) rfl ?_
            refine q_aload_n dX5_passed_82 rfl ?_
            refine t_getr 8 kX5 (by decide) wPX5_28 dX5_passed_83 hok mG_o rfl ?_
            refine q_iload dX5_passed_86 rfl ?_
            refine t_iald dX5_passed_88 hok (mG_a6 (ml := ml) (th := 0) (s := s) hB) (by exact vp_in_nI (by omega) (by omega)) (fun x1285 => ?_)
            refine q_if_ne (tgt := 98) dX5_passed_89 (by decide) (fun c1286 => ?_) (fun c1286 => ?_)
            ·
              refine q_aload_n dX5_passed_98 rfl ?_
              refine t_getr 8 kX5 (by decide) wPX5_28 dX5_passed_99 hok mG_o rfl ?_
              refine q_iload dX5_passed_102 rfl ?_
              refine t_iald dX5_passed_104 hok (mG_a6 (ml := ml) (th := 0) (s := s) hB) (by exact vp_in_nI (by omega) (by omega)) (fun x1287 => ?_)
              refine q_iconst (v := nI 1) dX5_passed_105 rfl ?_
              refine q_icmp_ne (tgt := 119) dX5_passed_106 (by decide) (fun c1288 => ?_) (fun c1288 => ?_)
              ·
                refine q_iconst (v := nI 0) dX5_passed_119 rfl ?_
                refine t_istore [.ref o, .int (nI j1267), .int (nI g1272), .int (nI g1277), .int (x1281), .int (nI k1279), .int (nI ((8 * k1279) + (g1272))), .int (x1284), .int (nI 0)] (Or.inr ⟨rfl, dX5_passed_120⟩) (by decide) rfl ?_
                refine q_iload dX5_passed_122 rfl ?_
                refine q_iload_n dX5_passed_124 rfl ?_
                refine q_icmp_eq (tgt := 143) dX5_passed_125 (by decide) (fun c1289 => ?_) (fun c1289 => ?_)
                ·
                  refine q_iload dX5_passed_143 rfl ?_
                  refine t_istore [.ref o, .int (nI j1267), .int (nI g1272), .int (nI g1277), .int (x1281), .int (nI k1279), .int (nI ((8 * k1279) + (g1272))), .int (x1284), .int (nI 0)] (Or.inr ⟨rfl, dX5_passed_145⟩) (by decide) rfl ?_
                  refine t_iinc_n [.ref o, .int (nI j1267), .int (nI g1272), .int (nI g1277), .int (x1281), .int (nI (k1279 + 1)), .int (nI ((8 * k1279) + (g1272))), .int (x1284), .int (nI 0)] dX5_passed_147 rfl (by decide) rfl ?_
                  refine q_goto (tgt := 43) dX5_passed_150 (by decide) ?_
                  refine q_weak [.ref o, .int (nI j1267), .int (nI g1272), .int (nI g1277), .int (x1281), .int (nI (k1279 + 1)), .retAddr 0, .retAddr 0, .retAddr 0] ⟨Or.inl rfl, Or.inl rfl, Or.inl rfl, Or.inl rfl, Or.inl rfl, Or.inl rfl, Or.inr ⟨0, rfl⟩, Or.inr ⟨0, rfl⟩, Or.inr ⟨0, rfl⟩, trivial⟩ ?_
                  exact ihl1278 (k1279 + 1) (x1281) h (by omega) hok
                ·
                  refine q_iload dX5_passed_128 rfl ?_
                  refine q_if_eq (tgt := 143) dX5_passed_130 (by decide) (fun _ => ?_) (fun q => absurd q (by decide))
                  refine q_iload dX5_passed_143 rfl ?_
                  refine t_istore [.ref o, .int (nI j1267), .int (nI g1272), .int (nI g1277), .int (x1281), .int (nI k1279), .int (nI ((8 * k1279) + (g1272))), .int (x1284), .int (nI 0)] (Or.inr ⟨rfl, dX5_passed_145⟩) (by decide) rfl ?_
                  refine t_iinc_n [.ref o, .int (nI j1267), .int (nI g1272), .int (nI g1277), .int (x1281), .int (nI (k1279 + 1)), .int (nI ((8 * k1279) + (g1272))), .int (x1284), .int (nI 0)] dX5_passed_147 rfl (by decide) rfl ?_
                  refine q_goto (tgt := 43) dX5_passed_150 (by decide) ?_
                  refine q_weak [.ref o, .int (nI j1267), .int (nI g1272), .int (nI g1277), .int (x1281), .int (nI (k1279 + 1)), .retAddr 0, .retAddr 0, .retAddr 0] ⟨Or.inl rfl, Or.inl rfl, Or.inl rfl, Or.inl rfl, Or.inl rfl, Or.inl rfl, Or.inr ⟨0, rfl⟩, Or.inr ⟨0, rfl⟩, Or.inr ⟨0, rfl⟩, trivial⟩ ?_
                  exact ihl1278 (k1279 + 1) (x1281) h (by omega) hok
              ·
                refine q_iload dX5_passed_109 rfl ?_
                refine q_iconst (v := nI 2) dX5_passed_111 rfl ?_
                refine q_icmp_eq (tgt := 119) dX5_passed_112 (by decide) (fun c1290 => ?_) (fun c1290 => ?_)
                ·
                  refine q_iconst (v := nI 0) dX5_passed_119 rfl ?_
                  refine t_istore [.ref o, .int (nI j1267), .int (nI g1272), .int (nI g1277), .int (x1281), .int (nI k1279), .int (nI ((8 * k1279) + (g1272))), .int (x1284), .int (nI 0)] (Or.inr ⟨rfl, dX5_passed_120⟩) (by decide) rfl ?_
                  refine q_iload dX5_passed_122 rfl ?_
                  refine q_iload_n dX5_passed_124 rfl ?_
                  refine q_icmp_eq (tgt := 143) dX5_passed_125 (by decide) (fun c1291 => ?_) (fun c1291 => ?_)
                  ·
                    refine q_iload dX5_passed_143 rfl ?_
                    refine t_istore [.ref o, .int (nI j1267), .int (nI g1272), .int (nI g1277), .int (x1281), .int (nI k1279), .int (nI ((8 * k1279) + (g1272))), .int (x1284), .int (nI 0)] (Or.inr ⟨rfl, dX5_passed_145⟩) (by decide) rfl ?_
                    refine t_iinc_n [.ref o, .int (nI j1267), .int (nI g1272), .int (nI g1277), .int (x1281), .int (nI (k1279 + 1)), .int (nI ((8 * k1279) + (g1272))), .int (x1284), .int (nI 0)] dX5_passed_147 rfl (by decide) rfl ?_
                    refine q_goto (tgt := 43) dX5_passed_150 (by decide) ?_
                    refine q_weak [.ref o, .int (nI j1267), .int (nI g1272), .int (nI g1277), .int (x1281), .int (nI (k1279 + 1)), .retAddr 0, .retAddr 0, .retAddr 0] ⟨Or.inl rfl, Or.inl rfl, Or.inl rfl, Or.inl rfl, Or.inl rfl, Or.inl rfl, Or.inr ⟨0, rfl⟩, Or.inr ⟨0, rfl⟩, Or.inr ⟨0, rfl⟩, trivial⟩ ?_
                    exact ihl1278 (k1279 + 1) (x1281) h (by omega) hok
                  ·
                    refine q_iload dX5_passed_128 rfl ?_
                    refine q_if_eq (tgt := 143) dX5_passed_130 (by decide) (fun _ => ?_) (fun q => absurd q (by decide))
                    refine q_iload dX5_passed_143 rfl ?_
                    refine t_istore [.ref o, .int (nI j1267), .int (nI g1272), .int (nI g1277), .int (x1281), .int (nI k1279), .int (nI ((8 * k1279) + (g1272))), .int (x1284), .int (nI 0)] (Or.inr ⟨rfl, dX5_passed_145⟩) (by decide) rfl ?_
                    refine t_iinc_n [.ref o, .int (nI j1267), .int (nI g1272), .int (nI g1277), .int (x1281), .int (nI (k1279 + 1)), .int (nI ((8 * k1279) + (g1272))), .int (x1284), .int (nI 0)] dX5_passed_147 rfl (by decide) rfl ?_
                    refine q_goto (tgt := 43) dX5_passed_150 (by decide) ?_
                    refine q_weak [.ref o, .int (nI j1267), .int (nI g1272), .int (nI g1277), .int (x1281), .int (nI (k1279 + 1)), .retAddr 0, .retAddr 0, .retAddr 0] ⟨Or.inl rfl, Or.inl rfl, Or.inl rfl, Or.inl rfl, Or.inl rfl, Or.inl rfl, Or.inr ⟨0, rfl⟩, Or.inr ⟨0, rfl⟩, Or.inr ⟨0, rfl⟩, trivial⟩ ?_
                    exact ihl1278 (k1279 + 1) (x1281) h (by omega) hok
                ·
                  refine q_iconst (v := nI 1) dX5_passed_115 rfl ?_
                  refine q_goto (tgt := 120) dX5_passed_116 (by decide) ?_
                  refine t_istore [.ref o, .int (nI j1267), .int (nI g1272), .int (nI g1277), .int (x1281), .int (nI k1279), .int (nI ((8 * k1279) + (g1272))), .int (x1284), .int (nI 1)] (Or.inr ⟨rfl, dX5_passed_120⟩) (by decide) rfl ?_
                  refine q_iload dX5_passed_122 rfl ?_
                  refine q_iload_n dX5_passed_124 rfl ?_
                  refine q_icmp_eq (tgt := 143) dX5_passed_125 (by decide) (fun c1292 => ?_) (fun c1292 => ?_)
                  ·
                    refine q_iload dX5_passed_143 rfl ?_
                    refine t_istore [.ref o, .int (nI j1267), .int (nI g1272), .int (nI g1277), .int (x1281), .int (nI k1279), .int (nI ((8 * k1279) + (g1272))), .int (x1284), .int (nI 1)] (Or.inr ⟨rfl, dX5_passed_145⟩) (by decide) rfl ?_
                    refine t_iinc_n [.ref o, .int (nI j1267), .int (nI g1272), .int (nI g1277), .int (x1281), .int (nI (k1279 + 1)), .int (nI ((8 * k1279) + (g1272))), .int (x1284), .int (nI 1)] dX5_passed_147 rfl (by decide) rfl ?_
                    refine q_goto (tgt := 43) dX5_passed_150 (by decide) ?_
                    refine q_weak [.ref o, .int (nI j1267), .int (nI g1272), .int (nI g1277), .int (x1281), .int (nI (k1279 + 1)), .retAddr 0, .retAddr 0, .retAddr 0] ⟨Or.inl rfl, Or.inl rfl, Or.inl rfl, Or.inl rfl, Or.inl rfl, Or.inl rfl, Or.inr ⟨0, rfl⟩, Or.inr ⟨0, rfl⟩, Or.inr ⟨0, rfl⟩, trivial⟩ ?_
                    exact ihl1278 (k1279 + 1) (x1281) h (by omega) hok
                  ·
                    refine q_iload dX5_passed_128 rfl ?_
                    refine q_if_eq (tgt := 143) dX5_passed_130 (by decide) (fun q => absurd q (by decide)) (fun _ => ?_)
                    refine q_iload dX5_passed_133 rfl ?_
                    refine q_iconst (v := nI 1) dX5_passed_135 rfl ?_
                    refine q_iload dX5_passed_136 rfl ?_
                    refine q_ishl dX5_passed_138 ?_
                    generalize (nI 1) <<< ((nI k1279) &&& 31) = z1293
                    refine q_iadd dX5_passed_139 ?_
                    generalize (x1281) + (z1293) = z1294
                    refine q_goto (tgt := 145) dX5_passed_140 (by decide) ?_
                    refine t_istore [.ref o, .int (nI j1267), .int (nI g1272), .int (nI g1277), .int (z1294), .int (nI k1279), .int (nI ((8 * k1279) + (g1272))), .int (x1284), .int (nI 1)] (Or.inr ⟨rfl, dX5_passed_145⟩) (by decide) rfl ?_
                    refine t_iinc_n [.ref o, .int (nI j1267), .int (nI g1272), .int (nI g1277), .int (z1294), .int (nI (k1279 + 1)), .int (nI ((8 * k1279) + (g1272))), .int (x1284), .int (nI 1)] dX5_passed_147 rfl (by decide) rfl ?_
                    refine q_goto (tgt := 43) dX5_passed_150 (by decide) ?_
                    refine q_weak [.ref o, .int (nI j1267), .int (nI g1272), .int (nI g1277), .int (z1294), .int (nI (k1279 + 1)), .retAddr 0, .retAddr 0, .retAddr 0] ⟨Or.inl rfl, Or.inl rfl, Or.inl rfl, Or.inl rfl, Or.inl rfl, Or.inl rfl, Or.inr ⟨0, rfl⟩, Or.inr ⟨0, rfl⟩, Or.inr ⟨0, rfl⟩, trivial⟩ ?_
                    exact ihl1278 (k1279 + 1) (z1294) h (by omega) hok
            ·
              refine q_iload dX5_passed_92 rfl ?_
              refine q_iconst (v := nI 1) dX5_passed_94 rfl ?_
              refine q_icmp_eq (tgt := 115) dX5_passed_95 (by decide) (fun c1295 => ?_) (fun c1295 => ?_)
              ·
                refine q_iconst (v := nI 1) dX5_passed_115 rfl ?_
                refine q_goto (tgt := 120) dX5_passed_116 (by decide) ?_
                refine t_istore [.ref o, .int (nI j1267), .int (nI g1272), .int (nI g1277), .int (x1281), .int (nI k1279), .int (nI ((8 * k1279) + (g1272))), .int (x1284), .int (nI 1)] (Or.inr ⟨rfl, dX5_passed_120⟩) (by decide) rfl ?_
                refine q_iload dX5_passed_122 rfl ?_
                refine q_iload_n dX5_passed_124 rfl ?_
                refine q_icmp_eq (tgt := 143) dX5_passed_125 (by decide) (fun c1296 => ?_) (fun c1296 => ?_)
                ·
                  refine q_iload dX5_passed_143 rfl ?_
                  refine t_istore [.ref o, .int (nI j1267), .int (nI g1272), .int (nI g1277), .int (x1281), .int (nI k1279), .int (nI ((8 * k1279) + (g1272))), .int (x1284), .int (nI 1)] (Or.inr ⟨rfl, dX5_passed_145⟩) (by decide) rfl ?_
                  refine t_iinc_n [.ref o, .int (nI j1267), .int (nI g1272), .int (nI g1277), .int (x1281), .int (nI (k1279 + 1)), .int (nI ((8 * k1279) + (g1272))), .int (x1284), .int (nI 1)] dX5_passed_147 rfl (by decide) rfl ?_
                  refine q_goto (tgt := 43) dX5_passed_150 (by decide) ?_
                  refine q_weak [.ref o, .int (nI j1267), .int (nI g1272), .int (nI g1277), .int (x1281), .int (nI (k1279 + 1)), .retAddr 0, .retAddr 0, .retAddr 0] ⟨Or.inl rfl, Or.inl rfl, Or.inl rfl, Or.inl rfl, Or.inl rfl, Or.inl rfl, Or.inr ⟨0, rfl⟩, Or.inr ⟨0, rfl⟩, Or.inr ⟨0, rfl⟩, trivial⟩ ?_
                  exact ihl1278 (k1279 + 1) (x1281) h (by omega) hok
                ·
                  refine q_iload dX5_passed_128 rfl ?_
                  refine q_if_eq (tgt := 143) dX5_passed_130 (by decide) (fun q => absurd q (by decide)) (fun _ => ?_)
                  refine q_iload dX5_passed_133 rfl ?_
                  refine q_iconst (v := nI 1) dX5_passed_135 rfl ?_
                  refine q_iload dX5_passed_136 rfl ?_
                  refine q_ishl dX5_passed_138 ?_
                  generalize (nI 1) <<< ((nI k1279) &&& 31) = z1297
                  refine q_iadd dX5_passed_139 ?_
                  generalize (x1281) + (z1297) = z1298
                  refine q_goto (tgt := 145) dX5_passed_140 (by decide) ?_
                  refine t_istore [.ref o, .int (nI j1267), .int (nI g1272), .int (nI g1277), .int (z1298), .int (nI k1279), .int (nI ((8 * k1279) + (g1272))), .int (x1284), .int (nI 1)] (Or.inr ⟨rfl, dX5_passed_145⟩) (by decide) rfl ?_
                  refine t_iinc_n [.ref o, .int (nI j1267), .int (nI g1272), .int (nI g1277), .int (z1298), .int (nI (k1279 + 1)), .int (nI ((8 * k1279) + (g1272))), .int (x1284), .int (nI 1)] dX5_passed_147 rfl (by decide) rfl ?_
                  refine q_goto (tgt := 43) dX5_passed_150 (by decide) ?_
                  refine q_weak [.ref o, .int (nI j1267), .int (nI g1272), .int (nI g1277), .int (z1298), .int (nI (k1279 + 1)), .retAddr 0, .retAddr 0, .retAddr 0] ⟨Or.inl rfl, Or.inl rfl, Or.inl rfl, Or.inl rfl, Or.inl rfl, Or.inl rfl, Or.inr ⟨0, rfl⟩, Or.inr ⟨0, rfl⟩, Or.inr ⟨0, rfl⟩, trivial⟩ ?_
                  exact ihl1278 (k1279 + 1) (z1298) h (by omega) hok
              ·
                refine q_aload_n dX5_passed_98 rfl ?_
                refine t_getr 8 kX5 (by decide) wPX5_28 dX5_passed_99 hok mG_o rfl ?_
                refine q_iload dX5_passed_102 rfl ?_
                refine t_iald dX5_passed_104 hok (mG_a6 (ml := ml) (th := 0) (s := s) hB) (by exact vp_in_nI (by omega) (by omega)) (fun x1299 => ?_)
                refine q_iconst (v := nI 1) dX5_passed_105 rfl ?_
                refine q_icmp_ne (tgt := 119) dX5_passed_106 (by decide) (fun c1300 => ?_) (fun c1300 => ?_)
                ·
                  refine q_iconst (v := nI 0) dX5_passed_119 rfl ?_
                  refine t_istore [.ref o, .int (nI j1267), .int (nI g1272), .int (nI g1277), .int (x1281), .int (nI k1279), .int (nI ((8 * k1279) + (g1272))), .int (x1284), .int (nI 0)] (Or.inr ⟨rfl, dX5_passed_120⟩) (by decide) rfl ?_
                  refine q_iload dX5_passed_122 rfl ?_
                  refine q_iload_n dX5_passed_124 rfl ?_
                  refine q_icmp_eq (tgt := 143) dX5_passed_125 (by decide) (fun c1301 => ?_) (fun c1301 => ?_)
                  ·
                    refine q_iload dX5_passed_143 rfl ?_
                    refine t_istore [.ref o, .int (nI j1267), .int (nI g1272), .int (nI g1277), .int (x1281), .int (nI k1279), .int (nI ((8 * k1279) + (g1272))), .int (x1284), .int (nI 0)] (Or.inr ⟨rfl, dX5_passed_145⟩) (by decide) rfl ?_
                    refine t_iinc_n [.ref o, .int (nI j1267), .int (nI g1272), .int (nI g1277), .int (x1281), .int (nI (k1279 + 1)), .int (nI ((8 * k1279) + (g1272))), .int (x1284), .int (nI 0)] dX5_passed_147 rfl (by decide) rfl ?_
                    refine q_goto (tgt := 43) dX5_passed_150 (by decide) ?_
                    refine q_weak [.ref o, .int (nI j1267), .int (nI g1272), .int (nI g1277), .int (x1281), .int (nI (k1279 + 1)), .retAddr 0, .retAddr 0, .retAddr 0] ⟨Or.inl rfl, Or.inl rfl, Or.inl rfl, Or.inl rfl, Or.inl rfl, Or.inl rfl, Or.inr ⟨0, rfl⟩, Or.inr ⟨0, rfl⟩, Or.inr ⟨0, rfl⟩, trivial⟩ ?_
                    exact ihl1278 (k1279 + 1) (x1281) h (by omega) hok
                  ·
                    refine q_iload dX5_passed_128 rfl ?_
                    refine q_if_eq (tgt := 143) dX5_passed_130 (by decide) (fun _ => ?_) (fun q => absurd q (by decide))
                    refine q_iload dX5_passed_143 rfl ?_
                    refine t_istore [.ref o, .int (nI j1267), .int (nI g1272), .int (nI g1277), .int (x1281), .int (nI k1279), .int (nI ((8 * k1279) + (g1272))), .int (x1284), .int (nI 0)] (Or.inr ⟨rfl, dX5_passed_145⟩) (by decide) rfl ?_
                    refine t_iinc_n [.ref o, .int (nI j1267), .int (nI g1272), .int (nI g1277), .int (x1281), .int (nI (k1279 + 1)), .int (nI ((8 * k1279) + (g1272))), .int (x1284), .int (nI 0)] dX5_passed_147 rfl (by decide) rfl ?_
                    refine q_goto (tgt := 43) dX5_passed_150 (by decide) ?_
                    refine q_weak [.ref o, .int (nI j1267), .int (nI g1272), .int (nI g1277), .int (x1281), .int (nI (k1279 + 1)), .retAddr 0, .retAddr 0, .retAddr 0] ⟨Or.inl rfl, Or.inl rfl, Or.inl rfl, Or.inl rfl, Or.inl rfl, Or.inl rfl, Or.inr ⟨0, rfl⟩, Or.inr ⟨0, rfl⟩, Or.inr ⟨0, rfl⟩, trivial⟩ ?_
                    exact ihl1278 (k1279 + 1) (x1281) h (by omega) hok
                ·
                  refine q_iload dX5_passed_109 rfl ?_
                  refine q_iconst (v := nI 2) dX5_passed_111 rfl ?_
                  refine q_icmp_eq (tgt := 119) dX5_passed_112 (by decide) (fun c1302 => ?_) (fun c1302 => ?_)
                  ·
                    refine q_iconst (v := nI 0) dX5_passed_119 rfl ?_
                    refine t_istore [.ref o, .int (nI j1267), .int (nI g1272), .int (nI g1277), .int (x1281), .int (nI k1279), .int (nI ((8 * k1279) + (g1272))), .int (x1284), .int (nI 0)] (Or.inr ⟨rfl, dX5_passed_120⟩) (by decide) rfl ?_
                    refine q_iload dX5_passed_122 rfl ?_
                    refine q_iload_n dX5_passed_124 rfl ?_
                    refine q_icmp_eq (tgt := 143) dX5_passed_125 (by decide) (fun c1303 => ?_) (fun c1303 => ?_)
                    ·
                      refine q_iload dX5_passed_143 rfl ?_
                      refine t_istore [.ref o, .int (nI j1267), .int (nI g1272), .int (nI g1277), .int (x1281), .int (nI k1279), .int (nI ((8 * k1279) + (g1272))), .int (x1284), .int (nI 0)] (Or.inr ⟨rfl, dX5_passed_145⟩) (by decide) rfl ?_
                      refine t_iinc_n [.ref o, .int (nI j1267), .int (nI g1272), .int (nI g1277), .int (x1281), .int (nI (k1279 + 1)), .int (nI ((8 * k1279) + (g1272))), .int (x1284), .int (nI 0)] dX5_passed_147 rfl (by decide) rfl ?_
                      refine q_goto (tgt := 43) dX5_passed_150 (by decide) ?_
                      refine q_weak [.ref o, .int (nI j1267), .int (nI g1272), .int (nI g1277), .int (x1281), .int (nI (k1279 + 1)), .retAddr 0, .retAddr 0, .retAddr 0] ⟨Or.inl rfl, Or.inl rfl, Or.inl rfl, Or.inl rfl, Or.inl rfl, Or.inl rfl, Or.inr ⟨0, rfl⟩, Or.inr ⟨0, rfl⟩, Or.inr ⟨0, rfl⟩, trivial⟩ ?_
                      exact ihl1278 (k1279 + 1) (x1281) h (by omega) hok
                    ·
                      refine q_iload dX5_passed_128 rfl ?_
                      refine q_if_eq (tgt := 143) dX5_passed_130 (by decide) (fun _ => ?_) (fun q => absurd q (by decide))
                      refine q_iload dX5_passed_143 rfl ?_
                      refine t_istore [.ref o, .int (nI j1267), .int (nI g1272), .int (nI g1277), .int (x1281), .int (nI k1279), .int (nI ((8 * k1279) + (g1272))), .int (x1284), .int (nI 0)] (Or.inr ⟨rfl, dX5_passed_145⟩) (by decide) rfl ?_
                      refine t_iinc_n [.ref o, .int (nI j1267), .int (nI g1272), .int (nI g1277), .int (x1281), .int (nI (k1279 + 1)), .int (nI ((8 * k1279) + (g1272))), .int (x1284), .int (nI 0)] dX5_passed_147 rfl (by decide) rfl ?_
                      refine q_goto (tgt := 43) dX5_passed_150 (by decide) ?_
                      refine q_weak [.ref o, .int (nI j1267), .int (nI g1272), .int (nI g1277), .int (x1281), .int (nI (k1279 + 1)), .retAddr 0, .retAddr 0, .retAddr 0] ⟨Or.inl rfl, Or.inl rfl, Or.inl rfl, Or.inl rfl, Or.inl rfl, Or.inl rfl, Or.inr ⟨0, rfl⟩, Or.inr ⟨0, rfl⟩, Or.inr ⟨0, rfl⟩, trivial⟩ ?_
                      exact ihl1278 (k1279 + 1) (x1281) h (by omega) hok
                  ·
                    refine q_iconst (v := nI 1) dX5_passed_115 rfl ?_
                    refine q_goto (tgt := 120) dX5_passed_116 (by decide) ?_
                    refine t_istore [.ref o, .int (nI j1267), .int (nI g1272), .int (nI g1277), .int (x1281), .int (nI k1279), .int (nI ((8 * k1279) + (g1272))), .int (x1284), .int (nI 1)] (Or.inr ⟨rfl, dX5_passed_120⟩) (by decide) rfl ?_
                    refine q_iload dX5_passed_122 rfl ?_
                    refine q_iload_n dX5_passed_124 rfl ?_
                    refine q_icmp_eq (tgt := 143) dX5_passed_125 (by decide) (fun c1304 => ?_) (fun c1304 => ?_)
                    ·
                      refine q_iload dX5_passed_143 rfl ?_
                      refine t_istore [.ref o, .int (nI j1267), .int (nI g1272), .int (nI g1277), .int (x1281), .int (nI k1279), .int (nI ((8 * k1279) + (g1272))), .int (x1284), .int (nI 1)] (Or.inr ⟨rfl, dX5_passed_145⟩) (by decide) rfl ?_
                      refine t_iinc_n [.ref o, .int (nI j1267), .int (nI g1272), .int (nI g1277), .int (x1281), .int (nI (k1279 + 1)), .int (nI ((8 * k1279) + (g1272))), .int (x1284), .int (nI 1)] dX5_passed_147 rfl (by decide) rfl ?_
                      refine q_goto (tgt := 43) dX5_passed_150 (by decide) ?_
                      refine q_weak [.ref o, .int (nI j1267), .int (nI g1272), .int (nI g1277), .int (x1281), .int (nI (k1279 + 1)), .retAddr 0, .retAddr 0, .retAddr 0] ⟨Or.inl rfl, Or.inl rfl, Or.inl rfl, Or.inl rfl, Or.inl rfl, Or.inl rfl, Or.inr ⟨0, rfl⟩, Or.inr ⟨0, rfl⟩, Or.inr ⟨0, rfl⟩, trivial⟩ ?_
                      exact ihl1278 (k1279 + 1) (x1281) h (by omega) hok
                    ·
                      refine q_iload dX5_passed_128 rfl ?_
                      refine q_if_eq (tgt := 143) dX5_passed_130 (by decide) (fun q => absurd q (by decide)) (fun _ => ?_)
                      refine q_iload dX5_passed_133 rfl ?_
                      refine q_iconst (v := nI 1) dX5_passed_135 rfl ?_
                      refine q_iload dX5_passed_136 rfl ?_
                      refine q_ishl dX5_passed_138 ?_
                      generalize (nI 1) <<< ((nI k1279) &&& 31) = z1305
                      refine q_iadd dX5_passed_139 ?_
                      generalize (x1281) + (z1305) = z1306
                      refine q_goto (tgt := 145) dX5_passed_140 (by decide) ?_
                      refine t_istore [.ref o, .int (nI j1267), .int (nI g1272), .int (nI g1277), .int (z1306), .int (nI k1279), .int (nI ((8 * k1279) + (g1272))), .int (x1284), .int (nI 1)] (Or.inr ⟨rfl, dX5_passed_145⟩) (by decide) rfl ?_
                      refine t_iinc_n [.ref o, .int (nI j1267), .int (nI g1272), .int (nI g1277), .int (z1306), .int (nI (k1279 + 1)), .int (nI ((8 * k1279) + (g1272))), .int (x1284), .int (nI 1)] dX5_passed_147 rfl (by decide) rfl ?_
                      refine q_goto (tgt := 43) dX5_passed_150 (by decide) ?_
                      refine q_weak [.ref o, .int (nI j1267), .int (nI g1272), .int (nI g1277), .int (z1306), .int (nI (k1279 + 1)), .retAddr 0, .retAddr 0, .retAddr 0] ⟨Or.inl rfl, Or.inl rfl, Or.inl rfl, Or.inl rfl, Or.inl rfl, Or.inl rfl, Or.inr ⟨0, rfl⟩, Or.inr ⟨0, rfl⟩, Or.inr ⟨0, rfl⟩, trivial⟩ ?_
                      exact ihl1278 (k1279 + 1) (z1306) h (by omega) hok
        exact hl1278 (ml) 0 (nI 0) h (by omega) hok
      ·
        refine q_if_eq (tgt := 33) dX5_passed_26 (by decide) (fun _ => ?_) (fun q => absurd q (by decide))
        refine q_iconst (v := nI 1) dX5_passed_33 rfl ?_
        refine t_putc 0 (z' := 1) kX5 (by decide) wPX5_66 rfl dX5_passed_34 hok mG_o rfl ⟨rfl, rfl⟩ (fun h hok => ?_)
        replace hok := mG_setT hok
        refine q_iconst (v := nI 0) dX5_passed_37 rfl ?_
        refine t_istore [.ref o, .int (nI j1267), .int (nI g1272), .int (a3), .int (nI 0), .retAddr 0, .retAddr 0, .retAddr 0, .retAddr 0] (Or.inr ⟨rfl, dX5_passed_38⟩) (by decide) rfl ?_
        refine q_iconst (v := nI 0) dX5_passed_40 rfl ?_
        refine t_istore [.ref o, .int (nI j1267), .int (nI g1272), .int (a3), .int (nI 0), .int (nI 0), .retAddr 0, .retAddr 0, .retAddr 0] (Or.inr ⟨rfl, dX5_passed_41⟩) (by decide) rfl ?_
        have hl1307 : ∀ (d1309 k1308 : Nat) (x1310 : Int32) (h : q_H), k1308 + d1309 = ml → q_ok (mG Γ o ml (1) (s)) h → q_A Sc mX5_passed 43 [.ref o, .int (nI j1267), .int (nI g1272), .int (a3), .int (x1310), .int (nI k1308), .retAddr 0, .retAddr 0, .retAddr 0] [] h n 0 0 (fun O h' n' => ∃ th' s', (fun O th' s' => q_RI O ∧ s' ≤ s + 0) O th' s' ∧ q_ok (mG Γ o ml th' s') h' ∧ n' = n) := by
          intro d1309
          induction d1309 with
          | zero =>
            intro k1308 x1310 h el1307 hok
            refine q_iload dX5_passed_43 rfl ?_
            refine q_aload_n dX5_passed_45 rfl ?_
            refine t_getc 1 kX5 (by decide) wPX5_59 dX5_passed_46 hok mG_o rfl ?_
            refine t_icmp_ge_n (tgt := 153) (by omega) (by omega) dX5_passed_49 (by decide) (fun c1311 => ?_) (fun c1311 => ?_)
            rotate_left
            · exact absurd c1311 (by omega)
            refine q_iload dX5_passed_153 rfl ?_
            exact q_iret dX5_passed_155 rfl (rfl) ⟨1, s, ⟨⟨_, rfl⟩, by omega⟩, hok, rfl⟩
          | succ d1309 ihl1307 =>
            intro k1308 x1310 h el1307 hok
            refine q_iload dX5_passed_43 rfl ?_
            refine q_aload_n dX5_passed_45 rfl ?_
            refine t_getc 1 kX5 (by decide) wPX5_59 dX5_passed_46 hok mG_o rfl ?_
            refine t_icmp_ge_n (tgt := 153) (by omega) (by omega) dX5_passed_49 (by decide) (fun c1312 => ?_) (fun c1312 => ?_)
            · exact absurd c1312 (by omega)
            refine q_aload_n dX5_passed_52 rfl ?_
            refine t_getc 0 kX5 (by decide) wPX5_66 dX5_passed_53 hok mG_o rfl ?_
            refine q_if_ne (tgt := 153) dX5_passed_56 (by decide) (fun _ => ?_) (fun q => absurd q (by decide))
            refine q_iload dX5_passed_153 rfl ?_
            exact q_iret dX5_passed_155 rfl (rfl) ⟨1, s, ⟨⟨_, rfl⟩, by omega⟩, hok, rfl⟩
        exact hl1307 (ml) 0 (nI 0) h (by omega) hok
    ·
      refine q_if_eq (tgt := 33) dX5_passed_16 (by decide) (fun _ => ?_) (fun q => absurd q (by decide))
      refine q_iconst (v := nI 1) dX5_passed_33 rfl ?_
      refine t_putc 0 (z' := 1) kX5 (by decide) wPX5_66 rfl dX5_passed_34 hok mG_o rfl ⟨rfl, rfl⟩ (fun h hok => ?_)
      replace hok := mG_setT hok
      refine q_iconst (v := nI 0) dX5_passed_37 rfl ?_
      refine t_istore [.ref o, .int (nI j1267), .int (a2), .int (a3), .int (nI 0), .retAddr 0, .retAddr 0, .retAddr 0, .retAddr 0] (Or.inr ⟨rfl, dX5_passed_38⟩) (by decide) rfl ?_
      refine q_iconst (v := nI 0) dX5_passed_40 rfl ?_
      refine t_istore [.ref o, .int (nI j1267), .int (a2), .int (a3), .int (nI 0), .int (nI 0), .retAddr 0, .retAddr 0, .retAddr 0] (Or.inr ⟨rfl, dX5_passed_41⟩) (by decide) rfl ?_
      have hl1313 : ∀ (d1315 k1314 : Nat) (x1316 : Int32) (h : q_H), k1314 + d1315 = ml → q_ok (mG Γ o ml (1) (s)) h → q_A Sc mX5_passed 43 [.ref o, .int (nI j1267), .int (a2), .int (a3), .int (x1316), .int (nI k1314), .retAddr 0, .retAddr 0, .retAddr 0] [] h n 0 0 (fun O h' n' => ∃ th' s', (fun O th' s' => q_RI O ∧ s' ≤ s + 0) O th' s' ∧ q_ok (mG Γ o ml th' s') h' ∧ n' = n) := by
        intro d1315
        induction d1315 with
        | zero =>
          intro k1314 x1316 h el1313 hok
          refine q_iload dX5_passed_43 rfl ?_
          refine q_aload_n dX5_passed_45 rfl ?_
          refine t_getc 1 kX5 (by decide) wPX5_59 dX5_passed_46 hok mG_o rfl ?_
          refine t_icmp_ge_n (tgt := 153) (by omega) (by omega) dX5_passed_49 (by decide) (fun c1317 => ?_) (fun c1317 => ?_)
          rotate_left
          · exact absurd c1317 (by omega)
          refine q_iload dX5_passed_153 rfl ?_
          exact q_iret dX5_passed_155 rfl (rfl) ⟨1, s, ⟨⟨_, rfl⟩, by omega⟩, hok, rfl⟩
        | succ d1315 ihl1313 =>
          intro k1314 x1316 h el1313 hok
          refine q_iload dX5_passed_43 rfl ?_
          refine q_aload_n dX5_passed_45 rfl ?_
          refine t_getc 1 kX5 (by decide) wPX5_59 dX5_passed_46 hok mG_o rfl ?_
          refine t_icmp_ge_n (tgt := 153) (by omega) (by omega) dX5_passed_49 (by decide) (fun c1318 => ?_) (fun c1318 => ?_)
          · exact absurd c1318 (by omega)
          refine q_aload_n dX5_passed_52 rfl ?_
          refine t_getc 0 kX5 (by decide) wPX5_66 dX5_passed_53 hok mG_o rfl ?_
          refine q_if_ne (tgt := 153) dX5_passed_56 (by decide) (fun _ => ?_) (fun q => absurd q (by decide))
          refine q_iload dX5_passed_153 rfl ?_
          exact q_iret dX5_passed_155 rfl (rfl) ⟨1, s, ⟨⟨_, rfl⟩, by omega⟩, hok, rfl⟩
      exact hl1313 (ml) 0 (nI 0) h (by omega) hok
  ·
    refine q_if_eq (tgt := 33) dX5_passed_6 (by decide) (fun _ => ?_) (fun q => absurd q (by decide))
    refine q_iconst (v := nI 1) dX5_passed_33 rfl ?_
    refine t_putc 0 (z' := 1) kX5 (by decide) wPX5_66 rfl dX5_passed_34 hok mG_o rfl ⟨rfl, rfl⟩ (fun h hok => ?_)
    replace hok := mG_setT hok
    refine q_iconst (v := nI 0) dX5_passed_37 rfl ?_
    refine t_istore [.ref o, .int (a1), .int (a2), .int (a3), .int (nI 0), .retAddr 0, .retAddr 0, .retAddr 0, .retAddr 0] (Or.inr ⟨rfl, dX5_passed_38⟩) (by decide) rfl ?_
    refine q_iconst (v := nI 0) dX5_passed_40 rfl ?_
    refine t_istore [.ref o, .int (a1), .int (a2), .int (a3), .int (nI 0), .int (nI 0), .retAddr 0, .retAddr 0, .retAddr 0] (Or.inr ⟨rfl, dX5_passed_41⟩) (by decide) rfl ?_
    have hl1319 : ∀ (d1321 k1320 : Nat) (x1322 : Int32) (h : q_H), k1320 + d1321 = ml → q_ok (mG Γ o ml (1) (s)) h → q_A Sc mX5_passed 43 [.ref o, .int (a1), .int (a2), .int (a3), .int (x1322), .int (nI k1320), .retAddr 0, .retAddr 0, .retAddr 0] [] h n 0 0 (fun O h' n' => ∃ th' s', (fun O th' s' => q_RI O ∧ s' ≤ s + 0) O th' s' ∧ q_ok (mG Γ o ml th' s') h' ∧ n' = n) := by
      intro d1321
      induction d1321 with
      | zero =>
        intro k1320 x1322 h el1319 hok
        refine q_iload dX5_passed_43 rfl ?_
        refine q_aload_n dX5_passed_45 rfl ?_
        refine t_getc 1 kX5 (by decide) wPX5_59 dX5_passed_46 hok mG_o rfl ?_
        refine t_icmp_ge_n (tgt := 153) (by omega) (by omega) dX5_passed_49 (by decide) (fun c1323 => ?_) (fun c1323 => ?_)
        rotate_left
        · exact absurd c1323 (by omega)
        refine q_iload dX5_passed_153 rfl ?_
        exact q_iret dX5_passed_155 rfl (rfl) ⟨1, s, ⟨⟨_, rfl⟩, by omega⟩, hok, rfl⟩
      | succ d1321 ihl1319 =>
        intro k1320 x1322 h el1319 hok
        refine q_iload dX5_passed_43 rfl ?_
        refine q_aload_n dX5_passed_45 rfl ?_
        refine t_getc 1 kX5 (by decide) wPX5_59 dX5_passed_46 hok mG_o rfl ?_
        refine t_icmp_ge_n (tgt := 153) (by omega) (by omega) dX5_passed_49 (by decide) (fun c1324 => ?_) (fun c1324 => ?_)
        · exact absurd c1324 (by omega)
        refine q_aload_n dX5_passed_52 rfl ?_
        refine t_getc 0 kX5 (by decide) wPX5_66 dX5_passed_53 hok mG_o rfl ?_
        refine q_if_ne (tgt := 153) dX5_passed_56 (by decide) (fun _ => ?_) (fun q => absurd q (by decide))
        refine q_iload dX5_passed_153 rfl ?_
        exact q_iret dX5_passed_155 rfl (rfl) ⟨1, s, ⟨⟨_, rfl⟩, by omega⟩, hok, rfl⟩
    exact hl1319 (ml) 0 (nI 0) h (by omega) hok
theorem sX5_knows (Sc : q_S) (Γ : Nat → q_K) (n o ml th s : Nat) (hB : mB Γ o) (hml : ml ≤ 4) (a1 : Int32) (a2 : Int32) : q_mod Sc Γ o ml mX5_knows [.ref o, .int (a1), .int (a2)] n th s (fun O th' s' => (∃ x, O = .inl (some (.int x)) ∧ ((x = nI 1 ∧ (∃ j, j < ml ∧ a1 = nI j) ∧ ∃ g, g ≤ 7 ∧ a2 = nI g) ∨ x = nI 0)) ∧ s' = s) := by
  intro h hok
  show q_A Sc mX5_knows 0 [.ref o, .int (a1), .int (a2)] [] h n 0 0 (fun O h' n' => ∃ th' s', (fun O th' s' => (∃ x, O = .inl (some (.int x)) ∧ ((x = nI 1 ∧ (∃ j, j < ml ∧ a1 = nI j) ∧ ∃ g, g ≤ 7 ∧ a2 = nI g) ∨ x = nI 0)) ∧ s' = s) O th' s' ∧ q_ok (mG Γ o ml th' s') h' ∧ n' = n)
  refine q_aload_n dX5_knows_0 rfl ?_
  refine q_aload_n dX5_knows_1 rfl ?_
  refine q_iload_n dX5_knows_2 rfl ?_
  refine t_callM (M' := mX5_isLink) [.int (a1)] [.ref o] dX5_knows_3 wPX5_117v wIX5_isLink wSX5_isLink iX5_isLink oX5_isLink rfl hok (sX5_isLink Sc Γ n o ml (th) (s) hB hml (a1)) (Nat.le_of_ble_eq_true rfl) (Nat.le_of_ble_eq_true rfl) (Nat.le_of_ble_eq_true rfl) rfl (fun _ _ _ q => by obtain ⟨⟨_, q, _⟩, _⟩ := q; cases q) (fun v1326 h thv1326 sv1326 qv1326 hok => ?_)
  obtain ⟨⟨x1327, qx1327, hx1327⟩, etv1326, esv1326⟩ := qv1326
  rw [etv1326, esv1326] at hok
  obtain rfl := Sum.inl.inj qx1327
  rcases hx1327 with ⟨rfl, j1328, hj1328, rfl⟩ | rfl
  ·
    refine q_if_eq (tgt := 23) dX5_knows_6 (by decide) (fun q => absurd q (by decide)) (fun _ => ?_)
    refine q_iload_n dX5_knows_9 rfl ?_
    refine q_iconst (v := nI 0) dX5_knows_10 rfl ?_
    refine q_bipush (v := nI 7) dX5_knows_11 rfl ?_
    refine t_callS (M' := mX5_in) [.int (a2), .int (nI 0), .int (nI 7)] [.ref o] dX5_knows_13 wPX5_120 wTX5_in wNX5 iX5_in oX5_in rfl hok (sX5_in Sc (mG Γ o ml (th) (s)) n (a2) (nI 0) (nI 7)) (Nat.le_of_ble_eq_true rfl) (Nat.le_of_ble_eq_true rfl) (Nat.le_of_ble_eq_true rfl) (Nat.le_of_ble_eq_true rfl) (Nat.le_of_ble_eq_true rfl) rfl (fun v1329 h qv1329 hok => ?_) (fun e1330 h qe1330 hok => absurd qe1330 (by intro q; obtain ⟨_, q, _⟩ := q; cases q))
    obtain ⟨x1331, qx1331, hx1331⟩ := qv1329
    obtain rfl := Sum.inl.inj qx1331
    rcases hx1331 with ⟨rfl, c1332a, c1332b⟩ | rfl
    ·
      obtain ⟨g1333, hg1333, rfl⟩ := q_chk2 (by omega) c1332a c1332b
      refine q_if_eq (tgt := 23) dX5_knows_16 (by decide) (fun q => absurd q (by decide)) (fun _ => ?_)
      refine q_iconst (v := nI 0) dX5_knows_19 rfl ?_
      refine q_goto (tgt := 24) dX5_knows_20 (by decide) ?_
      refine t_putc 0 (z' := 0) kX5 (by decide) wPX5_66 rfl dX5_knows_24 hok mG_o rfl ⟨rfl, rfl⟩ (fun h hok => ?_)
      replace hok := mG_setT hok
      refine q_aload_n dX5_knows_27 rfl ?_
      refine t_getc 0 kX5 (by decide) wPX5_66 dX5_knows_28 hok mG_o rfl ?_
      refine q_if_ne (tgt := 38) dX5_knows_31 (by decide) (fun q => absurd q (by decide)) (fun _ => ?_)
      refine q_iconst (v := nI 1) dX5_knows_34 rfl ?_
      refine q_goto (tgt := 39) dX5_knows_35 (by decide) ?_
      exact q_iret dX5_knows_39 rfl (rfl) ⟨0, s, ⟨⟨_, rfl, Or.inl ⟨rfl, ⟨_, by assumption, rfl⟩, ⟨_, by assumption, rfl⟩⟩⟩, rfl⟩, hok, rfl⟩
    ·
      refine q_if_eq (tgt := 23) dX5_knows_16 (by decide) (fun _ => ?_) (fun q => absurd q (by decide))
      refine q_iconst (v := nI 1) dX5_knows_23 rfl ?_
      refine t_putc 0 (z' := 1) kX5 (by decide) wPX5_66 rfl dX5_knows_24 hok mG_o rfl ⟨rfl, rfl⟩ (fun h hok => ?_)
      replace hok := mG_setT hok
      refine q_aload_n dX5_knows_27 rfl ?_
      refine t_getc 0 kX5 (by decide) wPX5_66 dX5_knows_28 hok mG_o rfl ?_
      refine q_if_ne (tgt := 38) dX5_knows_31 (by decide) (fun _ => ?_) (fun q => absurd q (by decide))
      refine q_iconst (v := nI 0) dX5_knows_38 rfl ?_
      exact q_iret dX5_knows_39 rfl (rfl) ⟨1, s, ⟨⟨_, rfl, Or.inr rfl⟩, rfl⟩, hok, rfl⟩
  ·
    refine q_if_eq (tgt := 23) dX5_knows_6 (by decide) (fun _ => ?_) (fun q => absurd q (by decide))
    refine q_iconst (v := nI 1) dX5_knows_23 rfl ?_
    refine t_putc 0 (z' := 1) kX5 (by decide) wPX5_66 rfl dX5_knows_24 hok mG_o rfl ⟨rfl, rfl⟩ (fun h hok => ?_)
    replace hok := mG_setT hok
    refine q_aload_n dX5_knows_27 rfl ?_
    refine t_getc 0 kX5 (by decide) wPX5_66 dX5_knows_28 hok mG_o rfl ?_
    refine q_if_ne (tgt := 38) dX5_knows_31 (by decide) (fun _ => ?_) (fun q => absurd q (by decide))
    refine q_iconst (v := nI 0) dX5_knows_38 rfl ?_
    exact q_iret dX5_knows_39 rfl (rfl) ⟨1, s, ⟨⟨_, rfl, Or.inr rfl⟩, rfl⟩, hok, rfl⟩
set_option maxRecDepth 20000 in
set_option maxHeartbeats 4000000 in
theorem sX5_mode (Sc : q_S) (Γ : Nat → q_K) (n o ml th s : Nat) (hB : mB Γ o) (hml : ml ≤ 4) (a1 : Int32) (a2 : Int32) : q_mod Sc Γ o ml mX5_mode [.ref o, .int (a1), .int (a2)] n th s (fun O th' s' => q_RI O ∧ s' ≤ s + 0) := by
  intro h hok
  show q_A Sc mX5_mode 0 [.ref o, .int (a1), .int (a2)] [] h n 0 0 (fun O h' n' => ∃ th' s', (fun O th' s' => q_RI O ∧ s' ≤ s + 0) O th' s' ∧ q_ok (mG Γ o ml th' s') h' ∧ n' = n)
  refine q_aload_n dX5_mode_0 rfl ?_
  refine q_iload_n dX5_mode_1 rfl ?_
  refine q_iload_n dX5_mode_2 rfl ?_
  refine t_callM (M' := mX5_knows) [.int (a1), .int (a2)] [] dX5_mode_3 wPX5_136v wIX5_knows wSX5_knows iX5_knows oX5_knows rfl hok (sX5_knows Sc Γ n o ml (th) (s) hB hml (a1) (a2)) (Nat.le_of_ble_eq_true rfl) (Nat.le_of_ble_eq_true rfl) (Nat.le_of_ble_eq_true rfl) rfl (fun _ _ _ q => by obtain ⟨⟨_, q, _⟩, _⟩ := q; cases q) (fun v1335 h thv1335 sv1335 qv1335 hok => ?_)
  obtain ⟨⟨x1336, qx1336, hx1336⟩, esv1335⟩ := qv1335
  rw [esv1335] at hok
  obtain rfl := Sum.inl.inj qx1336
  rcases hx1336 with ⟨rfl, ⟨j1337, hj1337, rfl⟩, g1338, hg1338, rfl⟩ | rfl
  ·
    refine q_if_eq (tgt := 23) dX5_mode_6 (by decide) (fun q => absurd q (by decide)) (fun _ => ?_)
    refine q_aload_n dX5_mode_9 rfl ?_
    refine t_getr 8 kX5 (by decide) wPX5_28 dX5_mode_10 hok mG_o rfl ?_
    refine q_bipush (v := nI 8) dX5_mode_13 rfl ?_
    refine q_iload_n dX5_mode_15 rfl ?_
    refine t_imul_n dX5_mode_16 ?_
    refine q_iload_n dX5_mode_17 rfl ?_
    refine t_iadd_n dX5_mode_18 ?_
    refine t_iald dX5_mode_19 hok (mG_a6 (ml := ml) (th := thv1335) (s := s) hB) (by exact vp_in_nI (by omega) (by omega)) (fun x1339 => ?_)
    refine q_goto (tgt := 24) dX5_mode_20 (by decide) ?_
    exact q_iret dX5_mode_24 rfl (rfl) ⟨thv1335, s, ⟨⟨_, rfl⟩, by omega⟩, hok, rfl⟩
  ·
    refine q_if_eq (tgt := 23) dX5_mode_6 (by decide) (fun _ => ?_) (fun q => absurd q (by decide))
    refine q_iconst (v := nI 0) dX5_mode_23 rfl ?_
    exact q_iret dX5_mode_24 rfl (rfl) ⟨thv1335, s, ⟨⟨_, rfl⟩, by omega⟩, hok, rfl⟩
set_option maxRecDepth 20000 in
set_option maxHeartbeats 4000000 in
theorem sX5_sources (Sc : q_S) (Γ : Nat → q_K) (n o ml th s : Nat) (hB : mB Γ o) (hml : ml ≤ 4) (a1 : Int32) (a2 : Int32) (a3 : Int32) (b3 : q_bl a3) : q_mod Sc Γ o ml mX5_sources [.ref o, .int (a1), .int (a2), .int (a3)] n th s (fun O th' s' => q_RI O ∧ s' ≤ s + 0) := by
  intro h hok
  show q_A Sc mX5_sources 0 [.ref o, .int (a1), .int (a2), .int (a3)] [] h n 0 0 (fun O h' n' => ∃ th' s', (fun O th' s' => q_RI O ∧ s' ≤ s + 0) O th' s' ∧ q_ok (mG Γ o ml th' s') h' ∧ n' = n)
  refine q_aload_n dX5_sources_0 rfl ?_
  refine q_iload_n dX5_sources_1 rfl ?_
  refine q_iload_n dX5_sources_2 rfl ?_
  refine t_callM (M' := mX5_knows) [.int (a1), .int (a2)] [] dX5_sources_3 wPX5_136v wIX5_knows wSX5_knows iX5_knows oX5_knows rfl hok (sX5_knows Sc Γ n o ml (th) (s) hB hml (a1) (a2)) (Nat.le_of_ble_eq_true rfl) (Nat.le_of_ble_eq_true rfl) (Nat.le_of_ble_eq_true rfl) rfl (fun _ _ _ q => by obtain ⟨⟨_, q, _⟩, _⟩ := q; cases q) (fun v1341 h thv1341 sv1341 qv1341 hok => ?_)
  obtain ⟨⟨x1342, qx1342, hx1342⟩, esv1341⟩ := qv1341
  rw [esv1341] at hok
  obtain rfl := Sum.inl.inj qx1342
  rcases hx1342 with ⟨rfl, ⟨j1343, hj1343, rfl⟩, g1344, hg1344, rfl⟩ | rfl
  ·
    refine q_if_eq (tgt := 31) dX5_sources_6 (by decide) (fun q => absurd q (by decide)) (fun _ => ?_)
    refine q_aload_n dX5_sources_9 rfl ?_
    refine q_bipush (v := nI 8) dX5_sources_10 rfl ?_
    refine q_iload_n dX5_sources_12 rfl ?_
    refine t_imul_n dX5_sources_13 ?_
    refine q_iload_n dX5_sources_14 rfl ?_
    refine t_iadd_n dX5_sources_15 ?_
    refine q_iload_n dX5_sources_16 rfl ?_
    refine q_if_eq (tgt := 24) dX5_sources_17 (by decide) (fun c1345 => ?_) (fun c1345 => ?_)
    ·
      refine q_iconst (v := nI 2) dX5_sources_24 rfl ?_
      refine t_callM (M' := mX5_setOf) [.int (nI ((8 * j1343) + (g1344))), .int (nI 2)] [] dX5_sources_25 wPX5_90v wIX5_setOf wSX5_setOf iX5_setOf oX5_setOf rfl hok (sX5_setOf Sc Γ n o ml (thv1341) (s) hB hml ((8 * j1343) + (g1344)) (by omega) (nI 2)) (Nat.le_of_ble_eq_true rfl) (Nat.le_of_ble_eq_true rfl) (Nat.le_of_ble_eq_true rfl) rfl (fun _ _ _ q => by obtain ⟨q, _⟩ := q; obtain ⟨_, q⟩ := q; cases q) (fun v1346 h thv1346 sv1346 qv1346 hok => ?_)
      obtain ⟨qv1346, etv1346, esv1346⟩ := qv1346
      rw [etv1346, esv1346] at hok
      obtain ⟨x1347, qx1347⟩ := qv1346
      obtain rfl := Sum.inl.inj qx1347
      refine q_goto (tgt := 32) dX5_sources_28 (by decide) ?_
      exact q_iret dX5_sources_32 rfl (rfl) ⟨thv1341, s, ⟨⟨_, rfl⟩, by omega⟩, hok, rfl⟩
    ·
      refine q_iconst (v := nI 1) dX5_sources_20 rfl ?_
      refine q_goto (tgt := 25) dX5_sources_21 (by decide) ?_
      refine t_callM (M' := mX5_setOf) [.int (nI ((8 * j1343) + (g1344))), .int (nI 1)] [] dX5_sources_25 wPX5_90v wIX5_setOf wSX5_setOf iX5_setOf oX5_setOf rfl hok (sX5_setOf Sc Γ n o ml (thv1341) (s) hB hml ((8 * j1343) + (g1344)) (by omega) (nI 1)) (Nat.le_of_ble_eq_true rfl) (Nat.le_of_ble_eq_true rfl) (Nat.le_of_ble_eq_true rfl) rfl (fun _ _ _ q => by obtain ⟨q, _⟩ := q; obtain ⟨_, q⟩ := q; cases q) (fun v1348 h thv1348 sv1348 qv1348 hok => ?_)
      obtain ⟨qv1348, etv1348, esv1348⟩ := qv1348
      rw [etv1348, esv1348] at hok
      obtain ⟨x1349, qx1349⟩ := qv1348
      obtain rfl := Sum.inl.inj qx1349
      refine q_goto (tgt := 32) dX5_sources_28 (by decide) ?_
      exact q_iret dX5_sources_32 rfl (rfl) ⟨thv1341, s, ⟨⟨_, rfl⟩, by omega⟩, hok, rfl⟩
  ·
    refine q_if_eq (tgt := 31) dX5_sources_6 (by decide) (fun _ => ?_) (fun q => absurd q (by decide))
    refine q_iconst (v := nI 0) dX5_sources_31 rfl ?_
    exact q_iret dX5_sources_32 rfl (rfl) ⟨thv1341, s, ⟨⟨_, rfl⟩, by omega⟩, hok, rfl⟩
set_option maxRecDepth 20000 in
set_option maxHeartbeats 4000000 in
theorem sX5_timer (Sc : q_S) (Γ : Nat → q_K) (n o ml th s : Nat) (hB : mB Γ o) (hml : ml ≤ 4) (a1 : Int32) (a2 : Int32) (a3 : Int32) : q_mod Sc Γ o ml mX5_timer [.ref o, .int (a1), .int (a2), .int (a3)] n th s (fun O th' s' => q_RI O ∧ s' ≤ s + 0) := by
  intro h hok
  show q_A Sc mX5_timer 0 [.ref o, .int (a1), .int (a2), .int (a3)] [] h n 0 0 (fun O h' n' => ∃ th' s', (fun O th' s' => q_RI O ∧ s' ≤ s + 0) O th' s' ∧ q_ok (mG Γ o ml th' s') h' ∧ n' = n)
  refine q_aload_n dX5_timer_0 rfl ?_
  refine q_aload_n dX5_timer_1 rfl ?_
  refine q_iload_n dX5_timer_2 rfl ?_
  refine t_callM (M' := mX5_isLink) [.int (a1)] [.ref o] dX5_timer_3 wPX5_117v wIX5_isLink wSX5_isLink iX5_isLink oX5_isLink rfl hok (sX5_isLink Sc Γ n o ml (th) (s) hB hml (a1)) (Nat.le_of_ble_eq_true rfl) (Nat.le_of_ble_eq_true rfl) (Nat.le_of_ble_eq_true rfl) rfl (fun _ _ _ q => by obtain ⟨⟨_, q, _⟩, _⟩ := q; cases q) (fun v1351 h thv1351 sv1351 qv1351 hok => ?_)
  obtain ⟨⟨x1352, qx1352, hx1352⟩, etv1351, esv1351⟩ := qv1351
  rw [etv1351, esv1351] at hok
  obtain rfl := Sum.inl.inj qx1352
  rcases hx1352 with ⟨rfl, j1353, hj1353, rfl⟩ | rfl
  ·
    refine q_if_eq (tgt := 33) dX5_timer_6 (by decide) (fun q => absurd q (by decide)) (fun _ => ?_)
    refine q_iload_n dX5_timer_9 rfl ?_
    refine q_iconst (v := nI 0) dX5_timer_10 rfl ?_
    refine q_bipush (v := nI 7) dX5_timer_11 rfl ?_
    refine t_callS (M' := mX5_in) [.int (a2), .int (nI 0), .int (nI 7)] [.ref o] dX5_timer_13 wPX5_120 wTX5_in wNX5 iX5_in oX5_in rfl hok (sX5_in Sc (mG Γ o ml (th) (s)) n (a2) (nI 0) (nI 7)) (Nat.le_of_ble_eq_true rfl) (Nat.le_of_ble_eq_true rfl) (Nat.le_of_ble_eq_true rfl) (Nat.le_of_ble_eq_true rfl) (Nat.le_of_ble_eq_true rfl) rfl (fun v1354 h qv1354 hok => ?_) (fun e1355 h qe1355 hok => absurd qe1355 (by intro q; obtain ⟨_, q, _⟩ := q; cases q))
    obtain ⟨x1356, qx1356, hx1356⟩ := qv1354
    obtain rfl := Sum.inl.inj qx1356
    rcases hx1356 with ⟨rfl, c1357a, c1357b⟩ | rfl
    ·
      obtain ⟨g1358, hg1358, rfl⟩ := q_chk2 (by omega) c1357a c1357b
      refine q_if_eq (tgt := 33) dX5_timer_16 (by decide) (fun q => absurd q (by decide)) (fun _ => ?_)
      refine q_iload_n dX5_timer_19 rfl ?_
      refine q_iconst (v := nI 0) dX5_timer_20 rfl ?_
      refine q_bipush (v := nI 15) dX5_timer_21 rfl ?_
      refine t_callS (M' := mX5_in) [.int (a3), .int (nI 0), .int (nI 15)] [.ref o] dX5_timer_23 wPX5_120 wTX5_in wNX5 iX5_in oX5_in rfl hok (sX5_in Sc (mG Γ o ml (th) (s)) n (a3) (nI 0) (nI 15)) (Nat.le_of_ble_eq_true rfl) (Nat.le_of_ble_eq_true rfl) (Nat.le_of_ble_eq_true rfl) (Nat.le_of_ble_eq_true rfl) (Nat.le_of_ble_eq_true rfl) rfl (fun v1359 h qv1359 hok => ?_) (fun e1360 h qe1360 hok => absurd qe1360 (by intro q; obtain ⟨_, q, _⟩ := q; cases q))
      obtain ⟨x1361, qx1361, hx1361⟩ := qv1359
      obtain rfl := Sum.inl.inj qx1361
      rcases hx1361 with ⟨rfl, c1362a, c1362b⟩ | rfl
      ·
        obtain ⟨g1363, hg1363, rfl⟩ := q_chk2 (by omega) c1362a c1362b
        refine q_if_eq (tgt := 33) dX5_timer_26 (by decide) (fun q => absurd q (by decide)) (fun _ => ?_)
        refine q_iconst (v := nI 0) dX5_timer_29 rfl ?_
        refine q_goto (tgt := 34) dX5_timer_30 (by decide) ?_
        refine t_putc 0 (z' := 0) kX5 (by decide) wPX5_66 rfl dX5_timer_34 hok mG_o rfl ⟨rfl, rfl⟩ (fun h hok => ?_)
        replace hok := mG_setT hok
        refine q_aload_n dX5_timer_37 rfl ?_
        refine t_getc 0 kX5 (by decide) wPX5_66 dX5_timer_38 hok mG_o rfl ?_
        refine q_if_le (tgt := 48) dX5_timer_41 (by decide) (fun _ => ?_) (fun q => absurd q (by decide))
        refine q_aload_n dX5_timer_48 rfl ?_
        refine t_getr 11 kX5 (by decide) wPX5_37 dX5_timer_49 hok mG_o rfl ?_
        refine q_bipush (v := nI 16) dX5_timer_52 rfl ?_
        refine q_bipush (v := nI 8) dX5_timer_54 rfl ?_
        refine q_iload_n dX5_timer_56 rfl ?_
        refine t_imul_n dX5_timer_57 ?_
        refine q_iload_n dX5_timer_58 rfl ?_
        refine t_iadd_n dX5_timer_59 ?_
        refine t_imul_n dX5_timer_60 ?_
        refine q_iload_n dX5_timer_61 rfl ?_
        refine t_iadd_n dX5_timer_62 ?_
        refine t_iald dX5_timer_63 hok (mG_a9 (ml := ml) (th := 0) (s := s) hB) (by exact vp_in_nI (by omega) (by omega)) (fun x1364 => ?_)
        exact q_iret dX5_timer_64 rfl (rfl) ⟨0, s, ⟨⟨_, rfl⟩, by omega⟩, hok, rfl⟩
      ·
        refine q_if_eq (tgt := 33) dX5_timer_26 (by decide) (fun _ => ?_) (fun q => absurd q (by decide))
        refine q_iconst (v := nI 1) dX5_timer_33 rfl ?_
        refine t_putc 0 (z' := 1) kX5 (by decide) wPX5_66 rfl dX5_timer_34 hok mG_o rfl ⟨rfl, rfl⟩ (fun h hok => ?_)
        replace hok := mG_setT hok
        refine q_aload_n dX5_timer_37 rfl ?_
        refine t_getc 0 kX5 (by decide) wPX5_66 dX5_timer_38 hok mG_o rfl ?_
        refine q_if_le (tgt := 48) dX5_timer_41 (by decide) (fun q => absurd q (by decide)) (fun _ => ?_)
        refine q_iconst (v := nI 0) dX5_timer_44 rfl ?_
        refine q_goto (tgt := 64) dX5_timer_45 (by decide) ?_
        exact q_iret dX5_timer_64 rfl (rfl) ⟨1, s, ⟨⟨_, rfl⟩, by omega⟩, hok, rfl⟩
    ·
      refine q_if_eq (tgt := 33) dX5_timer_16 (by decide) (fun _ => ?_) (fun q => absurd q (by decide))
      refine q_iconst (v := nI 1) dX5_timer_33 rfl ?_
      refine t_putc 0 (z' := 1) kX5 (by decide) wPX5_66 rfl dX5_timer_34 hok mG_o rfl ⟨rfl, rfl⟩ (fun h hok => ?_)
      replace hok := mG_setT hok
      refine q_aload_n dX5_timer_37 rfl ?_
      refine t_getc 0 kX5 (by decide) wPX5_66 dX5_timer_38 hok mG_o rfl ?_
      refine q_if_le (tgt := 48) dX5_timer_41 (by decide) (fun q => absurd q (by decide)) (fun _ => ?_)
      refine q_iconst (v := nI 0) dX5_timer_44 rfl ?_
      refine q_goto (tgt := 64) dX5_timer_45 (by decide) ?_
      exact q_iret dX5_timer_64 rfl (rfl) ⟨1, s, ⟨⟨_, rfl⟩, by omega⟩, hok, rfl⟩
  ·
    refine q_if_eq (tgt := 33) dX5_timer_6 (by decide) (fun _ => ?_) (fun q => absurd q (by decide))
    refine q_iconst (v := nI 1) dX5_timer_33 rfl ?_
    refine t_putc 0 (z' := 1) kX5 (by decide) wPX5_66 rfl dX5_timer_34 hok mG_o rfl ⟨rfl, rfl⟩ (fun h hok => ?_)
    replace hok := mG_setT hok
    refine q_aload_n dX5_timer_37 rfl ?_
    refine t_getc 0 kX5 (by decide) wPX5_66 dX5_timer_38 hok mG_o rfl ?_
    refine q_if_le (tgt := 48) dX5_timer_41 (by decide) (fun q => absurd q (by decide)) (fun _ => ?_)
    refine q_iconst (v := nI 0) dX5_timer_44 rfl ?_
    refine q_goto (tgt := 64) dX5_timer_45 (by decide) ?_
    exact q_iret dX5_timer_64 rfl (rfl) ⟨1, s, ⟨⟨_, rfl⟩, by omega⟩, hok, rfl⟩
set_option maxRecDepth 20000 in
set_option maxHeartbeats 4000000 in
theorem sX5_groupTimer (Sc : q_S) (Γ : Nat → q_K) (n o ml th s : Nat) (hB : mB Γ o) (hml : ml ≤ 4) (a1 : Int32) (a2 : Int32) : q_mod Sc Γ o ml mX5_groupTimer [.ref o, .int (a1), .int (a2)] n th s (fun O th' s' => q_RI O ∧ s' ≤ s + 0) := by
  intro h hok
  show q_A Sc mX5_groupTimer 0 [.ref o, .int (a1), .int (a2)] [] h n 0 0 (fun O h' n' => ∃ th' s', (fun O th' s' => q_RI O ∧ s' ≤ s + 0) O th' s' ∧ q_ok (mG Γ o ml th' s') h' ∧ n' = n)
  refine q_aload_n dX5_groupTimer_0 rfl ?_
  refine q_iload_n dX5_groupTimer_1 rfl ?_
  refine q_iload_n dX5_groupTimer_2 rfl ?_
  refine t_callM (M' := mX5_knows) [.int (a1), .int (a2)] [] dX5_groupTimer_3 wPX5_136v wIX5_knows wSX5_knows iX5_knows oX5_knows rfl hok (sX5_knows Sc Γ n o ml (th) (s) hB hml (a1) (a2)) (Nat.le_of_ble_eq_true rfl) (Nat.le_of_ble_eq_true rfl) (Nat.le_of_ble_eq_true rfl) rfl (fun _ _ _ q => by obtain ⟨⟨_, q, _⟩, _⟩ := q; cases q) (fun v1366 h thv1366 sv1366 qv1366 hok => ?_)
  obtain ⟨⟨x1367, qx1367, hx1367⟩, esv1366⟩ := qv1366
  rw [esv1366] at hok
  obtain rfl := Sum.inl.inj qx1367
  rcases hx1367 with ⟨rfl, ⟨j1368, hj1368, rfl⟩, g1369, hg1369, rfl⟩ | rfl
  ·
    refine q_if_eq (tgt := 23) dX5_groupTimer_6 (by decide) (fun q => absurd q (by decide)) (fun _ => ?_)
    refine q_aload_n dX5_groupTimer_9 rfl ?_
    refine t_getr 9 kX5 (by decide) wPX5_31 dX5_groupTimer_10 hok mG_o rfl ?_
    refine q_bipush (v := nI 8) dX5_groupTimer_13 rfl ?_
    refine q_iload_n dX5_groupTimer_15 rfl ?_
    refine t_imul_n dX5_groupTimer_16 ?_
    refine q_iload_n dX5_groupTimer_17 rfl ?_
    refine t_iadd_n dX5_groupTimer_18 ?_
    refine t_iald dX5_groupTimer_19 hok (mG_a7 (ml := ml) (th := thv1366) (s := s) hB) (by exact vp_in_nI (by omega) (by omega)) (fun x1370 => ?_)
    refine q_goto (tgt := 24) dX5_groupTimer_20 (by decide) ?_
    exact q_iret dX5_groupTimer_24 rfl (rfl) ⟨thv1366, s, ⟨⟨_, rfl⟩, by omega⟩, hok, rfl⟩
  ·
    refine q_if_eq (tgt := 23) dX5_groupTimer_6 (by decide) (fun _ => ?_) (fun q => absurd q (by decide))
    refine q_iconst (v := nI 0) dX5_groupTimer_23 rfl ?_
    exact q_iret dX5_groupTimer_24 rfl (rfl) ⟨thv1366, s, ⟨⟨_, rfl⟩, by omega⟩, hok, rfl⟩
set_option maxRecDepth 20000 in
set_option maxHeartbeats 4000000 in
theorem sX5_sent (Sc : q_S) (Γ : Nat → q_K) (n o ml th s : Nat) (hB : mB Γ o) (hml : ml ≤ 4)  : q_mod Sc Γ o ml mX5_sent [.ref o] n th s (fun O th' s' => q_RI O ∧ s' ≤ s + 0) := by
  intro h hok
  show q_A Sc mX5_sent 0 [.ref o] [] h n 0 0 (fun O h' n' => ∃ th' s', (fun O th' s' => q_RI O ∧ s' ≤ s + 0) O th' s' ∧ q_ok (mG Γ o ml th' s') h' ∧ n' = n)
  refine q_aload_n dX5_sent_0 rfl ?_
  refine q_iconst (v := nI 0) dX5_sent_1 rfl ?_
  refine t_putc 0 (z' := 0) kX5 (by decide) wPX5_66 rfl dX5_sent_2 hok mG_o rfl ⟨rfl, rfl⟩ (fun h hok => ?_)
  replace hok := mG_setT hok
  refine q_aload_n dX5_sent_5 rfl ?_
  refine t_getc 15 kX5 (by decide) wPX5_72 dX5_sent_6 hok mG_o rfl ?_
  exact q_iret dX5_sent_9 rfl (rfl) ⟨0, s, ⟨⟨_, rfl⟩, by omega⟩, hok, rfl⟩
set_option maxRecDepth 20000 in
set_option maxHeartbeats 4000000 in
theorem sX5_told (Sc : q_S) (Γ : Nat → q_K) (n o ml th s : Nat) (hB : mB Γ o) (hml : ml ≤ 4) (a1 : Int32) (a2 : Int32) : q_mod Sc Γ o ml mX5_told [.ref o, .int (a1), .int (a2)] n th s (fun O th' s' => q_RI O ∧ s' ≤ s + 0) := by
  intro h hok
  show q_A Sc mX5_told 0 [.ref o, .int (a1), .int (a2), .retAddr 0, .retAddr 0] [] h n 0 0 (fun O h' n' => ∃ th' s', (fun O th' s' => q_RI O ∧ s' ≤ s + 0) O th' s' ∧ q_ok (mG Γ o ml th' s') h' ∧ n' = n)
  refine q_aload_n dX5_told_0 rfl ?_
  refine q_aload_n dX5_told_1 rfl ?_
  refine q_iload_n dX5_told_2 rfl ?_
  refine t_callM (M' := mX5_isLink) [.int (a1)] [.ref o] dX5_told_3 wPX5_117v wIX5_isLink wSX5_isLink iX5_isLink oX5_isLink rfl hok (sX5_isLink Sc Γ n o ml (th) (s) hB hml (a1)) (Nat.le_of_ble_eq_true rfl) (Nat.le_of_ble_eq_true rfl) (Nat.le_of_ble_eq_true rfl) rfl (fun _ _ _ q => by obtain ⟨⟨_, q, _⟩, _⟩ := q; cases q) (fun v1373 h thv1373 sv1373 qv1373 hok => ?_)
  obtain ⟨⟨x1374, qx1374, hx1374⟩, etv1373, esv1373⟩ := qv1373
  rw [etv1373, esv1373] at hok
  obtain rfl := Sum.inl.inj qx1374
  rcases hx1374 with ⟨rfl, j1375, hj1375, rfl⟩ | rfl
  ·
    refine q_if_ne (tgt := 13) dX5_told_6 (by decide) (fun _ => ?_) (fun q => absurd q (by decide))
    refine q_iload_n dX5_told_13 rfl ?_
    refine q_iconst (v := nI 0) dX5_told_14 rfl ?_
    refine q_iconst (v := nI 5) dX5_told_15 rfl ?_
    refine t_callS (M' := mX5_in) [.int (a2), .int (nI 0), .int (nI 5)] [.ref o] dX5_told_16 wPX5_120 wTX5_in wNX5 iX5_in oX5_in rfl hok (sX5_in Sc (mG Γ o ml (th) (s)) n (a2) (nI 0) (nI 5)) (Nat.le_of_ble_eq_true rfl) (Nat.le_of_ble_eq_true rfl) (Nat.le_of_ble_eq_true rfl) (Nat.le_of_ble_eq_true rfl) (Nat.le_of_ble_eq_true rfl) rfl (fun v1376 h qv1376 hok => ?_) (fun e1377 h qe1377 hok => absurd qe1377 (by intro q; obtain ⟨_, q, _⟩ := q; cases q))
    obtain ⟨x1378, qx1378, hx1378⟩ := qv1376
    obtain rfl := Sum.inl.inj qx1378
    rcases hx1378 with ⟨rfl, c1379a, c1379b⟩ | rfl
    ·
      obtain ⟨g1380, hg1380, rfl⟩ := q_chk2 (by omega) c1379a c1379b
      refine q_if_eq (tgt := 26) dX5_told_19 (by decide) (fun q => absurd q (by decide)) (fun _ => ?_)
      refine q_iconst (v := nI 0) dX5_told_22 rfl ?_
      refine q_goto (tgt := 27) dX5_told_23 (by decide) ?_
      refine t_putc 0 (z' := 0) kX5 (by decide) wPX5_66 rfl dX5_told_27 hok mG_o rfl ⟨rfl, rfl⟩ (fun h hok => ?_)
      replace hok := mG_setT hok
      refine q_aload_n dX5_told_30 rfl ?_
      refine t_getc 0 kX5 (by decide) wPX5_66 dX5_told_31 hok mG_o rfl ?_
      refine q_if_le (tgt := 39) dX5_told_34 (by decide) (fun _ => ?_) (fun q => absurd q (by decide))
      refine q_iload_n dX5_told_39 rfl ?_
      refine q_if_ne (tgt := 49) dX5_told_40 (by decide) (fun c1381 => ?_) (fun c1381 => ?_)
      ·
        refine q_iload_n dX5_told_49 rfl ?_
        refine q_iconst (v := nI 1) dX5_told_50 rfl ?_
        refine q_icmp_ne (tgt := 61) dX5_told_51 (by decide) (fun c1382 => ?_) (fun c1382 => ?_)
        ·
          refine q_iload_n dX5_told_61 rfl ?_
          refine q_iconst (v := nI 2) dX5_told_62 rfl ?_
          refine q_icmp_ne (tgt := 73) dX5_told_63 (by decide) (fun c1383 => ?_) (fun c1383 => ?_)
          ·
            refine q_iload_n dX5_told_73 rfl ?_
            refine q_iconst (v := nI 3) dX5_told_74 rfl ?_
            refine q_icmp_ne (tgt := 85) dX5_told_75 (by decide) (fun c1384 => ?_) (fun c1384 => ?_)
            ·
              refine q_iload_n dX5_told_85 rfl ?_
              refine q_iconst (v := nI 5) dX5_told_86 rfl ?_
              refine q_icmp_ne (tgt := 109) dX5_told_87 (by decide) (fun c1385 => ?_) (fun c1385 => ?_)
              ·
                refine q_iconst (v := nI 0) dX5_told_109 rfl ?_
                refine t_istore [.ref o, .int (nI j1375), .int (nI g1380), .int (nI 0), .retAddr 0] (Or.inl ⟨3, rfl, rfl, dX5_told_110⟩) (by decide) rfl ?_
                refine q_iconst (v := nI 0) dX5_told_111 rfl ?_
                refine t_istore [.ref o, .int (nI j1375), .int (nI g1380), .int (nI 0), .int (nI 0)] (Or.inr ⟨rfl, dX5_told_112⟩) (by decide) rfl ?_
                have hl1386 : ∀ (d1388 k1387 : Nat) (x1389 : Int32) (h : q_H), k1387 + d1388 = 8 → q_ok (mG Γ o ml (0) (s)) h → q_A Sc mX5_told 114 [.ref o, .int (nI j1375), .int (nI g1380), .int (x1389), .int (nI k1387)] [] h n 0 0 (fun O h' n' => ∃ th' s', (fun O th' s' => q_RI O ∧ s' ≤ s + 0) O th' s' ∧ q_ok (mG Γ o ml th' s') h' ∧ n' = n) := by
                  intro d1388
                  induction d1388 with
                  | zero =>
                    intro k1387 x1389 h el1386 hok
                    refine q_iload dX5_told_114 rfl ?_
                    refine q_bipush (v := nI 8) dX5_told_116 rfl ?_
                    refine t_icmp_ge_n (tgt := 151) (by omega) (by omega) dX5_told_118 (by decide) (fun c1390 => ?_) (fun c1390 => ?_)
                    rotate_left
                    · exact absurd c1390 (by omega)
                    refine q_iload_n dX5_told_151 rfl ?_
                    exact q_iret dX5_told_152 rfl (rfl) ⟨0, s, ⟨⟨_, rfl⟩, by omega⟩, hok, rfl⟩
                  | succ d1388 ihl1386 =>
                    intro k1387 x1389 h el1386 hok
                    refine q_iload dX5_told_114 rfl ?_
                    refine q_bipush (v := nI 8) dX5_told_116 rfl ?_
                    refine t_icmp_ge_n (tgt := 151) (by omega) (by omega) dX5_told_118 (by decide) (fun c1391 => ?_) (fun c1391 => ?_)
                    · exact absurd c1391 (by omega)
                    refine q_aload_n dX5_told_121 rfl ?_
                    refine t_getr 8 kX5 (by decide) wPX5_28 dX5_told_122 hok mG_o rfl ?_
                    refine q_bipush (v := nI 8) dX5_told_125 rfl ?_
                    refine q_iload_n dX5_told_127 rfl ?_
                    refine t_imul_n dX5_told_128 ?_
                    refine q_iload dX5_told_129 rfl ?_
                    refine t_iadd_n dX5_told_131 ?_
                    refine t_iald dX5_told_132 hok (mG_a6 (ml := ml) (th := 0) (s := s) hB) (by exact vp_in_nI (by omega) (by omega)) (fun x1392 => ?_)
                    refine q_iconst (v := -1) dX5_told_133 rfl ?_
                    refine q_icmp_ne (tgt := 141) dX5_told_134 (by decide) (fun c1393 => ?_) (fun c1393 => ?_)
                    ·
                      refine q_iload_n dX5_told_141 rfl ?_
                      refine q_iconst (v := nI 1) dX5_told_142 rfl ?_
                      refine q_iadd dX5_told_143 ?_
                      generalize (x1389) + (nI 1) = z1394
                      refine t_istore [.ref o, .int (nI j1375), .int (nI g1380), .int (z1394), .int (nI k1387)] (Or.inl ⟨3, rfl, rfl, dX5_told_144⟩) (by decide) rfl ?_
                      refine t_iinc_n [.ref o, .int (nI j1375), .int (nI g1380), .int (z1394), .int (nI (k1387 + 1))] dX5_told_145 rfl (by decide) rfl ?_
                      refine q_goto (tgt := 114) dX5_told_148 (by decide) ?_
                      exact ihl1386 (k1387 + 1) (z1394) h (by omega) hok
                    ·
                      refine q_iload_n dX5_told_137 rfl ?_
                      refine q_goto (tgt := 144) dX5_told_138 (by decide) ?_
                      refine t_istore [.ref o, .int (nI j1375), .int (nI g1380), .int (x1389), .int (nI k1387)] (Or.inl ⟨3, rfl, rfl, dX5_told_144⟩) (by decide) rfl ?_
                      refine t_iinc_n [.ref o, .int (nI j1375), .int (nI g1380), .int (x1389), .int (nI (k1387 + 1))] dX5_told_145 rfl (by decide) rfl ?_
                      refine q_goto (tgt := 114) dX5_told_148 (by decide) ?_
                      exact ihl1386 (k1387 + 1) (x1389) h (by omega) hok
                exact hl1386 (8) 0 (nI 0) h (by omega) hok
              ·
                refine q_aload_n dX5_told_90 rfl ?_
                refine q_iload_n dX5_told_91 rfl ?_
                refine t_callM (M' := mX5_asks) [.int (nI j1375)] [] dX5_told_92 wPX5_75v wIX5_asks wSX5_asks iX5_asks oX5_asks rfl hok (sX5_asks Sc Γ n o ml (0) (s) hB hml (j1375) (by omega)) (Nat.le_of_ble_eq_true rfl) (Nat.le_of_ble_eq_true rfl) (Nat.le_of_ble_eq_true rfl) rfl (fun _ _ _ q => by obtain ⟨q, _⟩ := q; obtain ⟨_, q, _⟩ := q; cases q) (fun v1395 h thv1395 sv1395 qv1395 hok => ?_)
                obtain ⟨qv1395, etv1395, esv1395⟩ := qv1395
                rw [etv1395, esv1395] at hok
                obtain ⟨x1396, qx1396, bx1396⟩ := qv1395
                obtain rfl := Sum.inl.inj qx1396
                refine q_if_eq (tgt := 107) dX5_told_95 (by decide) (fun c1397 => ?_) (fun c1397 => ?_)
                ·
                  refine q_iconst (v := nI 0) dX5_told_107 rfl ?_
                  exact q_iret dX5_told_108 rfl (rfl) ⟨0, s, ⟨⟨_, rfl⟩, by omega⟩, hok, rfl⟩
                ·
                  refine q_aload_n dX5_told_98 rfl ?_
                  refine t_getr 7 kX5 (by decide) wPX5_25 dX5_told_99 hok mG_o rfl ?_
                  refine q_iload_n dX5_told_102 rfl ?_
                  refine t_iald dX5_told_103 hok (mG_a5 (ml := ml) (th := 0) (s := s) hB) (by exact vp_in_nI (by omega) (by omega)) (fun x1398 => ?_)
                  refine q_goto (tgt := 108) dX5_told_104 (by decide) ?_
                  exact q_iret dX5_told_108 rfl (rfl) ⟨0, s, ⟨⟨_, rfl⟩, by omega⟩, hok, rfl⟩
            ·
              refine q_aload_n dX5_told_78 rfl ?_
              refine t_getr 6 kX5 (by decide) wPX5_22 dX5_told_79 hok mG_o rfl ?_
              refine q_iload_n dX5_told_82 rfl ?_
              refine t_iald dX5_told_83 hok (mG_a4 (ml := ml) (th := 0) (s := s) hB) (by exact vp_in_nI (by omega) (by omega)) (fun x1399 => ?_)
              exact q_iret dX5_told_84 rfl (rfl) ⟨0, s, ⟨⟨_, rfl⟩, by omega⟩, hok, rfl⟩
          ·
            refine q_aload_n dX5_told_66 rfl ?_
            refine t_getr 5 kX5 (by decide) wPX5_19 dX5_told_67 hok mG_o rfl ?_
            refine q_iload_n dX5_told_70 rfl ?_
            refine t_iald dX5_told_71 hok (mG_a3 (ml := ml) (th := 0) (s := s) hB) (by exact vp_in_nI (by omega) (by omega)) (fun x1400 => ?_)
            exact q_iret dX5_told_72 rfl (rfl) ⟨0, s, ⟨⟨_, rfl⟩, by omega⟩, hok, rfl⟩
        ·
          refine q_aload_n dX5_told_54 rfl ?_
          refine t_getr 2 kX5 (by decide) wPX5_7 dX5_told_55 hok mG_o rfl ?_
          refine q_iload_n dX5_told_58 rfl ?_
          refine t_iald dX5_told_59 hok (mG_a0 (ml := ml) (th := 0) (s := s) hB) (by exact vp_in_nI (by omega) (by omega)) (fun x1401 => ?_)
          exact q_iret dX5_told_60 rfl (rfl) ⟨0, s, ⟨⟨_, rfl⟩, by omega⟩, hok, rfl⟩
      ·
        refine q_aload_n dX5_told_43 rfl ?_
        refine q_iload_n dX5_told_44 rfl ?_
        refine t_callM (M' := mX5_grace) [.int (nI j1375)] [] dX5_told_45 wPX5_98v wIX5_grace wSX5_grace iX5_grace oX5_grace rfl hok (sX5_grace Sc Γ n o ml (0) (s) hB hml (j1375) (by omega)) (Nat.le_of_ble_eq_true rfl) (Nat.le_of_ble_eq_true rfl) (Nat.le_of_ble_eq_true rfl) rfl (fun _ _ _ q => by obtain ⟨q, _⟩ := q; obtain ⟨_, q⟩ := q; cases q) (fun v1402 h thv1402 sv1402 qv1402 hok => ?_)
        obtain ⟨qv1402, etv1402, esv1402⟩ := qv1402
        rw [etv1402, esv1402] at hok
        obtain ⟨x1403, qx1403⟩ := qv1402
        obtain rfl := Sum.inl.inj qx1403
        exact q_iret dX5_told_48 rfl (rfl) ⟨0, s, ⟨⟨_, rfl⟩, by omega⟩, hok, rfl⟩
    ·
      refine q_if_eq (tgt := 26) dX5_told_19 (by decide) (fun _ => ?_) (fun q => absurd q (by decide))
      refine q_iconst (v := nI 2) dX5_told_26 rfl ?_
      refine t_putc 0 (z' := 2) kX5 (by decide) wPX5_66 rfl dX5_told_27 hok mG_o rfl ⟨rfl, rfl⟩ (fun h hok => ?_)
      replace hok := mG_setT hok
      refine q_aload_n dX5_told_30 rfl ?_
      refine t_getc 0 kX5 (by decide) wPX5_66 dX5_told_31 hok mG_o rfl ?_
      refine q_if_le (tgt := 39) dX5_told_34 (by decide) (fun q => absurd q (by decide)) (fun _ => ?_)
      refine q_iconst (v := nI 0) dX5_told_37 rfl ?_
      exact q_iret dX5_told_38 rfl (rfl) ⟨2, s, ⟨⟨_, rfl⟩, by omega⟩, hok, rfl⟩
  ·
    refine q_if_ne (tgt := 13) dX5_told_6 (by decide) (fun q => absurd q (by decide)) (fun _ => ?_)
    refine q_iconst (v := nI 1) dX5_told_9 rfl ?_
    refine q_goto (tgt := 27) dX5_told_10 (by decide) ?_
    refine t_putc 0 (z' := 1) kX5 (by decide) wPX5_66 rfl dX5_told_27 hok mG_o rfl ⟨rfl, rfl⟩ (fun h hok => ?_)
    replace hok := mG_setT hok
    refine q_aload_n dX5_told_30 rfl ?_
    refine t_getc 0 kX5 (by decide) wPX5_66 dX5_told_31 hok mG_o rfl ?_
    refine q_if_le (tgt := 39) dX5_told_34 (by decide) (fun q => absurd q (by decide)) (fun _ => ?_)
    refine q_iconst (v := nI 0) dX5_told_37 rfl ?_
    exact q_iret dX5_told_38 rfl (rfl) ⟨1, s, ⟨⟨_, rfl⟩, by omega⟩, hok, rfl⟩
theorem q_ltle {a b : Int32} (h : a < b) : ¬ b ≤ a := fun q => by
  rw [Int32.lt_iff_toInt_lt] at h
  rw [Int32.le_iff_toInt_le] at q
  omega

set_option maxRecDepth 20000 in
set_option maxHeartbeats 4000000 in
theorem sX5_asked (Sc : q_S) (Γ : Nat → q_K) (n o ml th s : Nat) (hB : mB Γ o) (hml : ml ≤ 4) (hs : s ≤ 1600000000) (a1 : Int32) (a2 : Int32) : q_mod Sc Γ o ml mX5_asked [.ref o, .int (a1), .int (a2)] n th s (fun O th' s' => q_RI O ∧ s' ≤ s + 0) := by
  intro h hok
  show q_A Sc mX5_asked 0 [.ref o, .int (a1), .int (a2), .retAddr 0] [] h n 0 0 (fun O h' n' => ∃ th' s', (fun O th' s' => q_RI O ∧ s' ≤ s + 0) O th' s' ∧ q_ok (mG Γ o ml th' s') h' ∧ n' = n)
  refine q_aload_n dX5_asked_0 rfl ?_
  refine q_iload_n dX5_asked_1 rfl ?_
  refine q_if_lt (tgt := 19) dX5_asked_2 (by decide) (fun c1404 => ?_) (fun c1404 => ?_)
  ·
    refine q_iconst (v := nI 1) dX5_asked_19 rfl ?_
    refine q_goto (tgt := 37) dX5_asked_20 (by decide) ?_
    refine t_putc 0 (z' := 1) kX5 (by decide) wPX5_66 rfl dX5_asked_37 hok mG_o rfl ⟨rfl, rfl⟩ (fun h hok => ?_)
    replace hok := mG_setT hok
    refine q_aload_n dX5_asked_40 rfl ?_
    refine t_getc 0 kX5 (by decide) wPX5_66 dX5_asked_41 hok mG_o rfl ?_
    refine q_if_le (tgt := 49) dX5_asked_44 (by decide) (fun q => absurd q (by decide)) (fun _ => ?_)
    refine q_iconst (v := nI 0) dX5_asked_47 rfl ?_
    exact q_iret dX5_asked_48 rfl (rfl) ⟨1, s, ⟨⟨_, rfl⟩, by omega⟩, hok, rfl⟩
  ·
    refine q_iload_n dX5_asked_5 rfl ?_
    refine q_bipush (v := nI 39) dX5_asked_6 rfl ?_
    refine q_icmp_gt (tgt := 19) dX5_asked_8 (by decide) (fun c1406 => ?_) (fun c1406 => ?_)
    ·
      refine q_iconst (v := nI 1) dX5_asked_19 rfl ?_
      refine q_goto (tgt := 37) dX5_asked_20 (by decide) ?_
      refine t_putc 0 (z' := 1) kX5 (by decide) wPX5_66 rfl dX5_asked_37 hok mG_o rfl ⟨rfl, rfl⟩ (fun h hok => ?_)
      replace hok := mG_setT hok
      refine q_aload_n dX5_asked_40 rfl ?_
      refine t_getc 0 kX5 (by decide) wPX5_66 dX5_asked_41 hok mG_o rfl ?_
      refine q_if_le (tgt := 49) dX5_asked_44 (by decide) (fun q => absurd q (by decide)) (fun _ => ?_)
      refine q_iconst (v := nI 0) dX5_asked_47 rfl ?_
      exact q_iret dX5_asked_48 rfl (rfl) ⟨1, s, ⟨⟨_, rfl⟩, by omega⟩, hok, rfl⟩
    ·
      refine q_iload_n dX5_asked_11 rfl ?_
      refine q_aload_n dX5_asked_12 rfl ?_
      refine t_getc 15 kX5 (by decide) wPX5_72 dX5_asked_13 hok mG_o rfl ?_
      refine q_icmp_lt (tgt := 23) dX5_asked_16 (by decide) (fun c1409 => ?_) (fun c1409 => ?_)
      ·
        refine q_iload_n dX5_asked_23 rfl ?_
        refine q_iconst (v := nI 0) dX5_asked_24 rfl ?_
        refine q_iconst (v := nI 3) dX5_asked_25 rfl ?_
        refine t_callS (M' := mX5_in) [.int (a2), .int (nI 0), .int (nI 3)] [.ref o] dX5_asked_26 wPX5_120 wTX5_in wNX5 iX5_in oX5_in rfl hok (sX5_in Sc (mG Γ o ml (th) (s)) n (a2) (nI 0) (nI 3)) (Nat.le_of_ble_eq_true rfl) (Nat.le_of_ble_eq_true rfl) (Nat.le_of_ble_eq_true rfl) (Nat.le_of_ble_eq_true rfl) (Nat.le_of_ble_eq_true rfl) rfl (fun v1410 h qv1410 hok => ?_) (fun e1411 h qe1411 hok => absurd qe1411 (by intro q; obtain ⟨_, q, _⟩ := q; cases q))
        obtain ⟨x1412, qx1412, hx1412⟩ := qv1410
        obtain rfl := Sum.inl.inj qx1412
        rcases hx1412 with ⟨rfl, c1413a, c1413b⟩ | rfl
        ·
          obtain ⟨g1414, hg1414, rfl⟩ := q_chk2 (by omega) c1413a c1413b
          refine q_if_eq (tgt := 36) dX5_asked_29 (by decide) (fun q => absurd q (by decide)) (fun _ => ?_)
          refine q_iconst (v := nI 0) dX5_asked_32 rfl ?_
          refine q_goto (tgt := 37) dX5_asked_33 (by decide) ?_
          refine t_putc 0 (z' := 0) kX5 (by decide) wPX5_66 rfl dX5_asked_37 hok mG_o rfl ⟨rfl, rfl⟩ (fun h hok => ?_)
          replace hok := mG_setT hok
          refine q_aload_n dX5_asked_40 rfl ?_
          refine t_getc 0 kX5 (by decide) wPX5_66 dX5_asked_41 hok mG_o rfl ?_
          refine q_if_le (tgt := 49) dX5_asked_44 (by decide) (fun _ => ?_) (fun q => absurd q (by decide))
          obtain ⟨g1415, hg1415, rfl⟩ := q_chk (a := a1) (B := s) (by omega) (by assumption) (q_ltle (by assumption))
          refine q_aload_n dX5_asked_49 rfl ?_
          refine t_getc 15 kX5 (by decide) wPX5_72 dX5_asked_50 hok mG_o rfl ?_
          refine q_iconst (v := nI 1) dX5_asked_53 rfl ?_
          refine t_isub_n (by omega) dX5_asked_54 ?_
          refine q_iload_n dX5_asked_55 rfl ?_
          refine t_isub_n (by omega) dX5_asked_56 ?_
          refine q_bipush (v := nI 40) dX5_asked_57 rfl ?_
          refine q_irem dX5_asked_59 (by decide) ?_
          rw [pk_rem (by omega) (by omega) (by omega)]
          refine t_istore [.ref o, .int (nI g1415), .int (nI g1414), .int (nI ((((s) - (1)) - (g1415)) % (40)))] (Or.inl ⟨3, rfl, rfl, dX5_asked_60⟩) (by decide) rfl ?_
          refine q_iload_n dX5_asked_61 rfl ?_
          refine q_if_ne (tgt := 74) dX5_asked_62 (by decide) (fun c1416 => ?_) (fun c1416 => ?_)
          ·
            refine q_iload_n dX5_asked_74 rfl ?_
            refine q_iconst (v := nI 1) dX5_asked_75 rfl ?_
            refine q_icmp_ne (tgt := 88) dX5_asked_76 (by decide) (fun c1417 => ?_) (fun c1417 => ?_)
            ·
              refine q_iload_n dX5_asked_88 rfl ?_
              refine q_iconst (v := nI 2) dX5_asked_89 rfl ?_
              refine q_icmp_ne (tgt := 102) dX5_asked_90 (by decide) (fun c1418 => ?_) (fun c1418 => ?_)
              ·
                refine q_aload_n dX5_asked_102 rfl ?_
                refine t_getr 19 kX5 (by decide) wPX5_56 dX5_asked_103 hok mG_o rfl ?_
                refine q_iload_n dX5_asked_106 rfl ?_
                refine t_iald dX5_asked_107 hok (mG_a15 (ml := ml) (th := 0) (s := s) hB) (by exact vp_in_nI (by omega) (by omega)) (fun x1419 => ?_)
                exact q_iret dX5_asked_108 rfl (rfl) ⟨0, s, ⟨⟨_, rfl⟩, by omega⟩, hok, rfl⟩
              ·
                refine q_aload_n dX5_asked_93 rfl ?_
                refine t_getr 18 kX5 (by decide) wPX5_53 dX5_asked_94 hok mG_o rfl ?_
                refine q_iload_n dX5_asked_97 rfl ?_
                refine t_iald dX5_asked_98 hok (mG_a14 (ml := ml) (th := 0) (s := s) hB) (by exact vp_in_nI (by omega) (by omega)) (fun x1420 => ?_)
                refine q_goto (tgt := 108) dX5_asked_99 (by decide) ?_
                exact q_iret dX5_asked_108 rfl (rfl) ⟨0, s, ⟨⟨_, rfl⟩, by omega⟩, hok, rfl⟩
            ·
              refine q_aload_n dX5_asked_79 rfl ?_
              refine t_getr 17 kX5 (by decide) wPX5_50 dX5_asked_80 hok mG_o rfl ?_
              refine q_iload_n dX5_asked_83 rfl ?_
              refine t_iald dX5_asked_84 hok (mG_a13 (ml := ml) (th := 0) (s := s) hB) (by exact vp_in_nI (by omega) (by omega)) (fun x1421 => ?_)
              refine q_goto (tgt := 108) dX5_asked_85 (by decide) ?_
              exact q_iret dX5_asked_108 rfl (rfl) ⟨0, s, ⟨⟨_, rfl⟩, by omega⟩, hok, rfl⟩
          ·
            refine q_aload_n dX5_asked_65 rfl ?_
            refine t_getr 16 kX5 (by decide) wPX5_47 dX5_asked_66 hok mG_o rfl ?_
            refine q_iload_n dX5_asked_69 rfl ?_
            refine t_iald dX5_asked_70 hok (mG_a12 (ml := ml) (th := 0) (s := s) hB) (by exact vp_in_nI (by omega) (by omega)) (fun x1422 => ?_)
            refine q_goto (tgt := 108) dX5_asked_71 (by decide) ?_
            exact q_iret dX5_asked_108 rfl (rfl) ⟨0, s, ⟨⟨_, rfl⟩, by omega⟩, hok, rfl⟩
        ·
          refine q_if_eq (tgt := 36) dX5_asked_29 (by decide) (fun _ => ?_) (fun q => absurd q (by decide))
          refine q_iconst (v := nI 2) dX5_asked_36 rfl ?_
          refine t_putc 0 (z' := 2) kX5 (by decide) wPX5_66 rfl dX5_asked_37 hok mG_o rfl ⟨rfl, rfl⟩ (fun h hok => ?_)
          replace hok := mG_setT hok
          refine q_aload_n dX5_asked_40 rfl ?_
          refine t_getc 0 kX5 (by decide) wPX5_66 dX5_asked_41 hok mG_o rfl ?_
          refine q_if_le (tgt := 49) dX5_asked_44 (by decide) (fun q => absurd q (by decide)) (fun _ => ?_)
          refine q_iconst (v := nI 0) dX5_asked_47 rfl ?_
          exact q_iret dX5_asked_48 rfl (rfl) ⟨2, s, ⟨⟨_, rfl⟩, by omega⟩, hok, rfl⟩
      ·
        refine q_iconst (v := nI 1) dX5_asked_19 rfl ?_
        refine q_goto (tgt := 37) dX5_asked_20 (by decide) ?_
        refine t_putc 0 (z' := 1) kX5 (by decide) wPX5_66 rfl dX5_asked_37 hok mG_o rfl ⟨rfl, rfl⟩ (fun h hok => ?_)
        replace hok := mG_setT hok
        refine q_aload_n dX5_asked_40 rfl ?_
        refine t_getc 0 kX5 (by decide) wPX5_66 dX5_asked_41 hok mG_o rfl ?_
        refine q_if_le (tgt := 49) dX5_asked_44 (by decide) (fun q => absurd q (by decide)) (fun _ => ?_)
        refine q_iconst (v := nI 0) dX5_asked_47 rfl ?_
        exact q_iret dX5_asked_48 rfl (rfl) ⟨1, s, ⟨⟨_, rfl⟩, by omega⟩, hok, rfl⟩
