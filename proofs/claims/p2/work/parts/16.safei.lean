set_option maxRecDepth 20000 in
set_option maxHeartbeats 4000000 in
theorem sX5_wanted (Sc : q_S) (Γ : Nat → q_K) (n o ml th s : Nat) (hB : mB Γ o) (hml : ml ≤ 4) (a1 : Int32) (a2 : Int32) (a3 : Int32) : q_mod Sc Γ o ml mX5_wanted [.ref o, .int (a1), .int (a2), .int (a3)] n th s (fun O th' s' => q_RB O ∧ s' ≤ s + 0) := by
  intro h hok
  show q_A Sc mX5_wanted 0 [.ref o, .int (a1), .int (a2), .int (a3), .retAddr 0, .retAddr 0, .retAddr 0] [] h n 0 0 (fun O h' n' => ∃ th' s', (fun O th' s' => q_RB O ∧ s' ≤ s + 0) O th' s' ∧ q_ok (mG Γ o ml th' s') h' ∧ n' = n)
  refine q_aload_n dX5_wanted_0 rfl ?_
  refine q_aload_n dX5_wanted_1 rfl ?_
  refine q_iload_n dX5_wanted_2 rfl ?_
  refine t_callM (M' := mX5_isLink) [.int (a1)] [.ref o] dX5_wanted_3 wPX5_117v wIX5_isLink wSX5_isLink iX5_isLink oX5_isLink rfl hok (sX5_isLink Sc Γ n o ml (th) (s) hB hml (a1)) (Nat.le_of_ble_eq_true rfl) (Nat.le_of_ble_eq_true rfl) (Nat.le_of_ble_eq_true rfl) rfl (fun _ _ _ q => by obtain ⟨⟨_, q, _⟩, _⟩ := q; cases q) (fun v1548 h thv1548 sv1548 qv1548 hok => ?_)
  obtain ⟨⟨x1549, qx1549, hx1549⟩, etv1548, esv1548⟩ := qv1548
  rw [etv1548, esv1548] at hok
  obtain rfl := Sum.inl.inj qx1549
  rcases hx1549 with ⟨rfl, j1550, hj1550, rfl⟩ | rfl
  ·
    refine q_if_eq (tgt := 33) dX5_wanted_6 (by decide) (fun q => absurd q (by decide)) (fun _ => ?_)
    refine q_iload_n dX5_wanted_9 rfl ?_
    refine q_iconst (v := nI 0) dX5_wanted_10 rfl ?_
    refine q_bipush (v := nI 7) dX5_wanted_11 rfl ?_
    refine t_callS (M' := mX5_in) [.int (a2), .int (nI 0), .int (nI 7)] [.ref o] dX5_wanted_13 wPX5_120 wTX5_in wNX5 iX5_in oX5_in rfl hok (sX5_in Sc (mG Γ o ml (th) (s)) n (a2) (nI 0) (nI 7)) (Nat.le_of_ble_eq_true rfl) (Nat.le_of_ble_eq_true rfl) (Nat.le_of_ble_eq_true rfl) (Nat.le_of_ble_eq_true rfl) (Nat.le_of_ble_eq_true rfl) rfl (fun v1551 h qv1551 hok => ?_) (fun e1552 h qe1552 hok => absurd qe1552 (by intro q; obtain ⟨_, q, _⟩ := q; cases q))
    obtain ⟨x1553, qx1553, hx1553⟩ := qv1551
    obtain rfl := Sum.inl.inj qx1553
    rcases hx1553 with ⟨rfl, c1554a, c1554b⟩ | rfl
    ·
      obtain ⟨g1555, hg1555, rfl⟩ := q_chk2 (by omega) c1554a c1554b
      refine q_if_eq (tgt := 33) dX5_wanted_16 (by decide) (fun q => absurd q (by decide)) (fun _ => ?_)
      refine q_iload_n dX5_wanted_19 rfl ?_
      refine q_iconst (v := nI 0) dX5_wanted_20 rfl ?_
      refine q_bipush (v := nI 15) dX5_wanted_21 rfl ?_
      refine t_callS (M' := mX5_in) [.int (a3), .int (nI 0), .int (nI 15)] [.ref o] dX5_wanted_23 wPX5_120 wTX5_in wNX5 iX5_in oX5_in rfl hok (sX5_in Sc (mG Γ o ml (th) (s)) n (a3) (nI 0) (nI 15)) (Nat.le_of_ble_eq_true rfl) (Nat.le_of_ble_eq_true rfl) (Nat.le_of_ble_eq_true rfl) (Nat.le_of_ble_eq_true rfl) (Nat.le_of_ble_eq_true rfl) rfl (fun v1556 h qv1556 hok => ?_) (fun e1557 h qe1557 hok => absurd qe1557 (by intro q; obtain ⟨_, q, _⟩ := q; cases q))
      obtain ⟨x1558, qx1558, hx1558⟩ := qv1556
      obtain rfl := Sum.inl.inj qx1558
      rcases hx1558 with ⟨rfl, c1559a, c1559b⟩ | rfl
      ·
        obtain ⟨g1560, hg1560, rfl⟩ := q_chk2 (by omega) c1559a c1559b
        refine q_if_eq (tgt := 33) dX5_wanted_26 (by decide) (fun q => absurd q (by decide)) (fun _ => ?_)
        refine q_iconst (v := nI 0) dX5_wanted_29 rfl ?_
        refine q_goto (tgt := 34) dX5_wanted_30 (by decide) ?_
        refine t_putc 0 (z' := 0) kX5 (by decide) wPX5_66 rfl dX5_wanted_34 hok mG_o rfl ⟨rfl, rfl⟩ (fun h hok => ?_)
        replace hok := mG_setT hok
        refine q_iconst (v := nI 0) dX5_wanted_37 rfl ?_
        refine t_istore [.ref o, .int (nI j1550), .int (nI g1555), .int (nI g1560), .int (nI 0), .retAddr 0, .retAddr 0] (Or.inr ⟨rfl, dX5_wanted_38⟩) (by decide) rfl ?_
        refine q_iconst (v := nI 0) dX5_wanted_40 rfl ?_
        refine t_istore [.ref o, .int (nI j1550), .int (nI g1555), .int (nI g1560), .int (nI 0), .int (nI 0), .retAddr 0] (Or.inr ⟨rfl, dX5_wanted_41⟩) (by decide) rfl ?_
        have hl1561 : ∀ (d1563 k1562 : Nat) (x1564 : Int32) (h : q_H), k1562 + d1563 = 6 → q_bl x1564 → q_ok (mG Γ o ml (0) (s)) h → q_A Sc mX5_wanted 43 [.ref o, .int (nI j1550), .int (nI g1555), .int (nI g1560), .int (x1564), .int (nI k1562), .retAddr 0] [] h n 0 0 (fun O h' n' => ∃ th' s', (fun O th' s' => q_RB O ∧ s' ≤ s + 0) O th' s' ∧ q_ok (mG Γ o ml th' s') h' ∧ n' = n) := by
          intro d1563
          induction d1563 with
          | zero =>
            intro k1562 x1564 h el1561 bx1564 hok
            refine q_iload dX5_wanted_43 rfl ?_
            refine q_bipush (v := nI 6) dX5_wanted_45 rfl ?_
            refine t_icmp_ge_n (tgt := 119) (by omega) (by omega) dX5_wanted_47 (by decide) (fun c1565 => ?_) (fun c1565 => ?_)
            rotate_left
            · exact absurd c1565 (by omega)
            refine q_iload dX5_wanted_119 rfl ?_
            exact q_iret dX5_wanted_121 rfl (q_bl.nar bx1564) ⟨0, s, ⟨⟨_, rfl, bx1564⟩, by omega⟩, hok, rfl⟩
          | succ d1563 ihl1561 =>
            intro k1562 x1564 h el1561 bx1564 hok
            refine q_iload dX5_wanted_43 rfl ?_
            refine q_bipush (v := nI 6) dX5_wanted_45 rfl ?_
            refine t_icmp_ge_n (tgt := 119) (by omega) (by omega) dX5_wanted_47 (by decide) (fun c1566 => ?_) (fun c1566 => ?_)
            · exact absurd c1566 (by omega)
            refine q_aload_n dX5_wanted_50 rfl ?_
            refine t_getc 0 kX5 (by decide) wPX5_66 dX5_wanted_51 hok mG_o rfl ?_
            refine q_if_ne (tgt := 119) dX5_wanted_54 (by decide) (fun q => absurd q (by decide)) (fun _ => ?_)
            refine q_bipush (v := nI 48) dX5_wanted_57 rfl ?_
            refine q_iload_n dX5_wanted_59 rfl ?_
            refine t_imul_n dX5_wanted_60 ?_
            refine q_bipush (v := nI 8) dX5_wanted_61 rfl ?_
            refine q_iload dX5_wanted_63 rfl ?_
            refine t_imul_n dX5_wanted_65 ?_
            refine t_iadd_n dX5_wanted_66 ?_
            refine q_iload_n dX5_wanted_67 rfl ?_
            refine t_iadd_n dX5_wanted_68 ?_
            refine t_istore [.ref o, .int (nI j1550), .int (nI g1555), .int (nI g1560), .int (x1564), .int (nI k1562), .int (nI (((48 * j1550) + (8 * k1562)) + (g1555)))] (Or.inr ⟨rfl, dX5_wanted_69⟩) (by decide) rfl ?_
            refine q_iload dX5_wanted_71 rfl ?_
            refine q_if_ne (tgt := 106) dX5_wanted_73 (by decide) (fun c1567 => ?_) (fun c1567 => ?_)
            ·
              refine q_iconst (v := nI 1) dX5_wanted_106 rfl ?_
              refine q_goto (tgt := 111) dX5_wanted_107 (by decide) ?_
              refine t_istore [.ref o, .int (nI j1550), .int (nI g1555), .int (nI g1560), .int (nI 1), .int (nI k1562), .int (nI (((48 * j1550) + (8 * k1562)) + (g1555)))] (Or.inr ⟨rfl, dX5_wanted_111⟩) (by decide) rfl ?_
              refine t_iinc_n [.ref o, .int (nI j1550), .int (nI g1555), .int (nI g1560), .int (nI 1), .int (nI (k1562 + 1)), .int (nI (((48 * j1550) + (8 * k1562)) + (g1555)))] dX5_wanted_113 rfl (by decide) rfl ?_
              refine q_goto (tgt := 43) dX5_wanted_116 (by decide) ?_
              refine q_weak [.ref o, .int (nI j1550), .int (nI g1555), .int (nI g1560), .int (nI 1), .int (nI (k1562 + 1)), .retAddr 0] ⟨Or.inl rfl, Or.inl rfl, Or.inl rfl, Or.inl rfl, Or.inl rfl, Or.inl rfl, Or.inr ⟨0, rfl⟩, trivial⟩ ?_
              exact ihl1561 (k1562 + 1) (nI 1) h (by omega) (Or.inr rfl) hok
            ·
              refine q_aload_n dX5_wanted_76 rfl ?_
              refine t_getr 13 kX5 (by decide) wPX5_44 dX5_wanted_77 hok mG_o rfl ?_
              refine q_iload dX5_wanted_80 rfl ?_
              refine t_iald dX5_wanted_82 hok (mG_a11 (ml := ml) (th := 0) (s := s) hB) (by exact vp_in_nI (by omega) (by omega)) (fun x1568 => ?_)
              refine q_iload_n dX5_wanted_83 rfl ?_
              refine q_ishr dX5_wanted_84 ?_
              generalize (x1568) >>> ((nI g1560) &&& 31) = z1569
              refine q_iconst (v := nI 1) dX5_wanted_85 rfl ?_
              refine q_iand dX5_wanted_86 ?_
              generalize (z1569) &&& (nI 1) = z1570
              refine q_iconst (v := nI 1) dX5_wanted_87 rfl ?_
              refine q_icmp_ne (tgt := 95) dX5_wanted_88 (by decide) (fun c1571 => ?_) (fun c1571 => ?_)
              ·
                refine q_iconst (v := nI 0) dX5_wanted_95 rfl ?_
                refine q_aload_n dX5_wanted_96 rfl ?_
                refine t_getr 12 kX5 (by decide) wPX5_40 dX5_wanted_97 hok mG_o rfl ?_
                refine q_iload dX5_wanted_100 rfl ?_
                refine t_zald dX5_wanted_102 hok (mG_a10 (ml := ml) (th := 0) (s := s) hB) (by exact vp_in_nI (by omega) (by omega)) (fun x1572 => ?_)
                refine q_icmp_eq (tgt := 110) dX5_wanted_103 (by decide) (fun c1573 => ?_) (fun c1573 => ?_)
                ·
                  refine q_iconst (v := nI 0) dX5_wanted_110 rfl ?_
                  refine t_istore [.ref o, .int (nI j1550), .int (nI g1555), .int (nI g1560), .int (nI 0), .int (nI k1562), .int (nI (((48 * j1550) + (8 * k1562)) + (g1555)))] (Or.inr ⟨rfl, dX5_wanted_111⟩) (by decide) rfl ?_
                  refine t_iinc_n [.ref o, .int (nI j1550), .int (nI g1555), .int (nI g1560), .int (nI 0), .int (nI (k1562 + 1)), .int (nI (((48 * j1550) + (8 * k1562)) + (g1555)))] dX5_wanted_113 rfl (by decide) rfl ?_
                  refine q_goto (tgt := 43) dX5_wanted_116 (by decide) ?_
                  refine q_weak [.ref o, .int (nI j1550), .int (nI g1555), .int (nI g1560), .int (nI 0), .int (nI (k1562 + 1)), .retAddr 0] ⟨Or.inl rfl, Or.inl rfl, Or.inl rfl, Or.inl rfl, Or.inl rfl, Or.inl rfl, Or.inr ⟨0, rfl⟩, trivial⟩ ?_
                  exact ihl1561 (k1562 + 1) (nI 0) h (by omega) (Or.inl rfl) hok
                ·
                  refine q_iconst (v := nI 1) dX5_wanted_106 rfl ?_
                  refine q_goto (tgt := 111) dX5_wanted_107 (by decide) ?_
                  refine t_istore [.ref o, .int (nI j1550), .int (nI g1555), .int (nI g1560), .int (nI 1), .int (nI k1562), .int (nI (((48 * j1550) + (8 * k1562)) + (g1555)))] (Or.inr ⟨rfl, dX5_wanted_111⟩) (by decide) rfl ?_
                  refine t_iinc_n [.ref o, .int (nI j1550), .int (nI g1555), .int (nI g1560), .int (nI 1), .int (nI (k1562 + 1)), .int (nI (((48 * j1550) + (8 * k1562)) + (g1555)))] dX5_wanted_113 rfl (by decide) rfl ?_
                  refine q_goto (tgt := 43) dX5_wanted_116 (by decide) ?_
                  refine q_weak [.ref o, .int (nI j1550), .int (nI g1555), .int (nI g1560), .int (nI 1), .int (nI (k1562 + 1)), .retAddr 0] ⟨Or.inl rfl, Or.inl rfl, Or.inl rfl, Or.inl rfl, Or.inl rfl, Or.inl rfl, Or.inr ⟨0, rfl⟩, trivial⟩ ?_
                  exact ihl1561 (k1562 + 1) (nI 1) h (by omega) (Or.inr rfl) hok
              ·
                refine q_iconst (v := nI 1) dX5_wanted_91 rfl ?_
                refine q_goto (tgt := 96) dX5_wanted_92 (by decide) ?_
                refine q_aload_n dX5_wanted_96 rfl ?_
                refine t_getr 12 kX5 (by decide) wPX5_40 dX5_wanted_97 hok mG_o rfl ?_
                refine q_iload dX5_wanted_100 rfl ?_
                refine t_zald dX5_wanted_102 hok (mG_a10 (ml := ml) (th := 0) (s := s) hB) (by exact vp_in_nI (by omega) (by omega)) (fun x1574 => ?_)
                refine q_icmp_eq (tgt := 110) dX5_wanted_103 (by decide) (fun c1575 => ?_) (fun c1575 => ?_)
                ·
                  refine q_iconst (v := nI 0) dX5_wanted_110 rfl ?_
                  refine t_istore [.ref o, .int (nI j1550), .int (nI g1555), .int (nI g1560), .int (nI 0), .int (nI k1562), .int (nI (((48 * j1550) + (8 * k1562)) + (g1555)))] (Or.inr ⟨rfl, dX5_wanted_111⟩) (by decide) rfl ?_
                  refine t_iinc_n [.ref o, .int (nI j1550), .int (nI g1555), .int (nI g1560), .int (nI 0), .int (nI (k1562 + 1)), .int (nI (((48 * j1550) + (8 * k1562)) + (g1555)))] dX5_wanted_113 rfl (by decide) rfl ?_
                  refine q_goto (tgt := 43) dX5_wanted_116 (by decide) ?_
                  refine q_weak [.ref o, .int (nI j1550), .int (nI g1555), .int (nI g1560), .int (nI 0), .int (nI (k1562 + 1)), .retAddr 0] ⟨Or.inl rfl, Or.inl rfl, Or.inl rfl, Or.inl rfl, Or.inl rfl, Or.inl rfl, Or.inr ⟨0, rfl⟩, trivial⟩ ?_
                  exact ihl1561 (k1562 + 1) (nI 0) h (by omega) (Or.inl rfl) hok
                ·
                  refine q_iconst (v := nI 1) dX5_wanted_106 rfl ?_
                  refine q_goto (tgt := 111) dX5_wanted_107 (by decide) ?_
                  refine t_istore [.ref o, .int (nI j1550), .int (nI g1555), .int (nI g1560), .int (nI 1), .int (nI k1562), .int (nI (((48 * j1550) + (8 * k1562)) + (g1555)))] (Or.inr ⟨rfl, dX5_wanted_111⟩) (by decide) rfl ?_
                  refine t_iinc_n [.ref o, .int (nI j1550), .int (nI g1555), .int (nI g1560), .int (nI 1), .int (nI (k1562 + 1)), .int (nI (((48 * j1550) + (8 * k1562)) + (g1555)))] dX5_wanted_113 rfl (by decide) rfl ?_
                  refine q_goto (tgt := 43) dX5_wanted_116 (by decide) ?_
                  refine q_weak [.ref o, .int (nI j1550), .int (nI g1555), .int (nI g1560), .int (nI 1), .int (nI (k1562 + 1)), .retAddr 0] ⟨Or.inl rfl, Or.inl rfl, Or.inl rfl, Or.inl rfl, Or.inl rfl, Or.inl rfl, Or.inr ⟨0, rfl⟩, trivial⟩ ?_
                  exact ihl1561 (k1562 + 1) (nI 1) h (by omega) (Or.inr rfl) hok
        exact hl1561 (6) 0 (nI 0) h (by omega) (Or.inl rfl) hok
      ·
        refine q_if_eq (tgt := 33) dX5_wanted_26 (by decide) (fun _ => ?_) (fun q => absurd q (by decide))
        refine q_iconst (v := nI 1) dX5_wanted_33 rfl ?_
        refine t_putc 0 (z' := 1) kX5 (by decide) wPX5_66 rfl dX5_wanted_34 hok mG_o rfl ⟨rfl, rfl⟩ (fun h hok => ?_)
        replace hok := mG_setT hok
        refine q_iconst (v := nI 0) dX5_wanted_37 rfl ?_
        refine t_istore [.ref o, .int (nI j1550), .int (nI g1555), .int (a3), .int (nI 0), .retAddr 0, .retAddr 0] (Or.inr ⟨rfl, dX5_wanted_38⟩) (by decide) rfl ?_
        refine q_iconst (v := nI 0) dX5_wanted_40 rfl ?_
        refine t_istore [.ref o, .int (nI j1550), .int (nI g1555), .int (a3), .int (nI 0), .int (nI 0), .retAddr 0] (Or.inr ⟨rfl, dX5_wanted_41⟩) (by decide) rfl ?_
        have hl1576 : ∀ (d1578 k1577 : Nat) (x1579 : Int32) (h : q_H), k1577 + d1578 = 6 → q_bl x1579 → q_ok (mG Γ o ml (1) (s)) h → q_A Sc mX5_wanted 43 [.ref o, .int (nI j1550), .int (nI g1555), .int (a3), .int (x1579), .int (nI k1577), .retAddr 0] [] h n 0 0 (fun O h' n' => ∃ th' s', (fun O th' s' => q_RB O ∧ s' ≤ s + 0) O th' s' ∧ q_ok (mG Γ o ml th' s') h' ∧ n' = n) := by
          intro d1578
          induction d1578 with
          | zero =>
            intro k1577 x1579 h el1576 bx1579 hok
            refine q_iload dX5_wanted_43 rfl ?_
            refine q_bipush (v := nI 6) dX5_wanted_45 rfl ?_
            refine t_icmp_ge_n (tgt := 119) (by omega) (by omega) dX5_wanted_47 (by decide) (fun c1580 => ?_) (fun c1580 => ?_)
            rotate_left
            · exact absurd c1580 (by omega)
            refine q_iload dX5_wanted_119 rfl ?_
            exact q_iret dX5_wanted_121 rfl (q_bl.nar bx1579) ⟨1, s, ⟨⟨_, rfl, bx1579⟩, by omega⟩, hok, rfl⟩
          | succ d1578 ihl1576 =>
            intro k1577 x1579 h el1576 bx1579 hok
            refine q_iload dX5_wanted_43 rfl ?_
            refine q_bipush (v := nI 6) dX5_wanted_45 rfl ?_
            refine t_icmp_ge_n (tgt := 119) (by omega) (by omega) dX5_wanted_47 (by decide) (fun c1581 => ?_) (fun c1581 => ?_)
            · exact absurd c1581 (by omega)
            refine q_aload_n dX5_wanted_50 rfl ?_
            refine t_getc 0 kX5 (by decide) wPX5_66 dX5_wanted_51 hok mG_o rfl ?_
            refine q_if_ne (tgt := 119) dX5_wanted_54 (by decide) (fun _ => ?_) (fun q => absurd q (by decide))
            refine q_iload dX5_wanted_119 rfl ?_
            exact q_iret dX5_wanted_121 rfl (q_bl.nar bx1579) ⟨1, s, ⟨⟨_, rfl, bx1579⟩, by omega⟩, hok, rfl⟩
        exact hl1576 (6) 0 (nI 0) h (by omega) (Or.inl rfl) hok
    ·
      refine q_if_eq (tgt := 33) dX5_wanted_16 (by decide) (fun _ => ?_) (fun q => absurd q (by decide))
      refine q_iconst (v := nI 1) dX5_wanted_33 rfl ?_
      refine t_putc 0 (z' := 1) kX5 (by decide) wPX5_66 rfl dX5_wanted_34 hok mG_o rfl ⟨rfl, rfl⟩ (fun h hok => ?_)
      replace hok := mG_setT hok
      refine q_iconst (v := nI 0) dX5_wanted_37 rfl ?_
      refine t_istore [.ref o, .int (nI j1550), .int (a2), .int (a3), .int (nI 0), .retAddr 0, .retAddr 0] (Or.inr ⟨rfl, dX5_wanted_38⟩) (by decide) rfl ?_
      refine q_iconst (v := nI 0) dX5_wanted_40 rfl ?_
      refine t_istore [.ref o, .int (nI j1550), .int (a2), .int (a3), .int (nI 0), .int (nI 0), .retAddr 0] (Or.inr ⟨rfl, dX5_wanted_41⟩) (by decide) rfl ?_
      have hl1582 : ∀ (d1584 k1583 : Nat) (x1585 : Int32) (h : q_H), k1583 + d1584 = 6 → q_bl x1585 → q_ok (mG Γ o ml (1) (s)) h → q_A Sc mX5_wanted 43 [.ref o, .int (nI j1550), .int (a2), .int (a3), .int (x1585), .int (nI k1583), .retAddr 0] [] h n 0 0 (fun O h' n' => ∃ th' s', (fun O th' s' => q_RB O ∧ s' ≤ s + 0) O th' s' ∧ q_ok (mG Γ o ml th' s') h' ∧ n' = n) := by
        intro d1584
        induction d1584 with
        | zero =>
          intro k1583 x1585 h el1582 bx1585 hok
          refine q_iload dX5_wanted_43 rfl ?_
          refine q_bipush (v := nI 6) dX5_wanted_45 rfl ?_
          refine t_icmp_ge_n (tgt := 119) (by omega) (by omega) dX5_wanted_47 (by decide) (fun c1586 => ?_) (fun c1586 => ?_)
          rotate_left
          · exact absurd c1586 (by omega)
          refine q_iload dX5_wanted_119 rfl ?_
          exact q_iret dX5_wanted_121 rfl (q_bl.nar bx1585) ⟨1, s, ⟨⟨_, rfl, bx1585⟩, by omega⟩, hok, rfl⟩
        | succ d1584 ihl1582 =>
          intro k1583 x1585 h el1582 bx1585 hok
          refine q_iload dX5_wanted_43 rfl ?_
          refine q_bipush (v := nI 6) dX5_wanted_45 rfl ?_
          refine t_icmp_ge_n (tgt := 119) (by omega) (by omega) dX5_wanted_47 (by decide) (fun c1587 => ?_) (fun c1587 => ?_)
          · exact absurd c1587 (by omega)
          refine q_aload_n dX5_wanted_50 rfl ?_
          refine t_getc 0 kX5 (by decide) wPX5_66 dX5_wanted_51 hok mG_o rfl ?_
          refine q_if_ne (tgt := 119) dX5_wanted_54 (by decide) (fun _ => ?_) (fun q => absurd q (by decide))
          refine q_iload dX5_wanted_119 rfl ?_
          exact q_iret dX5_wanted_121 rfl (q_bl.nar bx1585) ⟨1, s, ⟨⟨_, rfl, bx1585⟩, by omega⟩, hok, rfl⟩
      exact hl1582 (6) 0 (nI 0) h (by omega) (Or.inl rfl) hok
  ·
    refine q_if_eq (tgt := 33) dX5_wanted_6 (by decide) (fun _ => ?_) (fun q => absurd q (by decide))
    refine q_iconst (v := nI 1) dX5_wanted_33 rfl ?_
    refine t_putc 0 (z' := 1) kX5 (by decide) wPX5_66 rfl dX5_wanted_34 hok mG_o rfl ⟨rfl, rfl⟩ (fun h hok => ?_)
    replace hok := mG_setT hok
    refine q_iconst (v := nI 0) dX5_wanted_37 rfl ?_
    refine t_istore [.ref o, .int (a1), .int (a2), .int (a3), .int (nI 0), .retAddr 0, .retAddr 0] (Or.inr ⟨rfl, dX5_wanted_38⟩) (by decide) rfl ?_
    refine q_iconst (v := nI 0) dX5_wanted_40 rfl ?_
    refine t_istore [.ref o, .int (a1), .int (a2), .int (a3), .int (nI 0), .int (nI 0), .retAddr 0] (Or.inr ⟨rfl, dX5_wanted_41⟩) (by decide) rfl ?_
    have hl1588 : ∀ (d1590 k1589 : Nat) (x1591 : Int32) (h : q_H), k1589 + d1590 = 6 → q_bl x1591 → q_ok (mG Γ o ml (1) (s)) h → q_A Sc mX5_wanted 43 [.ref o, .int (a1), .int (a2), .int (a3), .int (x1591), .int (nI k1589), .retAddr 0] [] h n 0 0 (fun O h' n' => ∃ th' s', (fun O th' s' => q_RB O ∧ s' ≤ s + 0) O th' s' ∧ q_ok (mG Γ o ml th' s') h' ∧ n' = n) := by
      intro d1590
      induction d1590 with
      | zero =>
        intro k1589 x1591 h el1588 bx1591 hok
        refine q_iload dX5_wanted_43 rfl ?_
        refine q_bipush (v := nI 6) dX5_wanted_45 rfl ?_
        refine t_icmp_ge_n (tgt := 119) (by omega) (by omega) dX5_wanted_47 (by decide) (fun c1592 => ?_) (fun c1592 => ?_)
        rotate_left
        · exact absurd c1592 (by omega)
        refine q_iload dX5_wanted_119 rfl ?_
        exact q_iret dX5_wanted_121 rfl (q_bl.nar bx1591) ⟨1, s, ⟨⟨_, rfl, bx1591⟩, by omega⟩, hok, rfl⟩
      | succ d1590 ihl1588 =>
        intro k1589 x1591 h el1588 bx1591 hok
        refine q_iload dX5_wanted_43 rfl ?_
        refine q_bipush (v := nI 6) dX5_wanted_45 rfl ?_
        refine t_icmp_ge_n (tgt := 119) (by omega) (by omega) dX5_wanted_47 (by decide) (fun c1593 => ?_) (fun c1593 => ?_)
        · exact absurd c1593 (by omega)
        refine q_aload_n dX5_wanted_50 rfl ?_
        refine t_getc 0 kX5 (by decide) wPX5_66 dX5_wanted_51 hok mG_o rfl ?_
        refine q_if_ne (tgt := 119) dX5_wanted_54 (by decide) (fun _ => ?_) (fun q => absurd q (by decide))
        refine q_iload dX5_wanted_119 rfl ?_
        exact q_iret dX5_wanted_121 rfl (q_bl.nar bx1591) ⟨1, s, ⟨⟨_, rfl, bx1591⟩, by omega⟩, hok, rfl⟩
    exact hl1588 (6) 0 (nI 0) h (by omega) (Or.inl rfl) hok
set_option maxRecDepth 20000 in
set_option maxHeartbeats 4000000 in
theorem sX5_passed (Sc : q_S) (Γ : Nat → q_K) (n o ml th s : Nat) (hB : mB Γ o) (hml : ml ≤ 4) (a1 : Int32) (a2 : Int32) (a3 : Int32) : q_mod Sc Γ o ml mX5_passed [.ref o, .int (a1), .int (a2), .int (a3)] n th s (fun O th' s' => q_RI O ∧ s' ≤ s + 0) := by
  intro h hok
  show q_A Sc mX5_passed 0 [.ref o, .int (a1), .int (a2), .int (a3), .retAddr 0, .retAddr 0, .retAddr 0, .retAddr 0, .retAddr 0] [] h n 0 0 (fun O h' n' => ∃ th' s', (fun O th' s' => q_RI O ∧ s' ≤ s + 0) O th' s' ∧ q_ok (mG Γ o ml th' s') h' ∧ n' = n)
  refine q_aload_n dX5_passed_0 rfl ?_
  refine q_aload_n dX5_passed_1 rfl ?_
  refine q_iload_n dX5_passed_2 rfl ?_
  refine t_callM (M' := mX5_isLink) [.int (a1)] [.ref o] dX5_passed_3 wPX5_117v wIX5_isLink wSX5_isLink iX5_isLink oX5_isLink rfl hok (sX5_isLink Sc Γ n o ml (th) (s) hB hml (a1)) (Nat.le_of_ble_eq_true rfl) (Nat.le_of_ble_eq_true rfl) (Nat.le_of_ble_eq_true rfl) rfl (fun _ _ _ q => by obtain ⟨⟨_, q, _⟩, _⟩ := q; cases q) (fun v1595 h thv1595 sv1595 qv1595 hok => ?_)
  obtain ⟨⟨x1596, qx1596, hx1596⟩, etv1595, esv1595⟩ := qv1595
  rw [etv1595, esv1595] at hok
  obtain rfl := Sum.inl.inj qx1596
  rcases hx1596 with ⟨rfl, j1597, hj1597, rfl⟩ | rfl
  ·
    refine q_if_eq (tgt := 33) dX5_passed_6 (by decide) (fun q => absurd q (by decide)) (fun _ => ?_)
    refine q_iload_n dX5_passed_9 rfl ?_
    refine q_iconst (v := nI 0) dX5_passed_10 rfl ?_
    refine q_bipush (v := nI 7) dX5_passed_11 rfl ?_
    refine t_callS (M' := mX5_in) [.int (a2), .int (nI 0), .int (nI 7)] [.ref o] dX5_passed_13 wPX5_120 wTX5_in wNX5 iX5_in oX5_in rfl hok (sX5_in Sc (mG Γ o ml (th) (s)) n (a2) (nI 0) (nI 7)) (Nat.le_of_ble_eq_true rfl) (Nat.le_of_ble_eq_true rfl) (Nat.le_of_ble_eq_true rfl) (Nat.le_of_ble_eq_true rfl) (Nat.le_of_ble_eq_true rfl) rfl (fun v1598 h qv1598 hok => ?_) (fun e1599 h qe1599 hok => absurd qe1599 (by intro q; obtain ⟨_, q, _⟩ := q; cases q))
    obtain ⟨x1600, qx1600, hx1600⟩ := qv1598
    obtain rfl := Sum.inl.inj qx1600
    rcases hx1600 with ⟨rfl, c1601a, c1601b⟩ | rfl
    ·
      obtain ⟨g1602, hg1602, rfl⟩ := q_chk2 (by omega) c1601a c1601b
      refine q_if_eq (tgt := 33) dX5_passed_16 (by decide) (fun q => absurd q (by decide)) (fun _ => ?_)
      refine q_iload_n dX5_passed_19 rfl ?_
      refine q_iconst (v := nI 0) dX5_passed_20 rfl ?_
      refine q_bipush (v := nI 15) dX5_passed_21 rfl ?_
      refine t_callS (M' := mX5_in) [.int (a3), .int (nI 0), .int (nI 15)] [.ref o] dX5_passed_23 wPX5_120 wTX5_in wNX5 iX5_in oX5_in rfl hok (sX5_in Sc (mG Γ o ml (th) (s)) n (a3) (nI 0) (nI 15)) (Nat.le_of_ble_eq_true rfl) (Nat.le_of_ble_eq_true rfl) (Nat.le_of_ble_eq_true rfl) (Nat.le_of_ble_eq_true rfl) (Nat.le_of_ble_eq_true rfl) rfl (fun v1603 h qv1603 hok => ?_) (fun e1604 h qe1604 hok => absurd qe1604 (by intro q; obtain ⟨_, q, _⟩ := q; cases q))
      obtain ⟨x1605, qx1605, hx1605⟩ := qv1603
      obtain rfl := Sum.inl.inj qx1605
      rcases hx1605 with ⟨rfl, c1606a, c1606b⟩ | rfl
      ·
        obtain ⟨g1607, hg1607, rfl⟩ := q_chk2 (by omega) c1606a c1606b
        refine q_if_eq (tgt := 33) dX5_passed_26 (by decide) (fun q => absurd q (by decide)) (fun _ => ?_)
        refine q_iconst (v := nI 0) dX5_passed_29 rfl ?_
        refine q_goto (tgt := 34) dX5_passed_30 (by decide) ?_
        refine t_putc 0 (z' := 0) kX5 (by decide) wPX5_66 rfl dX5_passed_34 hok mG_o rfl ⟨rfl, rfl⟩ (fun h hok => ?_)
        replace hok := mG_setT hok
        refine q_iconst (v := nI 0) dX5_passed_37 rfl ?_
        refine t_istore [.ref o, .int (nI j1597), .int (nI g1602), .int (nI g1607), .int (nI 0), .retAddr 0, .retAddr 0, .retAddr 0, .retAddr 0] (Or.inr ⟨rfl, dX5_passed_38⟩) (by decide) rfl ?_
        refine q_iconst (v := nI 0) dX5_passed_40 rfl ?_
        refine t_istore [.ref o, .int (nI j1597), .int (nI g1602), .int (nI g1607), .int (nI 0), .int (nI 0), .retAddr 0, .retAddr 0, .retAddr 0] (Or.inr ⟨rfl, dX5_passed_41⟩) (by decide) rfl ?_
        have hl1608 : ∀ (d1610 k1609 : Nat) (x1611 : Int32) (h : q_H), k1609 + d1610 = ml → q_ok (mG Γ o ml (0) (s)) h → q_A Sc mX5_passed 43 [.ref o, .int (nI j1597), .int (nI g1602), .int (nI g1607), .int (x1611), .int (nI k1609), .retAddr 0, .retAddr 0, .retAddr 0] [] h n 0 0 (fun O h' n' => ∃ th' s', (fun O th' s' => q_RI O ∧ s' ≤ s + 0) O th' s' ∧ q_ok (mG Γ o ml th' s') h' ∧ n' = n) := by
          intro d1610
          induction d1610 with
          | zero =>
            intro k1609 x1611 h el1608 hok
            refine q_iload dX5_passed_43 rfl ?_
            refine q_aload_n dX5_passed_45 rfl ?_
            refine t_getc 1 kX5 (by decide) wPX5_59 dX5_passed_46 hok mG_o rfl ?_
            refine t_icmp_ge_n (tgt := 153) (by omega) (by omega) dX5_passed_49 (by decide) (fun c1612 => ?_) (fun c1612 => ?_)
            rotate_left
            · exact absurd c1612 (by omega)
            refine q_iload dX5_passed_153 rfl ?_
            exact q_iret dX5_passed_155 rfl (rfl) ⟨0, s, ⟨⟨_, rfl⟩, by omega⟩, hok, rfl⟩
          | succ d1610 ihl1608 =>
            intro k1609 x1611 h el1608 hok
            refine q_iload dX5_passed_43 rfl ?_
            refine q_aload_n dX5_passed_45 rfl ?_
            refine t_getc 1 kX5 (by decide) wPX5_59 dX5_passed_46 hok mG_o rfl ?_
            refine t_icmp_ge_n (tgt := 153) (by omega) (by omega) dX5_passed_49 (by decide) (fun c1613 => ?_) (fun c1613 => ?_)
            · exact absurd c1613 (by omega)
            refine q_aload_n dX5_passed_52 rfl ?_
            refine t_getc 0 kX5 (by decide) wPX5_66 dX5_passed_53 hok mG_o rfl ?_
            refine q_if_ne (tgt := 153) dX5_passed_56 (by decide) (fun q => absurd q (by decide)) (fun _ => ?_)
            refine q_bipush (v := nI 8) dX5_passed_59 rfl ?_
            refine q_iload dX5_passed_61 rfl ?_
            refine t_imul_n dX5_passed_63 ?_
            refine q_iload_n dX5_passed_64 rfl ?_
            refine t_iadd_n dX5_passed_65 ?_
            refine t_istore [.ref o, .int (nI j1597), .int (nI g1602), .int (nI g1607), .int (x1611), .int (nI k1609), .int (nI ((8 * k1609) + (g1602))), .retAddr 0, .retAddr 0] (Or.inr ⟨rfl, dX5_passed_66⟩) (by decide) rfl ?_
            refine q_aload_n dX5_passed_68 rfl ?_
            refine t_getr 10 kX5 (by decide) wPX5_34 dX5_passed_69 hok mG_o rfl ?_
            refine q_bipush (v := nI 16) dX5_passed_72 rfl ?_
            refine q_iload dX5_passed_74 rfl ?_
            refine t_imul_n dX5_passed_76 ?_
            refine q_iload_n dX5_passed_77 rfl ?_
            refine t_iadd_n dX5_passed_78 ?_
            refine t_iald dX5_passed_79 hok (mG_a8 (ml := ml) (th := 0) (s := s) hB) (by exact vp_in_nI (by omega) (by omega)) (fun x1614 => ?_)
            refine t_istore [.ref o, .int (nI j1597), .int (nI g1602), .int (nI g1607), .int (x1611), .int (nI k1609), .int (nI ((8 * k1609) + (g1602))), .int (x1614), .retAddr 0] (Or.inr ⟨rfl, dX5_passed_80⟩) (by decide) rfl ?_
            refine q_aload_n dX5_passed_82 rfl ?_
            refine t_getr 8 kX5 (by decide) wPX5_28 dX5_passed_83 hok mG_o rfl ?_
            refine q_iload dX5_passed_86 rfl ?_
            refine t_iald dX5_passed_88 hok (mG_a6 (ml := ml) (th := 0) (s := s) hB) (by exact vp_in_nI (by omega) (by omega)) (fun x1615 => ?_)
            refine q_if_ne (tgt := 98) dX5_passed_89 (by decide) (fun c1616 => ?_) (fun c1616 => ?_)
            ·
              refine q_aload_n dX5_passed_98 rfl ?_
              refine t_getr 8 kX5 (by decide) wPX5_28 dX5_passed_99 hok mG_o rfl ?_
              refine q_iload dX5_passed_102 rfl ?_
              refine t_iald dX5_passed_104 hok (mG_a6 (ml := ml) (th := 0) (s := s) hB) (by exact vp_in_nI (by omega) (by omega)) (fun x1617 => ?_)
              refine q_iconst (v := nI 1) dX5_passed_105 rfl ?_
              refine q_icmp_ne (tgt := 119) dX5_passed_106 (by decide) (fun c1618 => ?_) (fun c1618 => ?_)
              ·
                refine q_iconst (v := nI 0) dX5_passed_119 rfl ?_
                refine t_istore [.ref o, .int (nI j1597), .int (nI g1602), .int (nI g1607), .int (x1611), .int (nI k1609), .int (nI ((8 * k1609) + (g1602))), .int (x1614), .int (nI 0)] (Or.inr ⟨rfl, dX5_passed_120⟩) (by decide) rfl ?_
                refine q_iload dX5_passed_122 rfl ?_
                refine q_iload_n dX5_passed_124 rfl ?_
                refine q_icmp_eq (tgt := 143) dX5_passed_125 (by decide) (fun c1619 => ?_) (fun c1619 => ?_)
                ·
                  refine q_iload dX5_passed_143 rfl ?_
                  refine t_istore [.ref o, .int (nI j1597), .int (nI g1602), .int (nI g1607), .int (x1611), .int (nI k1609), .int (nI ((8 * k1609) + (g1602))), .int (x1614), .int (nI 0)] (Or.inr ⟨rfl, dX5_passed_145⟩) (by decide) rfl ?_
                  refine t_iinc_n [.ref o, .int (nI j1597), .int (nI g1602), .int (nI g1607), .int (x1611), .int (nI (k1609 + 1)), .int (nI ((8 * k1609) + (g1602))), .int (x1614), .int (nI 0)] dX5_passed_147 rfl (by decide) rfl ?_
                  refine q_goto (tgt := 43) dX5_passed_150 (by decide) ?_
                  refine q_weak [.ref o, .int (nI j1597), .int (nI g1602), .int (nI g1607), .int (x1611), .int (nI (k1609 + 1)), .retAddr 0, .retAddr 0, .retAddr 0] ⟨Or.inl rfl, Or.inl rfl, Or.inl rfl, Or.inl rfl, Or.inl rfl, Or.inl rfl, Or.inr ⟨0, rfl⟩, Or.inr ⟨0, rfl⟩, Or.inr ⟨0, rfl⟩, trivial⟩ ?_
                  exact ihl1608 (k1609 + 1) (x1611) h (by omega) hok
                ·
                  refine q_iload dX5_passed_128 rfl ?_
                  refine q_if_eq (tgt := 143) dX5_passed_130 (by decide) (fun _ => ?_) (fun q => absurd q (by decide))
                  refine q_iload dX5_passed_143 rfl ?_
                  refine t_istore [.ref o, .int (nI j1597), .int (nI g1602), .int (nI g1607), .int (x1611), .int (nI k1609), .int (nI ((8 * k1609) + (g1602))), .int (x1614), .int (nI 0)] (Or.inr ⟨rfl, dX5_passed_145⟩) (by decide) rfl ?_
                  refine t_iinc_n [.ref o, .int (nI j1597), .int (nI g1602), .int (nI g1607), .int (x1611), .int (nI (k1609 + 1)), .int (nI ((8 * k1609) + (g1602))), .int (x1614), .int (nI 0)] dX5_passed_147 rfl (by decide) rfl ?_
                  refine q_goto (tgt := 43) dX5_passed_150 (by decide) ?_
                  refine q_weak [.ref o, .int (nI j1597), .int (nI g1602), .int (nI g1607), .int (x1611), .int (nI (k1609 + 1)), .retAddr 0, .retAddr 0, .retAddr 0] ⟨Or.inl rfl, Or.inl rfl, Or.inl rfl, Or.inl rfl, Or.inl rfl, Or.inl rfl, Or.inr ⟨0, rfl⟩, Or.inr ⟨0, rfl⟩, Or.inr ⟨0, rfl⟩, trivial⟩ ?_
                  exact ihl1608 (k1609 + 1) (x1611) h (by omega) hok
              ·
                refine q_iload dX5_passed_109 rfl ?_
                refine q_iconst (v := nI 2) dX5_passed_111 rfl ?_
                refine q_icmp_eq (tgt := 119) dX5_passed_112 (by decide) (fun c1620 => ?_) (fun c1620 => ?_)
                ·
                  refine q_iconst (v := nI 0) dX5_passed_119 rfl ?_
                  refine t_istore [.ref o, .int (nI j1597), .int (nI g1602), .int (nI g1607), .int (x1611), .int (nI k1609), .int (nI ((8 * k1609) + (g1602))), .int (x1614), .int (nI 0)] (Or.inr ⟨rfl, dX5_passed_120⟩) (by decide) rfl ?_
                  refine q_iload dX5_passed_122 rfl ?_
                  refine q_iload_n dX5_passed_124 rfl ?_
                  refine q_icmp_eq (tgt := 143) dX5_passed_125 (by decide) (fun c1621 => ?_) (fun c1621 => ?_)
                  ·
                    refine q_iload dX5_passed_143 rfl ?_
                    refine t_istore [.ref o, .int (nI j1597), .int (nI g1602), .int (nI g1607), .int (x1611), .int (nI k1609), .int (nI ((8 * k1609) + (g1602))), .int (x1614), .int (nI 0)] (Or.inr ⟨rfl, dX5_passed_145⟩) (by decide) rfl ?_
                    refine t_iinc_n [.ref o, .int (nI j1597), .int (nI g1602), .int (nI g1607), .int (x1611), .int (nI (k1609 + 1)), .int (nI ((8 * k1609) + (g1602))), .int (x1614), .int (nI 0)] dX5_passed_147 rfl (by decide) rfl ?_
                    refine q_goto (tgt := 43) dX5_passed_150 (by decide) ?_
                    refine q_weak [.ref o, .int (nI j1597), .int (nI g1602), .int (nI g1607), .int (x1611), .int (nI (k1609 + 1)), .retAddr 0, .retAddr 0, .retAddr 0] ⟨Or.inl rfl, Or.inl rfl, Or.inl rfl, Or.inl rfl, Or.inl rfl, Or.inl rfl, Or.inr ⟨0, rfl⟩, Or.inr ⟨0, rfl⟩, Or.inr ⟨0, rfl⟩, trivial⟩ ?_
                    exact ihl1608 (k1609 + 1) (x1611) h (by omega) hok
                  ·
                    refine q_iload dX5_passed_128 rfl ?_
                    refine q_if_eq (tgt := 143) dX5_passed_130 (by decide) (fun _ => ?_) (fun q => absurd q (by decide))
                    refine q_iload dX5_passed_143 rfl ?_
                    refine t_istore [.ref o, .int (nI j1597), .int (nI g1602), .int (nI g1607), .int (x1611), .int (nI k1609), .int (nI ((8 * k1609) + (g1602))), .int (x1614), .int (nI 0)] (Or.inr ⟨rfl, dX5_passed_145⟩) (by decide) rfl ?_
                    refine t_iinc_n [.ref o, .int (nI j1597), .int (nI g1602), .int (nI g1607), .int (x1611), .int (nI (k1609 + 1)), .int (nI ((8 * k1609) + (g1602))), .int (x1614), .int (nI 0)] dX5_passed_147 rfl (by decide) rfl ?_
                    refine q_goto (tgt := 43) dX5_passed_150 (by decide) ?_
                    refine q_weak [.ref o, .int (nI j1597), .int (nI g1602), .int (nI g1607), .int (x1611), .int (nI (k1609 + 1)), .retAddr 0, .retAddr 0, .retAddr 0] ⟨Or.inl rfl, Or.inl rfl, Or.inl rfl, Or.inl rfl, Or.inl rfl, Or.inl rfl, Or.inr ⟨0, rfl⟩, Or.inr ⟨0, rfl⟩, Or.inr ⟨0, rfl⟩, trivial⟩ ?_
                    exact ihl1608 (k1609 + 1) (x1611) h (by omega) hok
                ·
                  refine q_iconst (v := nI 1) dX5_passed_115 rfl ?_
                  refine q_goto (tgt := 120) dX5_passed_116 (by decide) ?_
                  refine t_istore [.ref o, .int (nI j1597), .int (nI g1602), .int (nI g1607), .int (x1611), .int (nI k1609), .int (nI ((8 * k1609) + (g1602))), .int (x1614), .int (nI 1)] (Or.inr ⟨rfl, dX5_passed_120⟩) (by decide) rfl ?_
                  refine q_iload dX5_passed_122 rfl ?_
                  refine q_iload_n dX5_passed_124 rfl ?_
                  refine q_icmp_eq (tgt := 143) dX5_passed_125 (by decide) (fun c1622 => ?_) (fun c1622 => ?_)
                  ·
                    refine q_iload dX5_passed_143 rfl ?_
                    refine t_istore [.ref o, .int (nI j1597), .int (nI g1602), .int (nI g1607), .int (x1611), .int (nI k1609), .int (nI ((8 * k1609) + (g1602))), .int (x1614), .int (nI 1)] (Or.inr ⟨rfl, dX5_passed_145⟩) (by decide) rfl ?_
                    refine t_iinc_n [.ref o, .int (nI j1597), .int (nI g1602), .int (nI g1607), .int (x1611), .int (nI (k1609 + 1)), .int (nI ((8 * k1609) + (g1602))), .int (x1614), .int (nI 1)] dX5_passed_147 rfl (by decide) rfl ?_
                    refine q_goto (tgt := 43) dX5_passed_150 (by decide) ?_
                    refine q_weak [.ref o, .int (nI j1597), .int (nI g1602), .int (nI g1607), .int (x1611), .int (nI (k1609 + 1)), .retAddr 0, .retAddr 0, .retAddr 0] ⟨Or.inl rfl, Or.inl rfl, Or.inl rfl, Or.inl rfl, Or.inl rfl, Or.inl rfl, Or.inr ⟨0, rfl⟩, Or.inr ⟨0, rfl⟩, Or.inr ⟨0, rfl⟩, trivial⟩ ?_
                    exact ihl1608 (k1609 + 1) (x1611) h (by omega) hok
                  ·
                    refine q_iload dX5_passed_128 rfl ?_
                    refine q_if_eq (tgt := 143) dX5_passed_130 (by decide) (fun q => absurd q (by decide)) (fun _ => ?_)
                    refine q_iload dX5_passed_133 rfl ?_
                    refine q_iconst (v := nI 1) dX5_passed_135 rfl ?_
                    refine q_iload dX5_passed_136 rfl ?_
                    refine q_ishl dX5_passed_138 ?_
                    generalize (nI 1) <<< ((nI k1609) &&& 31) = z1623
                    refine q_iadd dX5_passed_139 ?_
                    generalize (x1611) + (z1623) = z1624
                    refine q_goto (tgt := 145) dX5_passed_140 (by decide) ?_
                    refine t_istore [.ref o, .int (nI j1597), .int (nI g1602), .int (nI g1607), .int (z1624), .int (nI k1609), .int (nI ((8 * k1609) + (g1602))), .int (x1614), .int (nI 1)] (Or.inr ⟨rfl, dX5_passed_145⟩) (by decide) rfl ?_
                    refine t_iinc_n [.ref o, .int (nI j1597), .int (nI g1602), .int (nI g1607), .int (z1624), .int (nI (k1609 + 1)), .int (nI ((8 * k1609) + (g1602))), .int (x1614), .int (nI 1)] dX5_passed_147 rfl (by decide) rfl ?_
                    refine q_goto (tgt := 43) dX5_passed_150 (by decide) ?_
                    refine q_weak [.ref o, .int (nI j1597), .int (nI g1602), .int (nI g1607), .int (z1624), .int (nI (k1609 + 1)), .retAddr 0, .retAddr 0, .retAddr 0] ⟨Or.inl rfl, Or.inl rfl, Or.inl rfl, Or.inl rfl, Or.inl rfl, Or.inl rfl, Or.inr ⟨0, rfl⟩, Or.inr ⟨0, rfl⟩, Or.inr ⟨0, rfl⟩, trivial⟩ ?_
                    exact ihl1608 (k1609 + 1) (z1624) h (by omega) hok
            ·
              refine q_iload dX5_passed_92 rfl ?_
              refine q_iconst (v := nI 1) dX5_passed_94 rfl ?_
              refine q_icmp_eq (tgt := 115) dX5_passed_95 (by decide) (fun c1625 => ?_) (fun c1625 => ?_)
              ·
                refine q_iconst (v := nI 1) dX5_passed_115 rfl ?_
                refine q_goto (tgt := 120) dX5_passed_116 (by decide) ?_
                refine t_istore [.ref o, .int (nI j1597), .int (nI g1602), .int (nI g1607), .int (x1611), .int (nI k1609), .int (nI ((8 * k1609) + (g1602))), .int (x1614), .int (nI 1)] (Or.inr ⟨rfl, dX5_passed_120⟩) (by decide) rfl ?_
                refine q_iload dX5_passed_122 rfl ?_
                refine q_iload_n dX5_passed_124 rfl ?_
                refine q_icmp_eq (tgt := 143) dX5_passed_125 (by decide) (fun c1626 => ?_) (fun c1626 => ?_)
                ·
                  refine q_iload dX5_passed_143 rfl ?_
                  refine t_istore [.ref o, .int (nI j1597), .int (nI g1602), .int (nI g1607), .int (x1611), .int (nI k1609), .int (nI ((8 * k1609) + (g1602))), .int (x1614), .int (nI 1)] (Or.inr ⟨rfl, dX5_passed_145⟩) (by decide) rfl ?_
                  refine t_iinc_n [.ref o, .int (nI j1597), .int (nI g1602), .int (nI g1607), .int (x1611), .int (nI (k1609 + 1)), .int (nI ((8 * k1609) + (g1602))), .int (x1614), .int (nI 1)] dX5_passed_147 rfl (by decide) rfl ?_
                  refine q_goto (tgt := 43) dX5_passed_150 (by decide) ?_
                  refine q_weak [.ref o, .int (nI j1597), .int (nI g1602), .int (nI g1607), .int (x1611), .int (nI (k1609 + 1)), .retAddr 0, .retAddr 0, .retAddr 0] ⟨Or.inl rfl, Or.inl rfl, Or.inl rfl, Or.inl rfl, Or.inl rfl, Or.inl rfl, Or.inr ⟨0, rfl⟩, Or.inr ⟨0, rfl⟩, Or.inr ⟨0, rfl⟩, trivial⟩ ?_
                  exact ihl1608 (k1609 + 1) (x1611) h (by omega) hok
                ·
                  refine q_iload dX5_passed_128 rfl ?_
                  refine q_if_eq (tgt := 143) dX5_passed_130 (by decide) (fun q => absurd q (by decide)) (fun _ => ?_)
                  refine q_iload dX5_passed_133 rfl ?_
                  refine q_iconst (v := nI 1) dX5_passed_135 rfl ?_
                  refine q_iload dX5_passed_136 rfl ?_
                  refine q_ishl dX5_passed_138 ?_
                  generalize (nI 1) <<< ((nI k1609) &&& 31) = z1627
                  refine q_iadd dX5_passed_139 ?_
                  generalize (x1611) + (z1627) = z1628
                  refine q_goto (tgt := 145) dX5_passed_140 (by decide) ?_
                  refine t_istore [.ref o, .int (nI j1597), .int (nI g1602), .int (nI g1607), .int (z1628), .int (nI k1609), .int (nI ((8 * k1609) + (g1602))), .int (x1614), .int (nI 1)] (Or.inr ⟨rfl, dX5_passed_145⟩) (by decide) rfl ?_
                  refine t_iinc_n [.ref o, .int (nI j1597), .int (nI g1602), .int (nI g1607), .int (z1628), .int (nI (k1609 + 1)), .int (nI ((8 * k1609) + (g1602))), .int (x1614), .int (nI 1)] dX5_passed_147 rfl (by decide) rfl ?_
                  refine q_goto (tgt := 43) dX5_passed_150 (by decide) ?_
                  refine q_weak [.ref o, .int (nI j1597), .int (nI g1602), .int (nI g1607), .int (z1628), .int (nI (k1609 + 1)), .retAddr 0, .retAddr 0, .retAddr 0] ⟨Or.inl rfl, Or.inl rfl, Or.inl rfl, Or.inl rfl, Or.inl rfl, Or.inl rfl, Or.inr ⟨0, rfl⟩, Or.inr ⟨0, rfl⟩, Or.inr ⟨0, rfl⟩, trivial⟩ ?_
                  exact ihl1608 (k1609 + 1) (z1628) h (by omega) hok
              ·
                refine q_aload_n dX5_passed_98 rfl ?_
                refine t_getr 8 kX5 (by decide) wPX5_28 dX5_passed_99 hok mG_o rfl ?_
                refine q_iload dX5_passed_102 rfl ?_
                refine t_iald dX5_passed_104 hok (mG_a6 (ml := ml) (th := 0) (s := s) hB) (by exact vp_in_nI (by omega) (by omega)) (fun x1629 => ?_)
                refine q_iconst (v := nI 1) dX5_passed_105 rfl ?_
                refine q_icmp_ne (tgt := 119) dX5_passed_106 (by decide) (fun c1630 => ?_) (fun c1630 => ?_)
                ·
                  refine q_iconst (v := nI 0) dX5_passed_119 rfl ?_
                  refine t_istore [.ref o, .int (nI j1597), .int (nI g1602), .int (nI g1607), .int (x1611), .int (nI k1609), .int (nI ((8 * k1609) + (g1602))), .int (x1614), .int (nI 0)] (Or.inr ⟨rfl, dX5_passed_120⟩) (by decide) rfl ?_
                  refine q_iload dX5_passed_122 rfl ?_
                  refine q_iload_n dX5_passed_124 rfl ?_
                  refine q_icmp_eq (tgt := 143) dX5_passed_125 (by decide) (fun c1631 => ?_) (fun c1631 => ?_)
                  ·
                    refine q_iload dX5_passed_143 rfl ?_
                    refine t_istore [.ref o, .int (nI j1597), .int (nI g1602), .int (nI g1607), .int (x1611), .int (nI k1609), .int (nI ((8 * k1609) + (g1602))), .int (x1614), .int (nI 0)] (Or.inr ⟨rfl, dX5_passed_145⟩) (by decide) rfl ?_
                    refine t_iinc_n [.ref o, .int (nI j1597), .int (nI g1602), .int (nI g1607), .int (x1611), .int (nI (k1609 + 1)), .int (nI ((8 * k1609) + (g1602))), .int (x1614), .int (nI 0)] dX5_passed_147 rfl (by decide) rfl ?_
                    refine q_goto (tgt := 43) dX5_passed_150 (by decide) ?_
                    refine q_weak [.ref o, .int (nI j1597), .int (nI g1602), .int (nI g1607), .int (x1611), .int (nI (k1609 + 1)), .retAddr 0, .retAddr 0, .retAddr 0] ⟨Or.inl rfl, Or.inl rfl, Or.inl rfl, Or.inl rfl, Or.inl rfl, Or.inl rfl, Or.inr ⟨0, rfl⟩, Or.inr ⟨0, rfl⟩, Or.inr ⟨0, rfl⟩, trivial⟩ ?_
                    exact ihl1608 (k1609 + 1) (x1611) h (by omega) hok
                  ·
                    refine q_iload dX5_passed_128 rfl ?_
                    refine q_if_eq (tgt := 143) dX5_passed_130 (by decide) (fun _ => ?_) (fun q => absurd q (by decide))
                    refine q_iload dX5_passed_143 rfl ?_
                    refine t_istore [.ref o, .int (nI j1597), .int (nI g1602), .int (nI g1607), .int (x1611), .int (nI k1609), .int (nI ((8 * k1609) + (g1602))), .int (x1614), .int (nI 0)] (Or.inr ⟨rfl, dX5_passed_145⟩) (by decide) rfl ?_
                    refine t_iinc_n [.ref o, .int (nI j1597), .int (nI g1602), .int (nI g1607), .int (x1611), .int (nI (k1609 + 1)), .int (nI ((8 * k1609) + (g1602))), .int (x1614), .int (nI 0)] dX5_passed_147 rfl (by decide) rfl ?_
                    refine q_goto (tgt := 43) dX5_passed_150 (by decide) ?_
                    refine q_weak [.ref o, .int (nI j1597), .int (nI g1602), .int (nI g1607), .int (x1611), .int (nI (k1609 + 1)), .retAddr 0, .retAddr 0, .retAddr 0] ⟨Or.inl rfl, Or.inl rfl, Or.inl rfl, Or.inl rfl, Or.inl rfl, Or.inl rfl, Or.inr ⟨0, rfl⟩, Or.inr ⟨0, rfl⟩, Or.inr ⟨0, rfl⟩, trivial⟩ ?_
                    exact ihl1608 (k1609 + 1) (x1611) h (by omega) hok
                ·
                  refine q_iload dX5_passed_109 rfl ?_
                  refine q_iconst (v := nI 2) dX5_passed_111 rfl ?_
                  refine q_icmp_eq (tgt := 119) dX5_passed_112 (by decide) (fun c1632 => ?_) (fun c1632 => ?_)
                  ·
                    refine q_iconst (v := nI 0) dX5_passed_119 rfl ?_
                    refine t_istore [.ref o, .int (nI j1597), .int (nI g1602), .int (nI g1607), .int (x1611), .int (nI k1609), .int (nI ((8 * k1609) + (g1602))), .int (x1614), .int (nI 0)] (Or.inr ⟨rfl, dX5_passed_120⟩) (by decide) rfl ?_
                    refine q_iload dX5_passed_122 rfl ?_
                    refine q_iload_n dX5_passed_124 rfl ?_
                    refine q_icmp_eq (tgt := 143) dX5_passed_125 (by decide) (fun c1633 => ?_) (fun c1633 => ?_)
                    ·
                      refine q_iload dX5_passed_143 rfl ?_
                      refine t_istore [.ref o, .int (nI j1597), .int (nI g1602), .int (nI g1607), .int (x1611), .int (nI k1609), .int (nI ((8 * k1609) + (g1602))), .int (x1614), .int (nI 0)] (Or.inr ⟨rfl, dX5_passed_145⟩) (by decide) rfl ?_
                      refine t_iinc_n [.ref o, .int (nI j1597), .int (nI g1602), .int (nI g1607), .int (x1611), .int (nI (k1609 + 1)), .int (nI ((8 * k1609) + (g1602))), .int (x1614), .int (nI 0)] dX5_passed_147 rfl (by decide) rfl ?_
                      refine q_goto (tgt := 43) dX5_passed_150 (by decide) ?_
                      refine q_weak [.ref o, .int (nI j1597), .int (nI g1602), .int (nI g1607), .int (x1611), .int (nI (k1609 + 1)), .retAddr 0, .retAddr 0, .retAddr 0] ⟨Or.inl rfl, Or.inl rfl, Or.inl rfl, Or.inl rfl, Or.inl rfl, Or.inl rfl, Or.inr ⟨0, rfl⟩, Or.inr ⟨0, rfl⟩, Or.inr ⟨0, rfl⟩, trivial⟩ ?_
                      exact ihl1608 (k1609 + 1) (x1611) h (by omega) hok
                    ·
                      refine q_iload dX5_passed_128 rfl ?_
                      refine q_if_eq (tgt := 143) dX5_passed_130 (by decide) (fun _ => ?_) (fun q => absurd q (by decide))
                      refine q_iload dX5_passed_143 rfl ?_
                      refine t_istore [.ref o, .int (nI j1597), .int (nI g1602), .int (nI g1607), .int (x1611), .int (nI k1609), .int (nI ((8 * k1609) + (g1602))), .int (x1614), .int (nI 0)] (Or.inr ⟨rfl, dX5_passed_145⟩) (by decide) rfl ?_
                      refine t_iinc_n [.ref o, .int (nI j1597), .int (nI g1602), .int (nI g1607), .int (x1611), .int (nI (k1609 + 1)), .int (nI ((8 * k1609) + (g1602))), .int (x1614), .int (nI 0)] dX5_passed_147 rfl (by decide) rfl ?_
                      refine q_goto (tgt := 43) dX5_passed_150 (by decide) ?_
                      refine q_weak [.ref o, .int (nI j1597), .int (nI g1602), .int (nI g1607), .int (x1611), .int (nI (k1609 + 1)), .retAddr 0, .retAddr 0, .retAddr 0] ⟨Or.inl rfl, Or.inl rfl, Or.inl rfl, Or.inl rfl, Or.inl rfl, Or.inl rfl, Or.inr ⟨0, rfl⟩, Or.inr ⟨0, rfl⟩, Or.inr ⟨0, rfl⟩, trivial⟩ ?_
                      exact ihl1608 (k1609 + 1) (x1611) h (by omega) hok
                  ·
                    refine q_iconst (v := nI 1) dX5_passed_115 rfl ?_
                    refine q_goto (tgt := 120) dX5_passed_116 (by decide) ?_
                    refine t_istore [.ref o, .int (nI j1597), .int (nI g1602), .int (nI g1607), .int (x1611), .int (nI k1609), .int (nI ((8 * k1609) + (g1602))), .int (x1614), .int (nI 1)] (Or.inr ⟨rfl, dX5_passed_120⟩) (by decide) rfl ?_
                    refine q_iload dX5_passed_122 rfl ?_
                    refine q_iload_n dX5_passed_124 rfl ?_
                    refine q_icmp_eq (tgt := 143) dX5_passed_125 (by decide) (fun c1634 => ?_) (fun c1634 => ?_)
                    ·
                      refine q_iload dX5_passed_143 rfl ?_
                      refine t_istore [.ref o, .int (nI j1597), .int (nI g1602), .int (nI g1607), .int (x1611), .int (nI k1609), .int (nI ((8 * k1609) + (g1602))), .int (x1614), .int (nI 1)] (Or.inr ⟨rfl, dX5_passed_145⟩) (by decide) rfl ?_
                      refine t_iinc_n [.ref o, .int (nI j1597), .int (nI g1602), .int (nI g1607), .int (x1611), .int (nI (k1609 + 1)), .int (nI ((8 * k1609) + (g1602))), .int (x1614), .int (nI 1)] dX5_passed_147 rfl (by decide) rfl ?_
                      refine q_goto (tgt := 43) dX5_passed_150 (by decide) ?_
                      refine q_weak [.ref o, .int (nI j1597), .int (nI g1602), .int (nI g1607), .int (x1611), .int (nI (k1609 + 1)), .retAddr 0, .retAddr 0, .retAddr 0] ⟨Or.inl rfl, Or.inl rfl, Or.inl rfl, Or.inl rfl, Or.inl rfl, Or.inl rfl, Or.inr ⟨0, rfl⟩, Or.inr ⟨0, rfl⟩, Or.inr ⟨0, rfl⟩, trivial⟩ ?_
                      exact ihl1608 (k1609 + 1) (x1611) h (by omega) hok
                    ·
                      refine q_iload dX5_passed_128 rfl ?_
                      refine q_if_eq (tgt := 143) dX5_passed_130 (by decide) (fun q => absurd q (by decide)) (fun _ => ?_)
                      refine q_iload dX5_passed_133 rfl ?_
                      refine q_iconst (v := nI 1) dX5_passed_135 rfl ?_
                      refine q_iload dX5_passed_136 rfl ?_
                      refine q_ishl dX5_passed_138 ?_
                      generalize (nI 1) <<< ((nI k1609) &&& 31) = z1635
                      refine q_iadd dX5_passed_139 ?_
                      generalize (x1611) + (z1635) = z1636
                      refine q_goto (tgt := 145) dX5_passed_140 (by decide) ?_
                      refine t_istore [.ref o, .int (nI j1597), .int (nI g1602), .int (nI g1607), .int (z1636), .int (nI k1609), .int (nI ((8 * k1609) + (g1602))), .int (x1614), .int (nI 1)] (Or.inr ⟨rfl, dX5_passed_145⟩) (by decide) rfl ?_
                      refine t_iinc_n [.ref o, .int (nI j1597), .int (nI g1602), .int (nI g1607), .int (z1636), .int (nI (k1609 + 1)), .int (nI ((8 * k1609) + (g1602))), .int (x1614), .int (nI 1)] dX5_passed_147 rfl (by decide) rfl ?_
                      refine q_goto (tgt := 43) dX5_passed_150 (by decide) ?_
                      refine q_weak [.ref o, .int (nI j1597), .int (nI g1602), .int (nI g1607), .int (z1636), .int (nI (k1609 + 1)), .retAddr 0, .retAddr 0, .retAddr 0] ⟨Or.inl rfl, Or.inl rfl, Or.inl rfl, Or.inl rfl, Or.inl rfl, Or.inl rfl, Or.inr ⟨0, rfl⟩, Or.inr ⟨0, rfl⟩, Or.inr ⟨0, rfl⟩, trivial⟩ ?_
                      exact ihl1608 (k1609 + 1) (z1636) h (by omega) hok
        exact hl1608 (ml) 0 (nI 0) h (by omega) hok
      ·
        refine q_if_eq (tgt := 33) dX5_passed_26 (by decide) (fun _ => ?_) (fun q => absurd q (by decide))
        refine q_iconst (v := nI 1) dX5_passed_33 rfl ?_
        refine t_putc 0 (z' := 1) kX5 (by decide) wPX5_66 rfl dX5_passed_34 hok mG_o rfl ⟨rfl, rfl⟩ (fun h hok => ?_)
        replace hok := mG_setT hok
        refine q_iconst (v := nI 0) dX5_passed_37 rfl ?_
        refine t_istore [.ref o, .int (nI j1597), .int (nI g1602), .int (a3), .int (nI 0), .retAddr 0, .retAddr 0, .retAddr 0, .retAddr 0] (Or.inr ⟨rfl, dX5_passed_38⟩) (by decide) rfl ?_
        refine q_iconst (v := nI 0) dX5_passed_40 rfl ?_
        refine t_istore [.ref o, .int (nI j1597), .int (nI g1602), .int (a3), .int (nI 0), .int (nI 0), .retAddr 0, .retAddr 0, .retAddr 0] (Or.inr ⟨rfl, dX5_passed_41⟩) (by decide) rfl ?_
        have hl1637 : ∀ (d1639 k1638 : Nat) (x1640 : Int32) (h : q_H), k1638 + d1639 = ml → q_ok (mG Γ o ml (1) (s)) h → q_A Sc mX5_passed 43 [.ref o, .int (nI j1597), .int (nI g1602), .int (a3), .int (x1640), .int (nI k1638), .retAddr 0, .retAddr 0, .retAddr 0] [] h n 0 0 (fun O h' n' => ∃ th' s', (fun O th' s' => q_RI O ∧ s' ≤ s + 0) O th' s' ∧ q_ok (mG Γ o ml th' s') h' ∧ n' = n) := by
          intro d1639
          induction d1639 with
          | zero =>
            intro k1638 x1640 h el1637 hok
            refine q_iload dX5_passed_43 rfl ?_
            refine q_aload_n dX5_passed_45 rfl ?_
            refine t_getc 1 kX5 (by decide) wPX5_59 dX5_passed_46 hok mG_o rfl ?_
            refine t_icmp_ge_n (tgt := 153) (by omega) (by omega) dX5_passed_49 (by decide) (fun c1641 => ?_) (fun c1641 => ?_)
            rotate_left
            · exact absurd c1641 (by omega)
            refine q_iload dX5_passed_153 rfl ?_
            exact q_iret dX5_passed_155 rfl (rfl) ⟨1, s, ⟨⟨_, rfl⟩, by omega⟩, hok, rfl⟩
          | succ d1639 ihl1637 =>
            intro k1638 x1640 h el1637 hok
            refine q_iload dX5_passed_43 rfl ?_
            refine q_aload_n dX5_passed_45 rfl ?_
            refine t_getc 1 kX5 (by decide) wPX5_59 dX5_passed_46 hok mG_o rfl ?_
            refine t_icmp_ge_n (tgt := 153) (by omega) (by omega) dX5_passed_49 (by decide) (fun c1642 => ?_) (fun c1642 => ?_)
            · exact absurd c1642 (by omega)
            refine q_aload_n dX5_passed_52 rfl ?_
            refine t_getc 0 kX5 (by decide) wPX5_66 dX5_passed_53 hok mG_o rfl ?_
            refine q_if_ne (tgt := 153) dX5_passed_56 (by decide) (fun _ => ?_) (fun q => absurd q (by decide))
            refine q_iload dX5_passed_153 rfl ?_
            exact q_iret dX5_passed_155 rfl (rfl) ⟨1, s, ⟨⟨_, rfl⟩, by omega⟩, hok, rfl⟩
        exact hl1637 (ml) 0 (nI 0) h (by omega) hok
    ·
      refine q_if_eq (tgt := 33) dX5_passed_16 (by decide) (fun _ => ?_) (fun q => absurd q (by decide))
      refine q_iconst (v := nI 1) dX5_passed_33 rfl ?_
      refine t_putc 0 (z' := 1) kX5 (by decide) wPX5_66 rfl dX5_passed_34 hok mG_o rfl ⟨rfl, rfl⟩ (fun h hok => ?_)
      replace hok := mG_setT hok
      refine q_iconst (v := nI 0) dX5_passed_37 rfl ?_
      refine t_istore [.ref o, .int (nI j1597), .int (a2), .int (a3), .int (nI 0), .retAddr 0, .retAddr 0, .retAddr 0, .retAddr 0] (Or.inr ⟨rfl, dX5_passed_38⟩) (by decide) rfl ?_
      refine q_iconst (v := nI 0) dX5_passed_40 rfl ?_
      refine t_istore [.ref o, .int (nI j1597), .int (a2), .int (a3), .int (nI 0), .int (nI 0), .retAddr 0, .retAddr 0, .retAddr 0] (Or.inr ⟨rfl, dX5_passed_41⟩) (by decide) rfl ?_
      have hl1643 : ∀ (d1645 k1644 : Nat) (x1646 : Int32) (h : q_H), k1644 + d1645 = ml → q_ok (mG Γ o ml (1) (s)) h → q_A Sc mX5_passed 43 [.ref o, .int (nI j1597), .int (a2), .int (a3), .int (x1646), .int (nI k1644), .retAddr 0, .retAddr 0, .retAddr 0] [] h n 0 0 (fun O h' n' => ∃ th' s', (fun O th' s' => q_RI O ∧ s' ≤ s + 0) O th' s' ∧ q_ok (mG Γ o ml th' s') h' ∧ n' = n) := by
        intro d1645
        induction d1645 with
        | zero =>
          intro k1644 x1646 h el1643 hok
          refine q_iload dX5_passed_43 rfl ?_
          refine q_aload_n dX5_passed_45 rfl ?_
          refine t_getc 1 kX5 (by decide) wPX5_59 dX5_passed_46 hok mG_o rfl ?_
          refine t_icmp_ge_n (tgt := 153) (by omega) (by omega) dX5_passed_49 (by decide) (fun c1647 => ?_) (fun c1647 => ?_)
          rotate_left
          · exact absurd c1647 (by omega)
          refine q_iload dX5_passed_153 rfl ?_
          exact q_iret dX5_passed_155 rfl (rfl) ⟨1, s, ⟨⟨_, rfl⟩, by omega⟩, hok, rfl⟩
        | succ d1645 ihl1643 =>
          intro k1644 x1646 h el1643 hok
          refine q_iload dX5_passed_43 rfl ?_
          refine q_aload_n dX5_passed_45 rfl ?_
          refine t_getc 1 kX5 (by decide) wPX5_59 dX5_passed_46 hok mG_o rfl ?_
          refine t_icmp_ge_n (tgt := 153) (by omega) (by omega) dX5_passed_49 (by decide) (fun c1648 => ?_) (fun c1648 => ?_)
          · exact absurd c1648 (by omega)
          refine q_aload_n dX5_passed_52 rfl ?_
          refine t_getc 0 kX5 (by decide) wPX5_66 dX5_passed_53 hok mG_o rfl ?_
          refine q_if_ne (tgt := 153) dX5_passed_56 (by decide) (fun _ => ?_) (fun q => absurd q (by decide))
          refine q_iload dX5_passed_153 rfl ?_
          exact q_iret dX5_passed_155 rfl (rfl) ⟨1, s, ⟨⟨_, rfl⟩, by omega⟩, hok, rfl⟩
      exact hl1643 (ml) 0 (nI 0) h (by omega) hok
  ·
    refine q_if_eq (tgt := 33) dX5_passed_6 (by decide) (fun _ => ?_) (fun q => absurd q (by decide))
    refine q_iconst (v := nI 1) dX5_passed_33 rfl ?_
    refine t_putc 0 (z' := 1) kX5 (by decide) wPX5_66 rfl dX5_passed_34 hok mG_o rfl ⟨rfl, rfl⟩ (fun h hok => ?_)
    replace hok := mG_setT hok
    refine q_iconst (v := nI 0) dX5_passed_37 rfl ?_
    refine t_istore [.ref o, .int (a1), .int (a2), .int (a3), .int (nI 0), .retAddr 0, .retAddr 0, .retAddr 0, .retAddr 0] (Or.inr ⟨rfl, dX5_passed_38⟩) (by decide) rfl ?_
    refine q_iconst (v := nI 0) dX5_passed_40 rfl ?_
    refine t_istore [.ref o, .int (a1), .int (a2), .int (a3), .int (nI 0), .int (nI 0), .retAddr 0, .retAddr 0, .retAddr 0] (Or.inr ⟨rfl, dX5_passed_41⟩) (by decide) rfl ?_
    have hl1649 : ∀ (d1651 k1650 : Nat) (x1652 : Int32) (h : q_H), k1650 + d1651 = ml → q_ok (mG Γ o ml (1) (s)) h → q_A Sc mX5_passed 43 [.ref o, .int (a1), .int (a2), .int (a3), .int (x1652), .int (nI k1650), .retAddr 0, .retAddr 0, .retAddr 0] [] h n 0 0 (fun O h' n' => ∃ th' s', (fun O th' s' => q_RI O ∧ s' ≤ s + 0) O th' s' ∧ q_ok (mG Γ o ml th' s') h' ∧ n' = n) := by
      intro d1651
      induction d1651 with
      | zero =>
        intro k1650 x1652 h el1649 hok
        refine q_iload dX5_passed_43 rfl ?_
        refine q_aload_n dX5_passed_45 rfl ?_
        refine t_getc 1 kX5 (by decide) wPX5_59 dX5_passed_46 hok mG_o rfl ?_
        refine t_icmp_ge_n (tgt := 153) (by omega) (by omega) dX5_passed_49 (by decide) (fun c1653 => ?_) (fun c1653 => ?_)
        rotate_left
        · exact absurd c1653 (by omega)
        refine q_iload dX5_passed_153 rfl ?_
        exact q_iret dX5_passed_155 rfl (rfl) ⟨1, s, ⟨⟨_, rfl⟩, by omega⟩, hok, rfl⟩
      | succ d1651 ihl1649 =>
        intro k1650 x1652 h el1649 hok
        refine q_iload dX5_passed_43 rfl ?_
        refine q_aload_n dX5_passed_45 rfl ?_
        refine t_getc 1 kX5 (by decide) wPX5_59 dX5_passed_46 hok mG_o rfl ?_
        refine t_icmp_ge_n (tgt := 153) (by omega) (by omega) dX5_passed_49 (by decide) (fun c1654 => ?_) (fun c1654 => ?_)
        · exact absurd c1654 (by omega)
        refine q_aload_n dX5_passed_52 rfl ?_
        refine t_getc 0 kX5 (by decide) wPX5_66 dX5_passed_53 hok mG_o rfl ?_
        refine q_if_ne (tgt := 153) dX5_passed_56 (by decide) (fun _ => ?_) (fun q => absurd q (by decide))
        refine q_iload dX5_passed_153 rfl ?_
        exact q_iret dX5_passed_155 rfl (rfl) ⟨1, s, ⟨⟨_, rfl⟩, by omega⟩, hok, rfl⟩
    exact hl1649 (ml) 0 (nI 0) h (by omega) hok
theorem sX5_knows (Sc : q_S) (Γ : Nat → q_K) (n o ml th s : Nat) (hB : mB Γ o) (hml : ml ≤ 4) (a1 : Int32) (a2 : Int32) : q_mod Sc Γ o ml mX5_knows [.ref o, .int (a1), .int (a2)] n th s (fun O th' s' => (∃ x, O = .inl (some (.int x)) ∧ ((x = nI 1 ∧ (∃ j, j < ml ∧ a1 = nI j) ∧ ∃ g, g ≤ 7 ∧ a2 = nI g) ∨ x = nI 0)) ∧ s' = s) := by
  intro h hok
  show q_A Sc mX5_knows 0 [.ref o, .int (a1), .int (a2)] [] h n 0 0 (fun O h' n' => ∃ th' s', (fun O th' s' => (∃ x, O = .inl (some (.int x)) ∧ ((x = nI 1 ∧ (∃ j, j < ml ∧ a1 = nI j) ∧ ∃ g, g ≤ 7 ∧ a2 = nI g) ∨ x = nI 0)) ∧ s' = s) O th' s' ∧ q_ok (mG Γ o ml th' s') h' ∧ n' = n)
  refine q_aload_n dX5_knows_0 rfl ?_
  refine q_aload_n dX5_knows_1 rfl ?_
  refine q_iload_n dX5_knows_2 rfl ?_
  refine t_callM (M' := mX5_isLink) [.int (a1)] [.ref o] dX5_knows_3 wPX5_117v wIX5_isLink wSX5_isLink iX5_isLink oX5_isLink rfl hok (sX5_isLink Sc Γ n o ml (th) (s) hB hml (a1)) (Nat.le_of_ble_eq_true rfl) (Nat.le_of_ble_eq_true rfl) (Nat.le_of_ble_eq_true rfl) rfl (fun _ _ _ q => by obtain ⟨⟨_, q, _⟩, _⟩ := q; cases q) (fun v1656 h thv1656 sv1656 qv1656 hok => ?_)
  obtain ⟨⟨x1657, qx1657, hx1657⟩, etv1656, esv1656⟩ := qv1656
  rw [etv1656, esv1656] at hok
  obtain rfl := Sum.inl.inj qx1657
  rcases hx1657 with ⟨rfl, j1658, hj1658, rfl⟩ | rfl
  ·
    refine q_if_eq (tgt := 23) dX5_knows_6 (by decide) (fun q => absurd q (by decide)) (fun _ => ?_)
    refine q_iload_n dX5_knows_9 rfl ?_
    refine q_iconst (v := nI 0) dX5_knows_10 rfl ?_
    refine q_bipush (v := nI 7) dX5_knows_11 rfl ?_
    refine t_callS (M' := mX5_in) [.int (a2), .int (nI 0), .int (nI 7)] [.ref o] dX5_knows_13 wPX5_120 wTX5_in wNX5 iX5_in oX5_in rfl hok (sX5_in Sc (mG Γ o ml (th) (s)) n (a2) (nI 0) (nI 7)) (Nat.le_of_ble_eq_true rfl) (Nat.le_of_ble_eq_true rfl) (Nat.le_of_ble_eq_true rfl) (Nat.le_of_ble_eq_true rfl) (Nat.le_of_ble_eq_true rfl) rfl (fun v1659 h qv1659 hok => ?_) (fun e1660 h qe1660 hok => absurd qe1660 (by intro q; obtain ⟨_, q, _⟩ := q; cases q))
    obtain ⟨x1661, qx1661, hx1661⟩ := qv1659
    obtain rfl := Sum.inl.inj qx1661
    rcases hx1661 with ⟨rfl, c1662a, c1662b⟩ | rfl
    ·
      obtain ⟨g1663, hg1663, rfl⟩ := q_chk2 (by omega) c1662a c1662b
      refine q_if_eq (tgt := 23) dX5_knows_16 (by decide) (fun q => absurd q (by decide)) (fun _ => ?_)
      refine q_iconst (v := nI 0) dX5_knows_19 rfl ?_
      refine q_goto (tgt := 24) dX5_knows_20 (by decide) ?_
      refine t_putc 0 (z' := 0) kX5 (by decide) wPX5_66 rfl dX5_knows_24 hok mG_o rfl ⟨rfl, rfl⟩ (fun h hok => ?_)
      replace hok := mG_setT hok
      refine q_aload_n dX5_knows_27 rfl ?_
      refine t_getc 0 kX5 (by decide) wPX5_66 dX5_knows_28 hok mG_o rfl ?_
      refine q_if_ne (tgt := 38) dX5_knows_31 (by decide) (fun q => absurd q (by decide)) (fun _ => ?_)
      refine q_iconst (v := nI 1) dX5_knows_34 rfl ?_
      refine q_goto (tgt := 39) dX5_knows_35 (by decide) ?_
      exact q_iret dX5_knows_39 rfl (rfl) ⟨0, s, ⟨⟨_, rfl, Or.inl ⟨rfl, ⟨_, by assumption, rfl⟩, ⟨_, by assumption, rfl⟩⟩⟩, rfl⟩, hok, rfl⟩
    ·
      refine q_if_eq (tgt := 23) dX5_knows_16 (by decide) (fun _ => ?_) (fun q => absurd q (by decide))
      refine q_iconst (v := nI 1) dX5_knows_23 rfl ?_
      refine t_putc 0 (z' := 1) kX5 (by decide) wPX5_66 rfl dX5_knows_24 hok mG_o rfl ⟨rfl, rfl⟩ (fun h hok => ?_)
      replace hok := mG_setT hok
      refine q_aload_n dX5_knows_27 rfl ?_
      refine t_getc 0 kX5 (by decide) wPX5_66 dX5_knows_28 hok mG_o rfl ?_
      refine q_if_ne (tgt := 38) dX5_knows_31 (by decide) (fun _ => ?_) (fun q => absurd q (by decide))
      refine q_iconst (v := nI 0) dX5_knows_38 rfl ?_
      exact q_iret dX5_knows_39 rfl (rfl) ⟨1, s, ⟨⟨_, rfl, Or.inr rfl⟩, rfl⟩, hok, rfl⟩
  ·
    refine q_if_eq (tgt := 23) dX5_knows_6 (by decide) (fun _ => ?_) (fun q => absurd q (by decide))
    refine q_iconst (v := nI 1) dX5_knows_23 rfl ?_
    refine t_putc 0 (z' := 1) kX5 (by decide) wPX5_66 rfl dX5_knows_24 hok mG_o rfl ⟨rfl, rfl⟩ (fun h hok => ?_)
    replace hok := mG_setT hok
    refine q_aload_n dX5_knows_27 rfl ?_
    refine t_getc 0 kX5 (by decide) wPX5_66 dX5_knows_28 hok mG_o rfl ?_
    refine q_if_ne (tgt := 38) dX5_knows_31 (by decide) (fun _ => ?_) (fun q => absurd q (by decide))
    refine q_iconst (v := nI 0) dX5_knows_38 rfl ?_
    exact q_iret dX5_knows_39 rfl (rfl) ⟨1, s, ⟨⟨_, rfl, Or.inr rfl⟩, rfl⟩, hok, rfl⟩
set_option maxRecDepth 20000 in
set_option maxHeartbeats 4000000 in
theorem sX5_mode (Sc : q_S) (Γ : Nat → q_K) (n o ml th s : Nat) (hB : mB Γ o) (hml : ml ≤ 4) (a1 : Int32) (a2 : Int32) : q_mod Sc Γ o ml mX5_mode [.ref o, .int (a1), .int (a2)] n th s (fun O th' s' => q_RI O ∧ s' ≤ s + 0) := by
  intro h hok
  show q_A Sc mX5_mode 0 [.ref o, .int (a1), .int (a2)] [] h n 0 0 (fun O h' n' => ∃ th' s', (fun O th' s' => q_RI O ∧ s' ≤ s + 0) O th' s' ∧ q_ok (mG Γ o ml th' s') h' ∧ n' = n)
  refine q_aload_n dX5_mode_0 rfl ?_
  refine q_iload_n dX5_mode_1 rfl ?_
  refine q_iload_n dX5_mode_2 rfl ?_
  refine t_callM (M' := mX5_knows) [.int (a1), .int (a2)] [] dX5_mode_3 wPX5_136v wIX5_knows wSX5_knows iX5_knows oX5_knows rfl hok (sX5_knows Sc Γ n o ml (th) (s) hB hml (a1) (a2)) (Nat.le_of_ble_eq_true rfl) (Nat.le_of_ble_eq_true rfl) (Nat.le_of_ble_eq_true rfl) rfl (fun _ _ _ q => by obtain ⟨⟨_, q, _⟩, _⟩ := q; cases q) (fun v1665 h thv1665 sv1665 qv1665 hok => ?_)
  obtain ⟨⟨x1666, qx1666, hx1666⟩, esv1665⟩ := qv1665
  rw [esv1665] at hok
  obtain rfl := Sum.inl.inj qx1666
  rcases hx1666 with ⟨rfl, ⟨j1667, hj1667, rfl⟩, g1668, hg1668, rfl⟩ | rfl
  ·
    refine q_if_eq (tgt := 23) dX5_mode_6 (by decide) (fun q => absurd q (by decide)) (fun _ => ?_)
    refine q_aload_n dX5_mode_9 rfl ?_
    refine t_getr 8 kX5 (by decide) wPX5_28 dX5_mode_10 hok mG_o rfl ?_
    refine q_bipush (v := nI 8) dX5_mode_13 rfl ?_
    refine q_iload_n dX5_mode_15 rfl ?_
    refine t_imul_n dX5_mode_16 ?_
    refine q_iload_n dX5_mode_17 rfl ?_
    refine t_iadd_n dX5_mode_18 ?_
    refine t_iald dX5_mode_19 hok (mG_a6 (ml := ml) (th := thv1665) (s := s) hB) (by exact vp_in_nI (by omega) (by omega)) (fun x1669 => ?_)
    refine q_goto (tgt := 24) dX5_mode_20 (by decide) ?_
    exact q_iret dX5_mode_24 rfl (rfl) ⟨thv1665, s, ⟨⟨_, rfl⟩, by omega⟩, hok, rfl⟩
  ·
    refine q_if_eq (tgt := 23) dX5_mode_6 (by decide) (fun _ => ?_) (fun q => absurd q (by decide))
    refine q_iconst (v := nI 0) dX5_mode_23 rfl ?_
    exact q_iret dX5_mode_24 rfl (rfl) ⟨thv1665, s, ⟨⟨_, rfl⟩, by omega⟩, hok, rfl⟩
set_option maxRecDepth 20000 in
set_option maxHeartbeats 4000000 in
theorem sX5_sources (Sc : q_S) (Γ : Nat → q_K) (n o ml th s : Nat) (hB : mB Γ o) (hml : ml ≤ 4) (a1 : Int32) (a2 : Int32) (a3 : Int32) (b3 : q_bl a3) : q_mod Sc Γ o ml mX5_sources [.ref o, .int (a1), .int (a2), .int (a3)] n th s (fun O th' s' => q_RI O ∧ s' ≤ s + 0) := by
  intro h hok
  show q_A Sc mX5_sources 0 [.ref o, .int (a1), .int (a2), .int (a3)] [] h n 0 0 (fun O h' n' => ∃ th' s', (fun O th' s' => q_RI O ∧ s' ≤ s + 0) O th' s' ∧ q_ok (mG Γ o ml th' s') h' ∧ n' = n)
  refine q_aload_n dX5_sources_0 rfl ?_
  refine q_iload_n dX5_sources_1 rfl ?_
  refine q_iload_n dX5_sources_2 rfl ?_
  refine t_callM (M' := mX5_knows) [.int (a1), .int (a2)] [] dX5_sources_3 wPX5_136v wIX5_knows wSX5_knows iX5_knows oX5_knows rfl hok (sX5_knows Sc Γ n o ml (th) (s) hB hml (a1) (a2)) (Nat.le_of_ble_eq_true rfl) (Nat.le_of_ble_eq_true rfl) (Nat.le_of_ble_eq_true rfl) rfl (fun _ _ _ q => by obtain ⟨⟨_, q, _⟩, _⟩ := q; cases q) (fun v1671 h thv1671 sv1671 qv1671 hok => ?_)
  obtain ⟨⟨x1672, qx1672, hx1672⟩, esv1671⟩ := qv1671
  rw [esv1671] at hok
  obtain rfl := Sum.inl.inj qx1672
  rcases hx1672 with ⟨rfl, ⟨j1673, hj1673, rfl⟩, g1674, hg1674, rfl⟩ | rfl
  ·
    refine q_if_eq (tgt := 31) dX5_sources_6 (by decide) (fun q => absurd q (by decide)) (fun _ => ?_)
    refine q_aload_n dX5_sources_9 rfl ?_
    refine q_bipush (v := nI 8) dX5_sources_10 rfl ?_
    refine q_iload_n dX5_sources_12 rfl ?_
    refine t_imul_n dX5_sources_13 ?_
    refine q_iload_n dX5_sources_14 rfl ?_
    refine t_iadd_n dX5_sources_15 ?_
    refine q_iload_n dX5_sources_16 rfl ?_
    refine q_if_eq (tgt := 24) dX5_sources_17 (by decide) (fun c1675 => ?_) (fun c1675 => ?_)
    ·
      refine q_iconst (v := nI 2) dX5_sources_24 rfl ?_
      refine t_callM (M' := mX5_setOf) [.int (nI ((8 * j1673) + (g1674))), .int (nI 2)] [] dX5_sources_25 wPX5_90v wIX5_setOf wSX5_setOf iX5_setOf oX5_setOf rfl hok (sX5_setOf Sc Γ n o ml (thv1671) (s) hB hml ((8 * j1673) + (g1674)) (by omega) (nI 2)) (Nat.le_of_ble_eq_true rfl) (Nat.le_of_ble_eq_true rfl) (Nat.le_of_ble_eq_true rfl) rfl (fun _ _ _ q => by obtain ⟨q, _⟩ := q; obtain ⟨_, q⟩ := q; cases q) (fun v1676 h thv1676 sv1676 qv1676 hok => ?_)
      obtain ⟨qv1676, etv1676, esv1676⟩ := qv1676
      rw [etv1676, esv1676] at hok
      obtain ⟨x1677, qx1677⟩ := qv1676
      obtain rfl := Sum.inl.inj qx1677
      refine q_goto (tgt := 32) dX5_sources_28 (by decide) ?_
      exact q_iret dX5_sources_32 rfl (rfl) ⟨thv1671, s, ⟨⟨_, rfl⟩, by omega⟩, hok, rfl⟩
    ·
      refine q_iconst (v := nI 1) dX5_sources_20 rfl ?_
      refine q_goto (tgt := 25) dX5_sources_21 (by decide) ?_
      refine t_callM (M' := mX5_setOf) [.int (nI ((8 * j1673) + (g1674))), .int (nI 1)] [] dX5_sources_25 wPX5_90v wIX5_setOf wSX5_setOf iX5_setOf oX5_setOf rfl hok (sX5_setOf Sc Γ n o ml (thv1671) (s) hB hml ((8 * j1673) + (g1674)) (by omega) (nI 1)) (Nat.le_of_ble_eq_true rfl) (Nat.le_of_ble_eq_true rfl) (Nat.le_of_ble_eq_true rfl) rfl (fun _ _ _ q => by obtain ⟨q, _⟩ := q; obtain ⟨_, q⟩ := q; cases q) (fun v1678 h thv1678 sv1678 qv1678 hok => ?_)
      obtain ⟨qv1678, etv1678, esv1678⟩ := qv1678
      rw [etv1678, esv1678] at hok
      obtain ⟨x1679, qx1679⟩ := qv1678
      obtain rfl := Sum.inl.inj qx1679
      refine q_goto (tgt := 32) dX5_sources_28 (by decide) ?_
      exact q_iret dX5_sources_32 rfl (rfl) ⟨thv1671, s, ⟨⟨_, rfl⟩, by omega⟩, hok, rfl⟩
  ·
    refine q_if_eq (tgt := 31) dX5_sources_6 (by decide) (fun _ => ?_) (fun q => absurd q (by decide))
    refine q_iconst (v := nI 0) dX5_sources_31 rfl ?_
    exact q_iret dX5_sources_32 rfl (rfl) ⟨thv1671, s, ⟨⟨_, rfl⟩, by omega⟩, hok, rfl⟩
set_option maxRecDepth 20000 in
set_option maxHeartbeats 4000000 in
theorem sX5_timer (Sc : q_S) (Γ : Nat → q_K) (n o ml th s : Nat) (hB : mB Γ o) (hml : ml ≤ 4) (a1 : Int32) (a2 : Int32) (a3 : Int32) : q_mod Sc Γ o ml mX5_timer [.ref o, .int (a1), .int (a2), .int (a3)] n th s (fun O th' s' => q_RI O ∧ s' ≤ s + 0) := by
  intro h hok
  show q_A Sc mX5_timer 0 [.ref o, .int (a1), .int (a2), .int (a3)] [] h n 0 0 (fun O h' n' => ∃ th' s', (fun O th' s' => q_RI O ∧ s' ≤ s + 0) O th' s' ∧ q_ok (mG Γ o ml th' s') h' ∧ n' = n)
  refine q_aload_n dX5_timer_0 rfl ?_
  refine q_aload_n dX5_timer_1 rfl ?_
  refine q_iload_n dX5_timer_2 rfl ?_
  refine t_callM (M' := mX5_isLink) [.int (a1)] [.ref o] dX5_timer_3 wPX5_117v wIX5_isLink wSX5_isLink iX5_isLink oX5_isLink rfl hok (sX5_isLink Sc Γ n o ml (th) (s) hB hml (a1)) (Nat.le_of_ble_eq_true rfl) (Nat.le_of_ble_eq_true rfl) (Nat.le_of_ble_eq_true rfl) rfl (fun _ _ _ q => by obtain ⟨⟨_, q, _⟩, _⟩ := q; cases q) (fun v1681 h thv1681 sv1681 qv1681 hok => ?_)
  obtain ⟨⟨x1682, qx1682, hx1682⟩, etv1681, esv1681⟩ := qv1681
  rw [etv1681, esv1681] at hok
  obtain rfl := Sum.inl.inj qx1682
  rcases hx1682 with ⟨rfl, j1683, hj1683, rfl⟩ | rfl
  ·
    refine q_if_eq (tgt := 33) dX5_timer_6 (by decide) (fun q => absurd q (by decide)) (fun _ => ?_)
    refine q_iload_n dX5_timer_9 rfl ?_
    refine q_iconst (v := nI 0) dX5_timer_10 rfl ?_
    refine q_bipush (v := nI 7) dX5_timer_11 rfl ?_
    refine t_callS (M' := mX5_in) [.int (a2), .int (nI 0), .int (nI 7)] [.ref o] dX5_timer_13 wPX5_120 wTX5_in wNX5 iX5_in oX5_in rfl hok (sX5_in Sc (mG Γ o ml (th) (s)) n (a2) (nI 0) (nI 7)) (Nat.le_of_ble_eq_true rfl) (Nat.le_of_ble_eq_true rfl) (Nat.le_of_ble_eq_true rfl) (Nat.le_of_ble_eq_true rfl) (Nat.le_of_ble_eq_true rfl) rfl (fun v1684 h qv1684 hok => ?_) (fun e1685 h qe1685 hok => absurd qe1685 (by intro q; obtain ⟨_, q, _⟩ := q; cases q))
    obtain ⟨x1686, qx1686, hx1686⟩ := qv1684
    obtain rfl := Sum.inl.inj qx1686
    rcases hx1686 with ⟨rfl, c1687a, c1687b⟩ | rfl
    ·
      obtain ⟨g1688, hg1688, rfl⟩ := q_chk2 (by omega) c1687a c1687b
      refine q_if_eq (tgt := 33) dX5_timer_16 (by decide) (fun q => absurd q (by decide)) (fun _ => ?_)
      refine q_iload_n dX5_timer_19 rfl ?_
      refine q_iconst (v := nI 0) dX5_timer_20 rfl ?_
      refine q_bipush (v := nI 15) dX5_timer_21 rfl ?_
      refine t_callS (M' := mX5_in) [.int (a3), .int (nI 0), .int (nI 15)] [.ref o] dX5_timer_23 wPX5_120 wTX5_in wNX5 iX5_in oX5_in rfl hok (sX5_in Sc (mG Γ o ml (th) (s)) n (a3) (nI 0) (nI 15)) (Nat.le_of_ble_eq_true rfl) (Nat.le_of_ble_eq_true rfl) (Nat.le_of_ble_eq_true rfl) (Nat.le_of_ble_eq_true rfl) (Nat.le_of_ble_eq_true rfl) rfl (fun v1689 h qv1689 hok => ?_) (fun e1690 h qe1690 hok => absurd qe1690 (by intro q; obtain ⟨_, q, _⟩ := q; cases q))
      obtain ⟨x1691, qx1691, hx1691⟩ := qv1689
      obtain rfl := Sum.inl.inj qx1691
      rcases hx1691 with ⟨rfl, c1692a, c1692b⟩ | rfl
      ·
        obtain ⟨g1693, hg1693, rfl⟩ := q_chk2 (by omega) c1692a c1692b
        refine q_if_eq (tgt := 33) dX5_timer_26 (by decide) (fun q => absurd q (by decide)) (fun _ => ?_)
        refine q_iconst (v := nI 0) dX5_timer_29 rfl ?_
        refine q_goto (tgt := 34) dX5_timer_30 (by decide) ?_
        refine t_putc 0 (z' := 0) kX5 (by decide) wPX5_66 rfl dX5_timer_34 hok mG_o rfl ⟨rfl, rfl⟩ (fun h hok => ?_)
        replace hok := mG_setT hok
        refine q_aload_n dX5_timer_37 rfl ?_
        refine t_getc 0 kX5 (by decide) wPX5_66 dX5_timer_38 hok mG_o rfl ?_
        refine q_if_le (tgt := 48) dX5_timer_41 (by decide) (fun _ => ?_) (fun q => absurd q (by decide))
        refine q_aload_n dX5_timer_48 rfl ?_
        refine t_getr 11 kX5 (by decide) wPX5_37 dX5_timer_49 hok mG_o rfl ?_
        refine q_bipush (v := nI 16) dX5_timer_52 rfl ?_
        refine q_bipush (v := nI 8) dX5_timer_54 rfl ?_
        refine q_iload_n dX5_timer_56 rfl ?_
        refine t_imul_n dX5_timer_57 ?_
        refine q_iload_n dX5_timer_58 rfl ?_
        refine t_iadd_n dX5_timer_59 ?_
        refine t_imul_n dX5_timer_60 ?_
        refine q_iload_n dX5_timer_61 rfl ?_
        refine t_iadd_n dX5_timer_62 ?_
        refine t_iald dX5_timer_63 hok (mG_a9 (ml := ml) (th := 0) (s := s) hB) (by exact vp_in_nI (by omega) (by omega)) (fun x1694 => ?_)
        exact q_iret dX5_timer_64 rfl (rfl) ⟨0, s, ⟨⟨_, rfl⟩, by omega⟩, hok, rfl⟩
      ·
        refine q_if_eq (tgt := 33) dX5_timer_26 (by decide) (fun _ => ?_) (fun q => absurd q (by decide))
        refine q_iconst (v := nI 1) dX5_timer_33 rfl ?_
        refine t_putc 0 (z' := 1) kX5 (by decide) wPX5_66 rfl dX5_timer_34 hok mG_o rfl ⟨rfl, rfl⟩ (fun h hok => ?_)
        replace hok := mG_setT hok
        refine q_aload_n dX5_timer_37 rfl ?_
        refine t_getc 0 kX5 (by decide) wPX5_66 dX5_timer_38 hok mG_o rfl ?_
        refine q_if_le (tgt := 48) dX5_timer_41 (by decide) (fun q => absurd q (by decide)) (fun _ => ?_)
        refine q_iconst (v := nI 0) dX5_timer_44 rfl ?_
        refine q_goto (tgt := 64) dX5_timer_45 (by decide) ?_
        exact q_iret dX5_timer_64 rfl (rfl) ⟨1, s, ⟨⟨_, rfl⟩, by omega⟩, hok, rfl⟩
    ·
      refine q_if_eq (tgt := 33) dX5_timer_16 (by decide) (fun _ => ?_) (fun q => absurd q (by decide))
      refine q_iconst (v := nI 1) dX5_timer_33 rfl ?_
      refine t_putc 0 (z' := 1) kX5 (by decide) wPX5_66 rfl dX5_timer_34 hok mG_o rfl ⟨rfl, rfl⟩ (fun h hok => ?_)
      replace hok := mG_setT hok
      refine q_aload_n dX5_timer_37 rfl ?_
      refine t_getc 0 kX5 (by decide) wPX5_66 dX5_timer_38 hok mG_o rfl ?_
      refine q_if_le (tgt := 48) dX5_timer_41 (by decide) (fun q => absurd q (by decide)) (fun _ => ?_)
      refine q_iconst (v := nI 0) dX5_timer_44 rfl ?_
      refine q_goto (tgt := 64) dX5_timer_45 (by decide) ?_
      exact q_iret dX5_timer_64 rfl (rfl) ⟨1, s, ⟨⟨_, rfl⟩, by omega⟩, hok, rfl⟩
  ·
    refine q_if_eq (tgt := 33) dX5_timer_6 (by decide) (fun _ => ?_) (fun q => absurd q (by decide))
    refine q_iconst (v := nI 1) dX5_timer_33 rfl ?_
    refine t_putc 0 (z' := 1) kX5 (by decide) wPX5_66 rfl dX5_timer_34 hok mG_o rfl ⟨rfl, rfl⟩ (fun h hok => ?_)
    replace hok := mG_setT hok
    refine q_aload_n dX5_timer_37 rfl ?_
    refine t_getc 0 kX5 (by decide) wPX5_66 dX5_timer_38 hok mG_o rfl ?_
    refine q_if_le (tgt := 48) dX5_timer_41 (by decide) (fun q => absurd q (by decide)) (fun _ => ?_)
    refine q_iconst (v := nI 0) dX5_timer_44 rfl ?_
    refine q_goto (tgt := 64) dX5_timer_45 (by decide) ?_
    exact q_iret dX5_timer_64 rfl (rfl) ⟨1, s, ⟨⟨_, rfl⟩, by omega⟩, hok, rfl⟩
set_option maxRecDepth 20000 in
set_option maxHeartbeats 4000000 in
theorem sX5_groupTimer (Sc : q_S) (Γ : Nat → q_K) (n o ml th s : Nat) (hB : mB Γ o) (hml : ml ≤ 4) (a1 : Int32) (a2 : Int32) : q_mod Sc Γ o ml mX5_groupTimer [.ref o, .int (a1), .int (a2)] n th s (fun O th' s' => q_RI O ∧ s' ≤ s + 0) := by
  intro h hok
  show q_A Sc mX5_groupTimer 0 [.ref o, .int (a1), .int (a2)] [] h n 0 0 (fun O h' n' => ∃ th' s', (fun O th' s' => q_RI O ∧ s' ≤ s + 0) O th' s' ∧ q_ok (mG Γ o ml th' s') h' ∧ n' = n)
  refine q_aload_n dX5_groupTimer_0 rfl ?_
  refine q_iload_n dX5_groupTimer_1 rfl ?_
  refine q_iload_n dX5_groupTimer_2 rfl ?_
  refine t_callM (M' := mX5_knows) [.int (a1), .int (a2)] [] dX5_groupTimer_3 wPX5_136v wIX5_knows wSX5_knows iX5_knows oX5_knows rfl hok (sX5_knows Sc Γ n o ml (th) (s) hB hml (a1) (a2)) (Nat.le_of_ble_eq_true rfl) (Nat.le_of_ble_eq_true rfl) (Nat.le_of_ble_eq_true rfl) rfl (fun _ _ _ q => by obtain ⟨⟨_, q, _⟩, _⟩ := q; cases q) (fun v1696 h thv1696 sv1696 qv1696 hok => ?_)
  obtain ⟨⟨x1697, qx1697, hx1697⟩, esv1696⟩ := qv1696
  rw [esv1696] at hok
  obtain rfl := Sum.inl.inj qx1697
  rcases hx1697 with ⟨rfl, ⟨j1698, hj1698, rfl⟩, g1699, hg1699, rfl⟩ | rfl
  ·
    refine q_if_eq (tgt := 23) dX5_groupTimer_6 (by decide) (fun q => absurd q (by decide)) (fun _ => ?_)
    refine q_aload_n dX5_groupTimer_9 rfl ?_
    refine t_getr 9 kX5 (by decide) wPX5_31 dX5_groupTimer_10 hok mG_o rfl ?_
    refine q_bipush (v := nI 8) dX5_groupTimer_13 rfl ?_
    refine q_iload_n dX5_groupTimer_15 rfl ?_
    refine t_imul_n dX5_groupTimer_16 ?_
    refine q_iload_n dX5_groupTimer_17 rfl ?_
    refine t_iadd_n dX5_groupTimer_18 ?_
    refine t_iald dX5_groupTimer_19 hok (mG_a7 (ml := ml) (th := thv1696) (s := s) hB) (by exact vp_in_nI (by omega) (by omega)) (fun x1700 => ?_)
    refine q_goto (tgt := 24) dX5_groupTimer_20 (by decide) ?_
    exact q_iret dX5_groupTimer_24 rfl (rfl) ⟨thv1696, s, ⟨⟨_, rfl⟩, by omega⟩, hok, rfl⟩
  ·
    refine q_if_eq (tgt := 23) dX5_groupTimer_6 (by decide) (fun _ => ?_) (fun q => absurd q (by decide))
    refine q_iconst (v := nI 0) dX5_groupTimer_23 rfl ?_
    exact q_iret dX5_groupTimer_24 rfl (rfl) ⟨thv1696, s, ⟨⟨_, rfl⟩, by omega⟩, hok, rfl⟩
set_option maxRecDepth 20000 in
set_option maxHeartbeats 4000000 in
theorem sX5_sent (Sc : q_S) (Γ : Nat → q_K) (n o ml th s : Nat) (hB : mB Γ o) (hml : ml ≤ 4)  : q_mod Sc Γ o ml mX5_sent [.ref o] n th s (fun O th' s' => q_RI O ∧ s' ≤ s + 0) := by
  intro h hok
  show q_A Sc mX5_sent 0 [.ref o] [] h n 0 0 (fun O h' n' => ∃ th' s', (fun O th' s' => q_RI O ∧ s' ≤ s + 0) O th' s' ∧ q_ok (mG Γ o ml th' s') h' ∧ n' = n)
  refine q_aload_n dX5_sent_0 rfl ?_
  refine q_iconst (v := nI 0) dX5_sent_1 rfl ?_
  refine t_putc 0 (z' := 0) kX5 (by decide) wPX5_66 rfl dX5_sent_2 hok mG_o rfl ⟨rfl, rfl⟩ (fun h hok => ?_)
  replace hok := mG_setT hok
  refine q_aload_n dX5_sent_5 rfl ?_
  refine t_getc 15 kX5 (by decide) wPX5_72 dX5_sent_6 hok mG_o rfl ?_
  exact q_iret dX5_sent_9 rfl (rfl) ⟨0, s, ⟨⟨_, rfl⟩, by omega⟩, hok, rfl⟩
set_option maxRecDepth 20000 in
set_option maxHeartbeats 4000000 in
theorem sX5_told (Sc : q_S) (Γ : Nat → q_K) (n o ml th s : Nat) (hB : mB Γ o) (hml : ml ≤ 4) (a1 : Int32) (a2 : Int32) : q_mod Sc Γ o ml mX5_told [.ref o, .int (a1), .int (a2)] n th s (fun O th' s' => q_RI O ∧ s' ≤ s + 0) := by
  intro h hok
  show q_A Sc mX5_told 0 [.ref o, .int (a1), .int (a2), .retAddr 0, .retAddr 0] [] h n 0 0 (fun O h' n' => ∃ th' s', (fun O th' s' => q_RI O ∧ s' ≤ s + 0) O th' s' ∧ q_ok (mG Γ o ml th' s') h' ∧ n' = n)
  refine q_aload_n dX5_told_0 rfl ?_
  refine q_aload_n dX5_told_1 rfl ?_
  refine q_iload_n dX5_told_2 rfl ?_
  refine t_callM (M' := mX5_isLink) [.int (a1)] [.ref o] dX5_told_3 wPX5_117v wIX5_isLink wSX5_isLink iX5_isLink oX5_isLink rfl hok (sX5_isLink Sc Γ n o ml (th) (s) hB hml (a1)) (Nat.le_of_ble_eq_true rfl) (Nat.le_of_ble_eq_true rfl) (Nat.le_of_ble_eq_true rfl) rfl (fun _ _ _ q => by obtain ⟨⟨_, q, _⟩, _⟩ := q; cases q) (fun v1703 h thv1703 sv1703 qv1703 hok => ?_)
  obtain ⟨⟨x1704, qx1704, hx1704⟩, etv1703, esv1703⟩ := qv1703
  rw [etv1703, esv1703] at hok
  obtain rfl := Sum.inl.inj qx1704
  rcases hx1704 with ⟨rfl, j1705, hj1705, rfl⟩ | rfl
  ·
    refine q_if_ne (tgt := 13) dX5_told_6 (by decide) (fun _ => ?_) (fun q => absurd q (by decide))
    refine q_iload_n dX5_told_13 rfl ?_
    refine q_iconst (v := nI 0) dX5_told_14 rfl ?_
    refine q_iconst (v := nI 5) dX5_told_15 rfl ?_
    refine t_callS (M' := mX5_in) [.int (a2), .int (nI 0), .int (nI 5)] [.ref o] dX5_told_16 wPX5_120 wTX5_in wNX5 iX5_in oX5_in rfl hok (sX5_in Sc (mG Γ o ml (th) (s)) n (a2) (nI 0) (nI 5)) (Nat.le_of_ble_eq_true rfl) (Nat.le_of_ble_eq_true rfl) (Nat.le_of_ble_eq_true rfl) (Nat.le_of_ble_eq_true rfl) (Nat.le_of_ble_eq_true rfl) rfl (fun v1706 h qv1706 hok => ?_) (fun e1707 h qe1707 hok => absurd qe1707 (by intro q; obtain ⟨_, q, _⟩ := q; cases q))
    obtain ⟨x1708, qx1708, hx1708⟩ := qv1706
    obtain rfl := Sum.inl.inj qx1708
    rcases hx1708 with ⟨rfl, c1709a, c1709b⟩ | rfl
    ·
      obtain ⟨g1710, hg1710, rfl⟩ := q_chk2 (by omega) c1709a c1709b
      refine q_if_eq (tgt := 26) dX5_told_19 (by decide) (fun q => absurd q (by decide)) (fun _ => ?_)
      refine q_iconst (v := nI 0) dX5_told_22 rfl ?_
      refine q_goto (tgt := 27) dX5_told_23 (by decide) ?_
      refine t_putc 0 (z' := 0) kX5 (by decide) wPX5_66 rfl dX5_told_27 hok mG_o rfl ⟨rfl, rfl⟩ (fun h hok => ?_)
      replace hok := mG_setT hok
      refine q_aload_n dX5_told_30 rfl ?_
      refine t_getc 0 kX5 (by decide) wPX5_66 dX5_told_31 hok mG_o rfl ?_
      refine q_if_le (tgt := 39) dX5_told_34 (by decide) (fun _ => ?_) (fun q => absurd q (by decide))
      refine q_iload_n dX5_told_39 rfl ?_
      refine q_if_ne (tgt := 49) dX5_told_40 (by decide) (fun c1711 => ?_) (fun c1711 => ?_)
      ·
        refine q_iload_n dX5_told_49 rfl ?_
        refine q_iconst (v := nI 1) dX5_told_50 rfl ?_
        refine q_icmp_ne (tgt := 61) dX5_told_51 (by decide) (fun c1712 => ?_) (fun c1712 => ?_)
        ·
          refine q_iload_n dX5_told_61 rfl ?_
          refine q_iconst (v := nI 2) dX5_told_62 rfl ?_
          refine q_icmp_ne (tgt := 73) dX5_told_63 (by decide) (fun c1713 => ?_) (fun c1713 => ?_)
          ·
            refine q_iload_n dX5_told_73 rfl ?_
            refine q_iconst (v := nI 3) dX5_told_74 rfl ?_
            refine q_icmp_ne (tgt := 85) dX5_told_75 (by decide) (fun c1714 => ?_) (fun c1714 => ?_)
            ·
              refine q_iload_n dX5_told_85 rfl ?_
              refine q_iconst (v := nI 5) dX5_told_86 rfl ?_
              refine q_icmp_ne (tgt := 109) dX5_told_87 (by decide) (fun c1715 => ?_) (fun c1715 => ?_)
              ·
                refine q_iconst (v := nI 0) dX5_told_109 rfl ?_
                refine t_istore [.ref o, .int (nI j1705), .int (nI g1710), .int (nI 0), .retAddr 0] (Or.inl ⟨3, rfl, rfl, dX5_told_110⟩) (by decide) rfl ?_
                refine q_iconst (v := nI 0) dX5_told_111 rfl ?_
                refine t_istore [.ref o, .int (nI j1705), .int (nI g1710), .int (nI 0), .int (nI 0)] (Or.inr ⟨rfl, dX5_told_112⟩) (by decide) rfl ?_
                have hl1716 : ∀ (d1718 k1717 : Nat) (x1719 : Int32) (h : q_H), k1717 + d1718 = 8 → q_ok (mG Γ o ml (0) (s)) h → q_A Sc mX5_told 114 [.ref o, .int (nI j1705), .int (nI g1710), .int (x1719), .int (nI k1717)] [] h n 0 0 (fun O h' n' => ∃ th' s', (fun O th' s' => q_RI O ∧ s' ≤ s + 0) O th' s' ∧ q_ok (mG Γ o ml th' s') h' ∧ n' = n) := by
                  intro d1718
                  induction d1718 with
                  | zero =>
                    intro k1717 x1719 h el1716 hok
                    refine q_iload dX5_told_114 rfl ?_
                    refine q_bipush (v := nI 8) dX5_told_116 rfl ?_
                    refine t_icmp_ge_n (tgt := 151) (by omega) (by omega) dX5_told_118 (by decide) (fun c1720 => ?_) (fun c1720 => ?_)
                    rotate_left
                    · exact absurd c1720 (by omega)
                    refine q_iload_n dX5_told_151 rfl ?_
                    exact q_iret dX5_told_152 rfl (rfl) ⟨0, s, ⟨⟨_, rfl⟩, by omega⟩, hok, rfl⟩
                  | succ d1718 ihl1716 =>
                    intro k1717 x1719 h el1716 hok
                    refine q_iload dX5_told_114 rfl ?_
                    refine q_bipush (v := nI 8) dX5_told_116 rfl ?_
                    refine t_icmp_ge_n (tgt := 151) (by omega) (by omega) dX5_told_118 (by decide) (fun c1721 => ?_) (fun c1721 => ?_)
                    · exact absurd c1721 (by omega)
                    refine q_aload_n dX5_told_121 rfl ?_
                    refine t_getr 8 kX5 (by decide) wPX5_28 dX5_told_122 hok mG_o rfl ?_
                    refine q_bipush (v := nI 8) dX5_told_125 rfl ?_
                    refine q_iload_n dX5_told_127 rfl ?_
                    refine t_imul_n dX5_told_128 ?_
                    refine q_iload dX5_told_129 rfl ?_
                    refine t_iadd_n dX5_told_131 ?_
                    refine t_iald dX5_told_132 hok (mG_a6 (ml := ml) (th := 0) (s := s) hB) (by exact vp_in_nI (by omega) (by omega)) (fun x1722 => ?_)
                    refine q_iconst (v := -1) dX5_told_133 rfl ?_
                    refine q_icmp_ne (tgt := 141) dX5_told_134 (by decide) (fun c1723 => ?_) (fun c1723 => ?_)
                    ·
                      refine q_iload_n dX5_told_141 rfl ?_
                      refine q_iconst (v := nI 1) dX5_told_142 rfl ?_
                      refine q_iadd dX5_told_143 ?_
                      generalize (x1719) + (nI 1) = z1724
                      refine t_istore [.ref o, .int (nI j1705), .int (nI g1710), .int (z1724), .int (nI k1717)] (Or.inl ⟨3, rfl, rfl, dX5_told_144⟩) (by decide) rfl ?_
                      refine t_iinc_n [.ref o, .int (nI j1705), .int (nI g1710), .int (z1724), .int (nI (k1717 + 1))] dX5_told_145 rfl (by decide) rfl ?_
                      refine q_goto (tgt := 114) dX5_told_148 (by decide) ?_
                      exact ihl1716 (k1717 + 1) (z1724) h (by omega) hok
                    ·
                      refine q_iload_n dX5_told_137 rfl ?_
                      refine q_goto (tgt := 144) dX5_told_138 (by decide) ?_
                      refine t_istore [.ref o, .int (nI j1705), .int (nI g1710), .int (x1719), .int (nI k1717)] (Or.inl ⟨3, rfl, rfl, dX5_told_144⟩) (by decide) rfl ?_
                      refine t_iinc_n [.ref o, .int (nI j1705), .int (nI g1710), .int (x1719), .int (nI (k1717 + 1))] dX5_told_145 rfl (by decide) rfl ?_
                      refine q_goto (tgt := 114) dX5_told_148 (by decide) ?_
                      exact ihl1716 (k1717 + 1) (x1719) h (by omega) hok
                exact hl1716 (8) 0 (nI 0) h (by omega) hok
              ·
                refine q_aload_n dX5_told_90 rfl ?_
                refine q_iload_n dX5_told_91 rfl ?_
                refine t_callM (M' := mX5_asks) [.int (nI j1705)] [] dX5_told_92 wPX5_75v wIX5_asks wSX5_asks iX5_asks oX5_asks rfl hok (sX5_asks Sc Γ n o ml (0) (s) hB hml (j1705) (by omega)) (Nat.le_of_ble_eq_true rfl) (Nat.le_of_ble_eq_true rfl) (Nat.le_of_ble_eq_true rfl) rfl (fun _ _ _ q => by obtain ⟨q, _⟩ := q; obtain ⟨_, q, _⟩ := q; cases q) (fun v1725 h thv1725 sv1725 qv1725 hok => ?_)
                obtain ⟨qv1725, etv1725, esv1725⟩ := qv1725
                rw [etv1725, esv1725] at hok
                obtain ⟨x1726, qx1726, bx1726⟩ := qv1725
                obtain rfl := Sum.inl.inj qx1726
                refine q_if_eq (tgt := 107) dX5_told_95 (by decide) (fun c1727 => ?_) (fun c1727 => ?_)
                ·
                  refine q_iconst (v := nI 0) dX5_told_107 rfl ?_
                  exact q_iret dX5_told_108 rfl (rfl) ⟨0, s, ⟨⟨_, rfl⟩, by omega⟩, hok, rfl⟩
                ·
                  refine q_aload_n dX5_told_98 rfl ?_
                  refine t_getr 7 kX5 (by decide) wPX5_25 dX5_told_99 hok mG_o rfl ?_
                  refine q_iload_n dX5_told_102 rfl ?_
                  refine t_iald dX5_told_103 hok (mG_a5 (ml := ml) (th := 0) (s := s) hB) (by exact vp_in_nI (by omega) (by omega)) (fun x1728 => ?_)
                  refine q_goto (tgt := 108) dX5_told_104 (by decide) ?_
                  exact q_iret dX5_told_108 rfl (rfl) ⟨0, s, ⟨⟨_, rfl⟩, by omega⟩, hok, rfl⟩
            ·
              refine q_aload_n dX5_told_78 rfl ?_
              refine t_getr 6 kX5 (by decide) wPX5_22 dX5_told_79 hok mG_o rfl ?_
              refine q_iload_n dX5_told_82 rfl ?_
              refine t_iald dX5_told_83 hok (mG_a4 (ml := ml) (th := 0) (s := s) hB) (by exact vp_in_nI (by omega) (by omega)) (fun x1729 => ?_)
              exact q_iret dX5_told_84 rfl (rfl) ⟨0, s, ⟨⟨_, rfl⟩, by omega⟩, hok, rfl⟩
          ·
            refine q_aload_n dX5_told_66 rfl ?_
            refine t_getr 5 kX5 (by decide) wPX5_19 dX5_told_67 hok mG_o rfl ?_
            refine q_iload_n dX5_told_70 rfl ?_
            refine t_iald dX5_told_71 hok (mG_a3 (ml := ml) (th := 0) (s := s) hB) (by exact vp_in_nI (by omega) (by omega)) (fun x1730 => ?_)
            exact q_iret dX5_told_72 rfl (rfl) ⟨0, s, ⟨⟨_, rfl⟩, by omega⟩, hok, rfl⟩
        ·
          refine q_aload_n dX5_told_54 rfl ?_
          refine t_getr 2 kX5 (by decide) wPX5_7 dX5_told_55 hok mG_o rfl ?_
          refine q_iload_n dX5_told_58 rfl ?_
          refine t_iald dX5_told_59 hok (mG_a0 (ml := ml) (th := 0) (s := s) hB) (by exact vp_in_nI (by omega) (by omega)) (fun x1731 => ?_)
          exact q_iret dX5_told_60 rfl (rfl) ⟨0, s, ⟨⟨_, rfl⟩, by omega⟩, hok, rfl⟩
      ·
        refine q_aload_n dX5_told_43 rfl ?_
        refine q_iload_n dX5_told_44 rfl ?_
        refine t_callM (M' := mX5_grace) [.int (nI j1705)] [] dX5_told_45 wPX5_98v wIX5_grace wSX5_grace iX5_grace oX5_grace rfl hok (sX5_grace Sc Γ n o ml (0) (s) hB hml (j1705) (by omega)) (Nat.le_of_ble_eq_true rfl) (Nat.le_of_ble_eq_true rfl) (Nat.le_of_ble_eq_true rfl) rfl (fun _ _ _ q => by obtain ⟨q, _⟩ := q; obtain ⟨_, q⟩ := q; cases q) (fun v1732 h thv1732 sv1732 qv1732 hok => ?_)
        obtain ⟨qv1732, etv1732, esv1732⟩ := qv1732
        rw [etv1732, esv1732] at hok
        obtain ⟨x1733, qx1733⟩ := qv1732
        obtain rfl := Sum.inl.inj qx1733
        exact q_iret dX5_told_48 rfl (rfl) ⟨0, s, ⟨⟨_, rfl⟩, by omega⟩, hok, rfl⟩
    ·
      refine q_if_eq (tgt := 26) dX5_told_19 (by decide) (fun _ => ?_) (fun q => absurd q (by decide))
      refine q_iconst (v := nI 2) dX5_told_26 rfl ?_
      refine t_putc 0 (z' := 2) kX5 (by decide) wPX5_66 rfl dX5_told_27 hok mG_o rfl ⟨rfl, rfl⟩ (fun h hok => ?_)
      replace hok := mG_setT hok
      refine q_aload_n dX5_told_30 rfl ?_
      refine t_getc 0 kX5 (by decide) wPX5_66 dX5_told_31 hok mG_o rfl ?_
      refine q_if_le (tgt := 39) dX5_told_34 (by decide) (fun q => absurd q (by decide)) (fun _ => ?_)
      refine q_iconst (v := nI 0) dX5_told_37 rfl ?_
      exact q_iret dX5_told_38 rfl (rfl) ⟨2, s, ⟨⟨_, rfl⟩, by omega⟩, hok, rfl⟩
  ·
    refine q_if_ne (tgt := 13) dX5_told_6 (by decide) (fun q => absurd q (by decide)) (fun _ => ?_)
    refine q_iconst (v := nI 1) dX5_told_9 rfl ?_
    refine q_goto (tgt := 27) dX5_told_10 (by decide) ?_
    refine t_putc 0 (z' := 1) kX5 (by decide) wPX5_66 rfl dX5_told_27 hok mG_o rfl ⟨rfl, rfl⟩ (fun h hok => ?_)
    replace hok := mG_setT hok
    refine q_aload_n dX5_told_30 rfl ?_
    refine t_getc 0 kX5 (by decide) wPX5_66 dX5_told_31 hok mG_o rfl ?_
    refine q_if_le (tgt := 39) dX5_told_34 (by decide) (fun q => absurd q (by decide)) (fun _ => ?_)
    refine q_iconst (v := nI 0) dX5_told_37 rfl ?_
    exact q_iret dX5_told_38 rfl (rfl) ⟨1, s, ⟨⟨_, rfl⟩, by omega⟩, hok, rfl⟩
theorem q_ltle {a b : Int32} (h : a < b) : ¬ b ≤ a := fun q => by
  rw [Int32.lt_iff_toInt_lt] at h
  rw [Int32.le_iff_toInt_le] at q
  omega

set_option maxRecDepth 20000 in
set_option maxHeartbeats 4000000 in
theorem sX5_asked (Sc : q_S) (Γ : Nat → q_K) (n o ml th s : Nat) (hB : mB Γ o) (hml : ml ≤ 4) (hs : s ≤ 1600000000) (a1 : Int32) (a2 : Int32) : q_mod Sc Γ o ml mX5_asked [.ref o, .int (a1), .int (a2)] n th s (fun O th' s' => q_RI O ∧ s' ≤ s + 0) := by
  intro h hok
  show q_A Sc mX5_asked 0 [.ref o, .int (a1), .int (a2), .retAddr 0] [] h n 0 0 (fun O h' n' => ∃ th' s', (fun O th' s' => q_RI O ∧ s' ≤ s + 0) O th' s' ∧ q_ok (mG Γ o ml th' s') h' ∧ n' = n)
  refine q_aload_n dX5_asked_0 rfl ?_
  refine q_iload_n dX5_asked_1 rfl ?_
  refine q_if_lt (tgt := 19) dX5_asked_2 (by decide) (fun c1734 => ?_) (fun c1734 => ?_)
  ·
    refine q_iconst (v := nI 1) dX5_asked_19 rfl ?_
    refine q_goto (tgt := 37) dX5_asked_20 (by decide) ?_
    refine t_putc 0 (z' := 1) kX5 (by decide) wPX5_66 rfl dX5_asked_37 hok mG_o rfl ⟨rfl, rfl⟩ (fun h hok => ?_)
    replace hok := mG_setT hok
    refine q_aload_n dX5_asked_40 rfl ?_
    refine t_getc 0 kX5 (by decide) wPX5_66 dX5_asked_41 hok mG_o rfl ?_
    refine q_if_le (tgt := 49) dX5_asked_44 (by decide) (fun q => absurd q (by decide)) (fun _ => ?_)
    refine q_iconst (v := nI 0) dX5_asked_47 rfl ?_
    exact q_iret dX5_asked_48 rfl (rfl) ⟨1, s, ⟨⟨_, rfl⟩, by omega⟩, hok, rfl⟩
  ·
    refine q_iload_n dX5_asked_5 rfl ?_
    refine q_bipush (v := nI 39) dX5_asked_6 rfl ?_
    refine q_icmp_gt (tgt := 19) dX5_asked_8 (by decide) (fun c1736 => ?_) (fun c1736 => ?_)
    ·
      refine q_iconst (v := nI 1) dX5_asked_19 rfl ?_
      refine q_goto (tgt := 37) dX5_asked_20 (by decide) ?_
      refine t_putc 0 (z' := 1) kX5 (by decide) wPX5_66 rfl dX5_asked_37 hok mG_o rfl ⟨rfl, rfl⟩ (fun h hok => ?_)
      replace hok := mG_setT hok
      refine q_aload_n dX5_asked_40 rfl ?_
      refine t_getc 0 kX5 (by decide) wPX5_66 dX5_asked_41 hok mG_o rfl ?_
      refine q_if_le (tgt := 49) dX5_asked_44 (by decide) (fun q => absurd q (by decide)) (fun _ => ?_)
      refine q_iconst (v := nI 0) dX5_asked_47 rfl ?_
      exact q_iret dX5_asked_48 rfl (rfl) ⟨1, s, ⟨⟨_, rfl⟩, by omega⟩, hok, rfl⟩
    ·
      refine q_iload_n dX5_asked_11 rfl ?_
      refine q_aload_n dX5_asked_12 rfl ?_
      refine t_getc 15 kX5 (by decide) wPX5_72 dX5_asked_13 hok mG_o rfl ?_
      refine q_icmp_lt (tgt := 23) dX5_asked_16 (by decide) (fun c1739 => ?_) (fun c1739 => ?_)
      ·
        refine q_iload_n dX5_asked_23 rfl ?_
        refine q_iconst (v := nI 0) dX5_asked_24 rfl ?_
        refine q_iconst (v := nI 3) dX5_asked_25 rfl ?_
        refine t_callS (M' := mX5_in) [.int (a2), .int (nI 0), .int (nI 3)] [.ref o] dX5_asked_26 wPX5_120 wTX5_in wNX5 iX5_in oX5_in rfl hok (sX5_in Sc (mG Γ o ml (th) (s)) n (a2) (nI 0) (nI 3)) (Nat.le_of_ble_eq_true rfl) (Nat.le_of_ble_eq_true rfl) (Nat.le_of_ble_eq_true rfl) (Nat.le_of_ble_eq_true rfl) (Nat.le_of_ble_eq_true rfl) rfl (fun v1740 h qv1740 hok => ?_) (fun e1741 h qe1741 hok => absurd qe1741 (by intro q; obtain ⟨_, q, _⟩ := q; cases q))
        obtain ⟨x1742, qx1742, hx1742⟩ := qv1740
        obtain rfl := Sum.inl.inj qx1742
        rcases hx1742 with ⟨rfl, c1743a, c1743b⟩ | rfl
        ·
          obtain ⟨g1744, hg1744, rfl⟩ := q_chk2 (by omega) c1743a c1743b
          refine q_if_eq (tgt := 36) dX5_asked_29 (by decide) (fun q => absurd q (by decide)) (fun _ => ?_)
          refine q_iconst (v := nI 0) dX5_asked_32 rfl ?_
          refine q_goto (tgt := 37) dX5_asked_33 (by decide) ?_
          refine t_putc 0 (z' := 0) kX5 (by decide) wPX5_66 rfl dX5_asked_37 hok mG_o rfl ⟨rfl, rfl⟩ (fun h hok => ?_)
          replace hok := mG_setT hok
          refine q_aload_n dX5_asked_40 rfl ?_
          refine t_getc 0 kX5 (by decide) wPX5_66 dX5_asked_41 hok mG_o rfl ?_
          refine q_if_le (tgt := 49) dX5_asked_44 (by decide) (fun _ => ?_) (fun q => absurd q (by decide))
          obtain ⟨g1745, hg1745, rfl⟩ := q_chk (a := a1) (B := s) (by omega) (by assumption) (q_ltle (by assumption))
          refine q_aload_n dX5_asked_49 rfl ?_
          refine t_getc 15 kX5 (by decide) wPX5_72 dX5_asked_50 hok mG_o rfl ?_
          refine q_iconst (v := nI 1) dX5_asked_53 rfl ?_
          refine t_isub_n (by omega) dX5_asked_54 ?_
          refine q_iload_n dX5_asked_55 rfl ?_
          refine t_isub_n (by omega) dX5_asked_56 ?_
          refine q_bipush (v := nI 40) dX5_asked_57 rfl ?_
          refine q_irem dX5_asked_59 (by decide) ?_
          rw [pk_rem (by omega) (by omega) (by omega)]
          refine t_istore [.ref o, .int (nI g1745), .int (nI g1744), .int (nI ((((s) - (1)) - (g1745)) % (40)))] (Or.inl ⟨3, rfl, rfl, dX5_asked_60⟩) (by decide) rfl ?_
          refine q_iload_n dX5_asked_61 rfl ?_
          refine q_if_ne (tgt := 74) dX5_asked_62 (by decide) (fun c1746 => ?_) (fun c1746 => ?_)
          ·
            refine q_iload_n dX5_asked_74 rfl ?_
            refine q_iconst (v := nI 1) dX5_asked_75 rfl ?_
            refine q_icmp_ne (tgt := 88) dX5_asked_76 (by decide) (fun c1747 => ?_) (fun c1747 => ?_)
            ·
              refine q_iload_n dX5_asked_88 rfl ?_
              refine q_iconst (v := nI 2) dX5_asked_89 rfl ?_
              refine q_icmp_ne (tgt := 102) dX5_asked_90 (by decide) (fun c1748 => ?_) (fun c1748 => ?_)
              ·
                refine q_aload_n dX5_asked_102 rfl ?_
                refine t_getr 19 kX5 (by decide) wPX5_56 dX5_asked_103 hok mG_o rfl ?_
                refine q_iload_n dX5_asked_106 rfl ?_
                refine t_iald dX5_asked_107 hok (mG_a15 (ml := ml) (th := 0) (s := s) hB) (by exact vp_in_nI (by omega) (by omega)) (fun x1749 => ?_)
                exact q_iret dX5_asked_108 rfl (rfl) ⟨0, s, ⟨⟨_, rfl⟩, by omega⟩, hok, rfl⟩
              ·
                refine q_aload_n dX5_asked_93 rfl ?_
                refine t_getr 18 kX5 (by decide) wPX5_53 dX5_asked_94 hok mG_o rfl ?_
                refine q_iload_n dX5_asked_97 rfl ?_
                refine t_iald dX5_asked_98 hok (mG_a14 (ml := ml) (th := 0) (s := s) hB) (by exact vp_in_nI (by omega) (by omega)) (fun x1750 => ?_)
                refine q_goto (tgt := 108) dX5_asked_99 (by decide) ?_
                exact q_iret dX5_asked_108 rfl (rfl) ⟨0, s, ⟨⟨_, rfl⟩, by omega⟩, hok, rfl⟩
            ·
              refine q_aload_n dX5_asked_79 rfl ?_
              refine t_getr 17 kX5 (by decide) wPX5_50 dX5_asked_80 hok mG_o rfl ?_
              refine q_iload_n dX5_asked_83 rfl ?_
              refine t_iald dX5_asked_84 hok (mG_a13 (ml := ml) (th := 0) (s := s) hB) (by exact vp_in_nI (by omega) (by omega)) (fun x1751 => ?_)
              refine q_goto (tgt := 108) dX5_asked_85 (by decide) ?_
              exact q_iret dX5_asked_108 rfl (rfl) ⟨0, s, ⟨⟨_, rfl⟩, by omega⟩, hok, rfl⟩
          ·
            refine q_aload_n dX5_asked_65 rfl ?_
            refine t_getr 16 kX5 (by decide) wPX5_47 dX5_asked_66 hok mG_o rfl ?_
            refine q_iload_n dX5_asked_69 rfl ?_
            refine t_iald dX5_asked_70 hok (mG_a12 (ml := ml) (th := 0) (s := s) hB) (by exact vp_in_nI (by omega) (by omega)) (fun x1752 => ?_)
            refine q_goto (tgt := 108) dX5_asked_71 (by decide) ?_
            exact q_iret dX5_asked_108 rfl (rfl) ⟨0, s, ⟨⟨_, rfl⟩, by omega⟩, hok, rfl⟩
        ·
          refine q_if_eq (tgt := 36) dX5_asked_29 (by decide) (fun _ => ?_) (fun q => absurd q (by decide))
          refine q_iconst (v := nI 2) dX5_asked_36 rfl ?_
          refine t_putc 0 (z' := 2) kX5 (by decide) wPX5_66 rfl dX5_asked_37 hok mG_o rfl ⟨rfl, rfl⟩ (fun h hok => ?_)
          replace hok := mG_setT hok
          refine q_aload_n dX5_asked_40 rfl ?_
          refine t_getc 0 kX5 (by decide) wPX5_66 dX5_asked_41 hok mG_o rfl ?_
          refine q_if_le (tgt := 49) dX5_asked_44 (by decide) (fun q => absurd q (by decide)) (fun _ => ?_)
          refine q_iconst (v := nI 0) dX5_asked_47 rfl ?_
          exact q_iret dX5_asked_48 rfl (rfl) ⟨2, s, ⟨⟨_, rfl⟩, by omega⟩, hok, rfl⟩
      ·
        refine q_iconst (v := nI 1) dX5_asked_19 rfl ?_
        refine q_goto (tgt := 37) dX5_asked_20 (by decide) ?_
        refine t_putc 0 (z' := 1) kX5 (by decide) wPX5_66 rfl dX5_asked_37 hok mG_o rfl ⟨rfl, rfl⟩ (fun h hok => ?_)
        replace hok := mG_setT hok
        refine q_aload_n dX5_asked_40 rfl ?_
        refine t_getc 0 kX5 (by decide) wPX5_66 dX5_asked_41 hok mG_o rfl ?_
        refine q_if_le (tgt := 49) dX5_asked_44 (by decide) (fun q => absurd q (by decide)) (fun _ => ?_)
        refine q_iconst (v := nI 0) dX5_asked_47 rfl ?_
        exact q_iret dX5_asked_48 rfl (rfl) ⟨1, s, ⟨⟨_, rfl⟩, by omega⟩, hok, rfl⟩
