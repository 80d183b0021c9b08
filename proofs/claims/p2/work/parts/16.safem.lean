set_option maxRecDepth 20000 in
set_option maxHeartbeats 4000000 in
theorem sX5_begin (Sc : q_S) (Γ : Nat → q_K) (n o ml th s : Nat) (hB : mB Γ o) (hml : ml ≤ 4) : q_mod Sc Γ o ml mX5_begin [.ref o] n th s (fun O th' s' => q_RV O ∧ th' = th ∧ s' = 0) := by
  intro h hok
  show q_A Sc mX5_begin 0 [.ref o, .retAddr 0] [] h n 0 0 (fun O h' n' => ∃ th' s', (fun O th' s' => q_RV O ∧ th' = th ∧ s' = 0) O th' s' ∧ q_ok (mG Γ o ml th' s') h' ∧ n' = n)
  refine q_iconst (v := nI 0) dX5_begin_0 rfl ?_
  refine t_istore [.ref o, .int (nI 0)] (Or.inl ⟨1, rfl, rfl, dX5_begin_1⟩) (by decide) rfl ?_
  have hl1754 : ∀ (d1756 k1755 : Nat) (h : q_H), k1755 + d1756 = 4 → q_ok (mG Γ o ml (th) (s)) h → q_A Sc mX5_begin 2 [.ref o, .int (nI k1755)] [] h n 0 0 (fun O h' n' => ∃ th' s', (fun O th' s' => q_RV O ∧ th' = th ∧ s' = 0) O th' s' ∧ q_ok (mG Γ o ml th' s') h' ∧ n' = n) := by
    intro d1756
    induction d1756 with
    | zero =>
      intro k1755  h el1754 hok
      refine q_iload_n dX5_begin_2 rfl ?_
      refine q_iconst (v := nI 4) dX5_begin_3 rfl ?_
      refine t_icmp_ge_n (tgt := 59) (by omega) (by omega) dX5_begin_4 (by decide) (fun c1757 => ?_) (fun c1757 => ?_)
      rotate_left
      · exact absurd c1757 (by omega)
      refine q_iconst (v := nI 0) dX5_begin_59 rfl ?_
      refine t_istore [.ref o, .int (nI 0)] (Or.inl ⟨1, rfl, rfl, dX5_begin_60⟩) (by decide) rfl ?_
      have hl1758 : ∀ (d1760 k1759 : Nat) (h : q_H), k1759 + d1760 = 32 → q_ok (mG Γ o ml (th) (s)) h → q_A Sc mX5_begin 61 [.ref o, .int (nI k1759)] [] h n 0 0 (fun O h' n' => ∃ th' s', (fun O th' s' => q_RV O ∧ th' = th ∧ s' = 0) O th' s' ∧ q_ok (mG Γ o ml th' s') h' ∧ n' = n) := by
        intro d1760
        induction d1760 with
        | zero =>
          intro k1759  h el1758 hok
          refine q_iload_n dX5_begin_61 rfl ?_
          refine q_bipush (v := nI 32) dX5_begin_62 rfl ?_
          refine t_icmp_ge_n (tgt := 87) (by omega) (by omega) dX5_begin_64 (by decide) (fun c1761 => ?_) (fun c1761 => ?_)
          rotate_left
          · exact absurd c1761 (by omega)
          refine q_iconst (v := nI 0) dX5_begin_87 rfl ?_
          refine t_istore [.ref o, .int (nI 0)] (Or.inl ⟨1, rfl, rfl, dX5_begin_88⟩) (by decide) rfl ?_
          have hl1762 : ∀ (d1764 k1763 : Nat) (h : q_H), k1763 + d1764 = 512 → q_ok (mG Γ o ml (th) (s)) h → q_A Sc mX5_begin 89 [.ref o, .int (nI k1763)] [] h n 0 0 (fun O h' n' => ∃ th' s', (fun O th' s' => q_RV O ∧ th' = th ∧ s' = 0) O th' s' ∧ q_ok (mG Γ o ml th' s') h' ∧ n' = n) := by
            intro d1764
            induction d1764 with
            | zero =>
              intro k1763  h el1762 hok
              refine q_iload_n dX5_begin_89 rfl ?_
              refine q_sipush (v := nI 512) dX5_begin_90 rfl ?_
              refine t_icmp_ge_n (tgt := 116) (by omega) (by omega) dX5_begin_93 (by decide) (fun c1765 => ?_) (fun c1765 => ?_)
              rotate_left
              · exact absurd c1765 (by omega)
              refine q_iconst (v := nI 0) dX5_begin_116 rfl ?_
              refine t_istore [.ref o, .int (nI 0)] (Or.inl ⟨1, rfl, rfl, dX5_begin_117⟩) (by decide) rfl ?_
              have hl1766 : ∀ (d1768 k1767 : Nat) (h : q_H), k1767 + d1768 = 192 → q_ok (mG Γ o ml (th) (s)) h → q_A Sc mX5_begin 118 [.ref o, .int (nI k1767)] [] h n 0 0 (fun O h' n' => ∃ th' s', (fun O th' s' => q_RV O ∧ th' = th ∧ s' = 0) O th' s' ∧ q_ok (mG Γ o ml th' s') h' ∧ n' = n) := by
                intro d1768
                induction d1768 with
                | zero =>
                  intro k1767  h el1766 hok
                  refine q_iload_n dX5_begin_118 rfl ?_
                  refine q_sipush (v := nI 192) dX5_begin_119 rfl ?_
                  refine t_icmp_ge_n (tgt := 145) (by omega) (by omega) dX5_begin_122 (by decide) (fun c1769 => ?_) (fun c1769 => ?_)
                  rotate_left
                  · exact absurd c1769 (by omega)
                  refine q_aload_n dX5_begin_145 rfl ?_
                  refine q_iconst (v := nI 0) dX5_begin_146 rfl ?_
                  refine t_puti 14 kX5 (by decide) wPX5_69 rfl dX5_begin_147 hok mG_o rfl ⟨rfl, rfl⟩ (fun h hok => ?_)
                  refine q_aload_n dX5_begin_150 rfl ?_
                  refine q_iconst (v := nI 0) dX5_begin_151 rfl ?_
                  refine t_putc 15 (z' := 0) kX5 (by decide) wPX5_72 rfl dX5_begin_152 hok mG_o rfl ⟨rfl, rfl⟩ (fun h hok => ?_)
                  replace hok := mG_setS hok
                  exact q_vret dX5_begin_155 rfl ⟨th, 0, ⟨rfl, rfl, rfl⟩, hok, rfl⟩
                | succ d1768 ihl1766 =>
                  intro k1767  h el1766 hok
                  refine q_iload_n dX5_begin_118 rfl ?_
                  refine q_sipush (v := nI 192) dX5_begin_119 rfl ?_
                  refine t_icmp_ge_n (tgt := 145) (by omega) (by omega) dX5_begin_122 (by decide) (fun c1770 => ?_) (fun c1770 => ?_)
                  · exact absurd c1770 (by omega)
                  refine q_aload_n dX5_begin_125 rfl ?_
                  refine t_getr 12 kX5 (by decide) wPX5_40 dX5_begin_126 hok mG_o rfl ?_
                  refine q_iload_n dX5_begin_129 rfl ?_
                  refine q_iconst (v := nI 0) dX5_begin_130 rfl ?_
                  refine t_zast dX5_begin_131 hok (mG_a10 (ml := ml) (th := th) (s := s) hB) (by exact vp_in_nI (by omega) (by omega)) rfl (fun h hok => ?_)
                  refine q_aload_n dX5_begin_132 rfl ?_
                  refine t_getr 13 kX5 (by decide) wPX5_44 dX5_begin_133 hok mG_o rfl ?_
                  refine q_iload_n dX5_begin_136 rfl ?_
                  refine q_iconst (v := nI 0) dX5_begin_137 rfl ?_
                  refine t_iast dX5_begin_138 hok (mG_a11 (ml := ml) (th := th) (s := s) hB) (by exact vp_in_nI (by omega) (by omega)) (fun h hok => ?_)
                  refine t_iinc_n [.ref o, .int (nI (k1767 + 1))] dX5_begin_139 rfl (by decide) rfl ?_
                  refine q_goto (tgt := 118) dX5_begin_142 (by decide) ?_
                  exact ihl1766 (k1767 + 1)  h (by omega) hok
              exact hl1766 (192) 0  h (by omega) hok
            | succ d1764 ihl1762 =>
              intro k1763  h el1762 hok
              refine q_iload_n dX5_begin_89 rfl ?_
              refine q_sipush (v := nI 512) dX5_begin_90 rfl ?_
              refine t_icmp_ge_n (tgt := 116) (by omega) (by omega) dX5_begin_93 (by decide) (fun c1771 => ?_) (fun c1771 => ?_)
              · exact absurd c1771 (by omega)
              refine q_aload_n dX5_begin_96 rfl ?_
              refine t_getr 10 kX5 (by decide) wPX5_34 dX5_begin_97 hok mG_o rfl ?_
              refine q_iload_n dX5_begin_100 rfl ?_
              refine q_iconst (v := nI 0) dX5_begin_101 rfl ?_
              refine t_iast dX5_begin_102 hok (mG_a8 (ml := ml) (th := th) (s := s) hB) (by exact vp_in_nI (by omega) (by omega)) (fun h hok => ?_)
              refine q_aload_n dX5_begin_103 rfl ?_
              refine t_getr 11 kX5 (by decide) wPX5_37 dX5_begin_104 hok mG_o rfl ?_
              refine q_iload_n dX5_begin_107 rfl ?_
              refine q_iconst (v := nI 0) dX5_begin_108 rfl ?_
              refine t_iast dX5_begin_109 hok (mG_a9 (ml := ml) (th := th) (s := s) hB) (by exact vp_in_nI (by omega) (by omega)) (fun h hok => ?_)
              refine t_iinc_n [.ref o, .int (nI (k1763 + 1))] dX5_begin_110 rfl (by decide) rfl ?_
              refine q_goto (tgt := 89) dX5_begin_113 (by decide) ?_
              exact ihl1762 (k1763 + 1)  h (by omega) hok
          exact hl1762 (512) 0  h (by omega) hok
        | succ d1760 ihl1758 =>
          intro k1759  h el1758 hok
          refine q_iload_n dX5_begin_61 rfl ?_
          refine q_bipush (v := nI 32) dX5_begin_62 rfl ?_
          refine t_icmp_ge_n (tgt := 87) (by omega) (by omega) dX5_begin_64 (by decide) (fun c1772 => ?_) (fun c1772 => ?_)
          · exact absurd c1772 (by omega)
          refine q_aload_n dX5_begin_67 rfl ?_
          refine t_getr 8 kX5 (by decide) wPX5_28 dX5_begin_68 hok mG_o rfl ?_
          refine q_iload_n dX5_begin_71 rfl ?_
          refine q_iconst (v := -1) dX5_begin_72 rfl ?_
          refine t_iast dX5_begin_73 hok (mG_a6 (ml := ml) (th := th) (s := s) hB) (by exact vp_in_nI (by omega) (by omega)) (fun h hok => ?_)
          refine q_aload_n dX5_begin_74 rfl ?_
          refine t_getr 9 kX5 (by decide) wPX5_31 dX5_begin_75 hok mG_o rfl ?_
          refine q_iload_n dX5_begin_78 rfl ?_
          refine q_iconst (v := nI 0) dX5_begin_79 rfl ?_
          refine t_iast dX5_begin_80 hok (mG_a7 (ml := ml) (th := th) (s := s) hB) (by exact vp_in_nI (by omega) (by omega)) (fun h hok => ?_)
          refine t_iinc_n [.ref o, .int (nI (k1759 + 1))] dX5_begin_81 rfl (by decide) rfl ?_
          refine q_goto (tgt := 61) dX5_begin_84 (by decide) ?_
          exact ihl1758 (k1759 + 1)  h (by omega) hok
      exact hl1758 (32) 0  h (by omega) hok
    | succ d1756 ihl1754 =>
      intro k1755  h el1754 hok
      refine q_iload_n dX5_begin_2 rfl ?_
      refine q_iconst (v := nI 4) dX5_begin_3 rfl ?_
      refine t_icmp_ge_n (tgt := 59) (by omega) (by omega) dX5_begin_4 (by decide) (fun c1773 => ?_) (fun c1773 => ?_)
      · exact absurd c1773 (by omega)
      refine q_aload_n dX5_begin_7 rfl ?_
      refine t_getr 2 kX5 (by decide) wPX5_7 dX5_begin_8 hok mG_o rfl ?_
      refine q_iload_n dX5_begin_11 rfl ?_
      refine q_iconst (v := nI 2) dX5_begin_12 rfl ?_
      refine t_iast dX5_begin_13 hok (mG_a0 (ml := ml) (th := th) (s := s) hB) (by exact vp_in_nI (by omega) (by omega)) (fun h hok => ?_)
      refine q_aload_n dX5_begin_14 rfl ?_
      refine t_getr 3 kX5 (by decide) wPX5_13 dX5_begin_15 hok mG_o rfl ?_
      refine q_iload_n dX5_begin_18 rfl ?_
      refine q_bipush (v := nI 20) dX5_begin_19 rfl ?_
      refine t_iast dX5_begin_21 hok (mG_a1 (ml := ml) (th := th) (s := s) hB) (by exact vp_in_nI (by omega) (by omega)) (fun h hok => ?_)
      refine q_aload_n dX5_begin_22 rfl ?_
      refine t_getr 4 kX5 (by decide) wPX5_16 dX5_begin_23 hok mG_o rfl ?_
      refine q_iload_n dX5_begin_26 rfl ?_
      refine q_iconst (v := nI 4) dX5_begin_27 rfl ?_
      refine t_iast dX5_begin_28 hok (mG_a2 (ml := ml) (th := th) (s := s) hB) (by exact vp_in_nI (by omega) (by omega)) (fun h hok => ?_)
      refine q_aload_n dX5_begin_29 rfl ?_
      refine t_getr 5 kX5 (by decide) wPX5_19 dX5_begin_30 hok mG_o rfl ?_
      refine q_iload_n dX5_begin_33 rfl ?_
      refine q_sipush (v := nI 500) dX5_begin_34 rfl ?_
      refine t_iast dX5_begin_37 hok (mG_a3 (ml := ml) (th := th) (s := s) hB) (by exact vp_in_nI (by omega) (by omega)) (fun h hok => ?_)
      refine q_aload_n dX5_begin_38 rfl ?_
      refine t_getr 6 kX5 (by decide) wPX5_22 dX5_begin_39 hok mG_o rfl ?_
      refine q_iload_n dX5_begin_42 rfl ?_
      refine q_iconst (v := nI 0) dX5_begin_43 rfl ?_
      refine t_iast dX5_begin_44 hok (mG_a4 (ml := ml) (th := th) (s := s) hB) (by exact vp_in_nI (by omega) (by omega)) (fun h hok => ?_)
      refine q_aload_n dX5_begin_45 rfl ?_
      refine t_getr 7 kX5 (by decide) wPX5_25 dX5_begin_46 hok mG_o rfl ?_
      refine q_iload_n dX5_begin_49 rfl ?_
      refine q_bipush (v := nI 20) dX5_begin_50 rfl ?_
      refine t_iast dX5_begin_52 hok (mG_a5 (ml := ml) (th := th) (s := s) hB) (by exact vp_in_nI (by omega) (by omega)) (fun h hok => ?_)
      refine t_iinc_n [.ref o, .int (nI (k1755 + 1))] dX5_begin_53 rfl (by decide) rfl ?_
      refine q_goto (tgt := 2) dX5_begin_56 (by decide) ?_
      exact ihl1754 (k1755 + 1)  h (by omega) hok
  exact hl1754 (4) 0  h (by omega) hok
set_option maxRecDepth 20000 in
set_option maxHeartbeats 4000000 in
theorem sX5_clear (Sc : q_S) (Γ : Nat → q_K) (n o ml th s : Nat) (hB : mB Γ o) (hml : ml ≤ 4)  : q_mod Sc Γ o ml mX5_clear [.ref o] n th s (fun O th' s' => q_RV O ∧ s' ≤ s + 0) := by
  intro h hok
  show q_A Sc mX5_clear 0 [.ref o] [] h n 0 0 (fun O h' n' => ∃ th' s', (fun O th' s' => q_RV O ∧ s' ≤ s + 0) O th' s' ∧ q_ok (mG Γ o ml th' s') h' ∧ n' = n)
  refine q_aload_n dX5_clear_0 rfl ?_
  refine q_iconst (v := nI 0) dX5_clear_1 rfl ?_
  refine t_putc 0 (z' := 0) kX5 (by decide) wPX5_66 rfl dX5_clear_2 hok mG_o rfl ⟨rfl, rfl⟩ (fun h hok => ?_)
  replace hok := mG_setT hok
  refine q_aload_n dX5_clear_5 rfl ?_
  refine t_callM (M' := mX5_begin) [] [] dX5_clear_6 wPX5_63v wIX5_begin wSX5_begin iX5_begin oX5_begin rfl hok (sX5_begin Sc Γ n o ml (0) (s) hB hml) (Nat.le_of_ble_eq_true rfl) (Nat.le_of_ble_eq_true rfl) (Nat.le_of_ble_eq_true rfl) rfl (fun _ _ _ q => by obtain ⟨q, _⟩ := q; cases q) (fun v1775 h thv1775 sv1775 qv1775 hok => ?_)
  obtain ⟨qv1775, etv1775, esv1775⟩ := qv1775
  rw [etv1775, esv1775] at hok
  obtain rfl := Sum.inl.inj qv1775
  exact q_vret dX5_clear_9 rfl ⟨0, 0, ⟨rfl, by omega⟩, hok, rfl⟩
set_option maxRecDepth 20000 in
set_option maxHeartbeats 8000000 in
theorem nX5_init (Sc : q_S) (Γ : Nat → q_K) (o : Nat) (hg : Γ o = (4, 5, [(2, 0), (2, 0), (3, 0), (3, 0), (3, 0), (3, 0), (3, 0), (3, 0), (3, 0), (3, 0), (3, 0), (3, 0), (3, 0), (3, 0), (0, 0), (2, 0), (3, 0), (3, 0), (3, 0), (3, 0)])) (lk : Int32) (h : q_H) (hok : q_ok Γ h) : q_A Sc mX5_init 0 [.ref o, .int lk] [] h (o + 1) 16 1656 (fun O h' n' => O = .inl none ∧ ∃ (ml : Nat) (Γ' : Nat → q_K), 1 ≤ ml ∧ ml ≤ 4 ∧ nI ml = q_clamp lk ∧ n' = o + 17 ∧ q_ok (mG Γ' o ml 0 0) h' ∧ mB Γ' o ∧ ∀ j, j < o → Γ' j = Γ j) := by
  refine q_aload_n dX5_init_0 rfl ?_
  refine q_obj dX5_init_1 wOX5 wOi wOc (by decide) (Nat.le_of_ble_eq_true rfl) ?_
  refine q_aload_n dX5_init_4 rfl ?_
  refine q_iconst (v := nI 4) dX5_init_5 rfl ?_
  refine c_newi dX5_init_6 rfl wAint (nI_pos (by decide)) (nI_clamp (by decide)) (by decide) (Nat.le_of_ble_eq_true rfl) (Nat.le_of_ble_eq_true rfl) hok (fun h hok => ?_)
  refine c_put 2 (p := (1, o + 1)) kX5 (by decide) wQX5_7 (Or.inr ⟨rfl, rfl, rfl⟩) dX5_init_8 hok ((gs_ne (by omega)).trans hg) (by exact Nat.le_of_ble_eq_true rfl) (fun _ => ⟨rfl, rfl⟩) (by rfl) (fun h hok => ?_)
  refine q_aload_n dX5_init_11 rfl ?_
  refine q_iconst (v := nI 4) dX5_init_12 rfl ?_
  refine c_newi dX5_init_13 rfl wAint (nI_pos (by decide)) (nI_clamp (by decide)) (by decide) (Nat.le_of_ble_eq_true rfl) (Nat.le_of_ble_eq_true rfl) hok (fun h hok => ?_)
  refine c_put 3 (p := (1, o + 2)) kX5 (by decide) wQX5_13 (Or.inr ⟨rfl, rfl, rfl⟩) dX5_init_15 hok ((gs_ne (by omega)).trans gs_at) (by exact Nat.le_of_ble_eq_true rfl) (fun _ => ⟨rfl, rfl⟩) (by rfl) (fun h hok => ?_)
  refine q_aload_n dX5_init_18 rfl ?_
  refine q_iconst (v := nI 4) dX5_init_19 rfl ?_
  refine c_newi dX5_init_20 rfl wAint (nI_pos (by decide)) (nI_clamp (by decide)) (by decide) (Nat.le_of_ble_eq_true rfl) (Nat.le_of_ble_eq_true rfl) hok (fun h hok => ?_)
  refine c_put 4 (p := (1, o + 3)) kX5 (by decide) wQX5_16 (Or.inr ⟨rfl, rfl, rfl⟩) dX5_init_22 hok ((gs_ne (by omega)).trans gs_at) (by exact Nat.le_of_ble_eq_true rfl) (fun _ => ⟨rfl, rfl⟩) (by rfl) (fun h hok => ?_)
  refine q_aload_n dX5_init_25 rfl ?_
  refine q_iconst (v := nI 4) dX5_init_26 rfl ?_
  refine c_newi dX5_init_27 rfl wAint (nI_pos (by decide)) (nI_clamp (by decide)) (by decide) (Nat.le_of_ble_eq_true rfl) (Nat.le_of_ble_eq_true rfl) hok (fun h hok => ?_)
  refine c_put 5 (p := (1, o + 4)) kX5 (by decide) wQX5_19 (Or.inr ⟨rfl, rfl, rfl⟩) dX5_init_29 hok ((gs_ne (by omega)).trans gs_at) (by exact Nat.le_of_ble_eq_true rfl) (fun _ => ⟨rfl, rfl⟩) (by rfl) (fun h hok => ?_)
  refine q_aload_n dX5_init_32 rfl ?_
  refine q_iconst (v := nI 4) dX5_init_33 rfl ?_
  refine c_newi dX5_init_34 rfl wAint (nI_pos (by decide)) (nI_clamp (by decide)) (by decide) (Nat.le_of_ble_eq_true rfl) (Nat.le_of_ble_eq_true rfl) hok (fun h hok => ?_)
  refine c_put 6 (p := (1, o + 5)) kX5 (by decide) wQX5_22 (Or.inr ⟨rfl, rfl, rfl⟩) dX5_init_36 hok ((gs_ne (by omega)).trans gs_at) (by exact Nat.le_of_ble_eq_true rfl) (fun _ => ⟨rfl, rfl⟩) (by rfl) (fun h hok => ?_)
  refine q_aload_n dX5_init_39 rfl ?_
  refine q_iconst (v := nI 4) dX5_init_40 rfl ?_
  refine c_newi dX5_init_41 rfl wAint (nI_pos (by decide)) (nI_clamp (by decide)) (by decide) (Nat.le_of_ble_eq_true rfl) (Nat.le_of_ble_eq_true rfl) hok (fun h hok => ?_)
  refine c_put 7 (p := (1, o + 6)) kX5 (by decide) wQX5_25 (Or.inr ⟨rfl, rfl, rfl⟩) dX5_init_43 hok ((gs_ne (by omega)).trans gs_at) (by exact Nat.le_of_ble_eq_true rfl) (fun _ => ⟨rfl, rfl⟩) (by rfl) (fun h hok => ?_)
  refine q_aload_n dX5_init_46 rfl ?_
  refine q_bipush (v := nI 32) dX5_init_47 rfl ?_
  refine c_newi dX5_init_49 rfl wAint (nI_pos (by decide)) (nI_clamp (by decide)) (by decide) (Nat.le_of_ble_eq_true rfl) (Nat.le_of_ble_eq_true rfl) hok (fun h hok => ?_)
  refine c_put 8 (p := (1, o + 7)) kX5 (by decide) wQX5_28 (Or.inr ⟨rfl, rfl, rfl⟩) dX5_init_51 hok ((gs_ne (by omega)).trans gs_at) (by exact Nat.le_of_ble_eq_true rfl) (fun _ => ⟨rfl, rfl⟩) (by rfl) (fun h hok => ?_)
  refine q_aload_n dX5_init_54 rfl ?_
  refine q_bipush (v := nI 32) dX5_init_55 rfl ?_
  refine c_newi dX5_init_57 rfl wAint (nI_pos (by decide)) (nI_clamp (by decide)) (by decide) (Nat.le_of_ble_eq_true rfl) (Nat.le_of_ble_eq_true rfl) hok (fun h hok => ?_)
  refine c_put 9 (p := (1, o + 8)) kX5 (by decide) wQX5_31 (Or.inr ⟨rfl, rfl, rfl⟩) dX5_init_59 hok ((gs_ne (by omega)).trans gs_at) (by exact Nat.le_of_ble_eq_true rfl) (fun _ => ⟨rfl, rfl⟩) (by rfl) (fun h hok => ?_)
  refine q_aload_n dX5_init_62 rfl ?_
  refine q_sipush (v := nI 512) dX5_init_63 rfl ?_
  refine c_newi dX5_init_66 rfl wAint (nI_pos (by decide)) (nI_clamp (by decide)) (by decide) (Nat.le_of_ble_eq_true rfl) (Nat.le_of_ble_eq_true rfl) hok (fun h hok => ?_)
  refine c_put 10 (p := (1, o + 9)) kX5 (by decide) wQX5_34 (Or.inr ⟨rfl, rfl, rfl⟩) dX5_init_68 hok ((gs_ne (by omega)).trans gs_at) (by exact Nat.le_of_ble_eq_true rfl) (fun _ => ⟨rfl, rfl⟩) (by rfl) (fun h hok => ?_)
  refine q_aload_n dX5_init_71 rfl ?_
  refine q_sipush (v := nI 512) dX5_init_72 rfl ?_
  refine c_newi dX5_init_75 rfl wAint (nI_pos (by decide)) (nI_clamp (by decide)) (by decide) (Nat.le_of_ble_eq_true rfl) (Nat.le_of_ble_eq_true rfl) hok (fun h hok => ?_)
  refine c_put 11 (p := (1, o + 10)) kX5 (by decide) wQX5_37 (Or.inr ⟨rfl, rfl, rfl⟩) dX5_init_77 hok ((gs_ne (by omega)).trans gs_at) (by exact Nat.le_of_ble_eq_true rfl) (fun _ => ⟨rfl, rfl⟩) (by rfl) (fun h hok => ?_)
  refine q_aload_n dX5_init_80 rfl ?_
  refine q_sipush (v := nI 192) dX5_init_81 rfl ?_
  refine c_newz dX5_init_84 rfl wAboolean (nI_pos (by decide)) (nI_clamp (by decide)) (by decide) (Nat.le_of_ble_eq_true rfl) (Nat.le_of_ble_eq_true rfl) hok (fun h hok => ?_)
  refine c_put 12 (p := (1, o + 11)) kX5 (by decide) wQX5_40 (Or.inr ⟨rfl, rfl, rfl⟩) dX5_init_86 hok ((gs_ne (by omega)).trans gs_at) (by exact Nat.le_of_ble_eq_true rfl) (fun _ => ⟨rfl, rfl⟩) (by rfl) (fun h hok => ?_)
  refine q_aload_n dX5_init_89 rfl ?_
  refine q_sipush (v := nI 192) dX5_init_90 rfl ?_
  refine c_newi dX5_init_93 rfl wAint (nI_pos (by decide)) (nI_clamp (by decide)) (by decide) (Nat.le_of_ble_eq_true rfl) (Nat.le_of_ble_eq_true rfl) hok (fun h hok => ?_)
  refine c_put 13 (p := (1, o + 12)) kX5 (by decide) wQX5_44 (Or.inr ⟨rfl, rfl, rfl⟩) dX5_init_95 hok ((gs_ne (by omega)).trans gs_at) (by exact Nat.le_of_ble_eq_true rfl) (fun _ => ⟨rfl, rfl⟩) (by rfl) (fun h hok => ?_)
  refine q_aload_n dX5_init_98 rfl ?_
  refine q_bipush (v := nI 40) dX5_init_99 rfl ?_
  refine c_newi dX5_init_101 rfl wAint (nI_pos (by decide)) (nI_clamp (by decide)) (by decide) (Nat.le_of_ble_eq_true rfl) (Nat.le_of_ble_eq_true rfl) hok (fun h hok => ?_)
  refine c_put 16 (p := (1, o + 13)) kX5 (by decide) wQX5_47 (Or.inr ⟨rfl, rfl, rfl⟩) dX5_init_103 hok ((gs_ne (by omega)).trans gs_at) (by exact Nat.le_of_ble_eq_true rfl) (fun _ => ⟨rfl, rfl⟩) (by rfl) (fun h hok => ?_)
  refine q_aload_n dX5_init_106 rfl ?_
  refine q_bipush (v := nI 40) dX5_init_107 rfl ?_
  refine c_newi dX5_init_109 rfl wAint (nI_pos (by decide)) (nI_clamp (by decide)) (by decide) (Nat.le_of_ble_eq_true rfl) (Nat.le_of_ble_eq_true rfl) hok (fun h hok => ?_)
  refine c_put 17 (p := (1, o + 14)) kX5 (by decide) wQX5_50 (Or.inr ⟨rfl, rfl, rfl⟩) dX5_init_111 hok ((gs_ne (by omega)).trans gs_at) (by exact Nat.le_of_ble_eq_true rfl) (fun _ => ⟨rfl, rfl⟩) (by rfl) (fun h hok => ?_)
  refine q_aload_n dX5_init_114 rfl ?_
  refine q_bipush (v := nI 40) dX5_init_115 rfl ?_
  refine c_newi dX5_init_117 rfl wAint (nI_pos (by decide)) (nI_clamp (by decide)) (by decide) (Nat.le_of_ble_eq_true rfl) (Nat.le_of_ble_eq_true rfl) hok (fun h hok => ?_)
  refine c_put 18 (p := (1, o + 15)) kX5 (by decide) wQX5_53 (Or.inr ⟨rfl, rfl, rfl⟩) dX5_init_119 hok ((gs_ne (by omega)).trans gs_at) (by exact Nat.le_of_ble_eq_true rfl) (fun _ => ⟨rfl, rfl⟩) (by rfl) (fun h hok => ?_)
  refine q_aload_n dX5_init_122 rfl ?_
  refine q_bipush (v := nI 40) dX5_init_123 rfl ?_
  refine c_newi dX5_init_125 rfl wAint (nI_pos (by decide)) (nI_clamp (by decide)) (by decide) (Nat.le_of_ble_eq_true rfl) (Nat.le_of_ble_eq_true rfl) hok (fun h hok => ?_)
  refine c_put 19 (p := (1, o + 16)) kX5 (by decide) wQX5_56 (Or.inr ⟨rfl, rfl, rfl⟩) dX5_init_127 hok ((gs_ne (by omega)).trans gs_at) (by exact Nat.le_of_ble_eq_true rfl) (fun _ => ⟨rfl, rfl⟩) (by rfl) (fun h hok => ?_)
  obtain ⟨Γ3, hok, ho, hB, hlow⟩ : ∃ Γ3 : Nat → q_K, q_ok Γ3 h ∧ Γ3 o = (4, 5, [(2, 0), (2, 0), (1, o + 1), (1, o + 2), (1, o + 3), (1, o + 4), (1, o + 5), (1, o + 6), (1, o + 7), (1, o + 8), (1, o + 9), (1, o + 10), (1, o + 11), (1, o + 12), (0, 0), (2, 0), (1, o + 13), (1, o + 14), (1, o + 15), (1, o + 16)]) ∧ mB Γ3 o ∧ ∀ j, j < o → Γ3 j = Γ j := by
    refine ⟨_, hok, gs_at, ⟨?_, ?_, ?_, ?_, ?_, ?_, ?_, ?_, ?_, ?_, ?_, ?_, ?_, ?_, ?_, ?_⟩, fun j hj => ?_⟩
    · rw [gs_ne (by omega), gs_ne (by omega), gs_ne (by omega), gs_ne (by omega), gs_ne (by omega), gs_ne (by omega), gs_ne (by omega), gs_ne (by omega), gs_ne (by omega), gs_ne (by omega), gs_ne (by omega), gs_ne (by omega), gs_ne (by omega), gs_ne (by omega), gs_ne (by omega), gs_ne (by omega), gs_ne (by omega), gs_ne (by omega), gs_ne (by omega), gs_ne (by omega), gs_ne (by omega), gs_ne (by omega), gs_ne (by omega), gs_ne (by omega), gs_ne (by omega), gs_ne (by omega), gs_ne (by omega), gs_ne (by omega), gs_ne (by omega), gs_ne (by omega), gs_ne (by omega)]; exact gs_at
    · rw [gs_ne (by omega), gs_ne (by omega), gs_ne (by omega), gs_ne (by omega), gs_ne (by omega), gs_ne (by omega), gs_ne (by omega), gs_ne (by omega), gs_ne (by omega), gs_ne (by omega), gs_ne (by omega), gs_ne (by omega), gs_ne (by omega), gs_ne (by omega), gs_ne (by omega), gs_ne (by omega), gs_ne (by omega), gs_ne (by omega), gs_ne (by omega), gs_ne (by omega), gs_ne (by omega), gs_ne (by omega), gs_ne (by omega), gs_ne (by omega), gs_ne (by omega), gs_ne (by omega), gs_ne (by omega), gs_ne (by omega), gs_ne (by omega)]; exact gs_at
    · rw [gs_ne (by omega), gs_ne (by omega), gs_ne (by omega), gs_ne (by omega), gs_ne (by omega), gs_ne (by omega), gs_ne (by omega), gs_ne (by omega), gs_ne (by omega), gs_ne (by omega), gs_ne (by omega), gs_ne (by omega), gs_ne (by omega), gs_ne (by omega), gs_ne (by omega), gs_ne (by omega), gs_ne (by omega), gs_ne (by omega), gs_ne (by omega), gs_ne (by omega), gs_ne (by omega), gs_ne (by omega), gs_ne (by omega), gs_ne (by omega), gs_ne (by omega), gs_ne (by omega), gs_ne (by omega)]; exact gs_at
    · rw [gs_ne (by omega), gs_ne (by omega), gs_ne (by omega), gs_ne (by omega), gs_ne (by omega), gs_ne (by omega), gs_ne (by omega), gs_ne (by omega), gs_ne (by omega), gs_ne (by omega), gs_ne (by omega), gs_ne (by omega), gs_ne (by omega), gs_ne (by omega), gs_ne (by omega), gs_ne (by omega), gs_ne (by omega), gs_ne (by omega), gs_ne (by omega), gs_ne (by omega), gs_ne (by omega), gs_ne (by omega), gs_ne (by omega), gs_ne (by omega), gs_ne (by omega)]; exact gs_at
    · rw [gs_ne (by omega), gs_ne (by omega), gs_ne (by omega), gs_ne (by omega), gs_ne (by omega), gs_ne (by omega), gs_ne (by omega), gs_ne (by omega), gs_ne (by omega), gs_ne (by omega), gs_ne (by omega), gs_ne (by omega), gs_ne (by omega), gs_ne (by omega), gs_ne (by omega), gs_ne (by omega), gs_ne (by omega), gs_ne (by omega), gs_ne (by omega), gs_ne (by omega), gs_ne (by omega), gs_ne (by omega), gs_ne (by omega)]; exact gs_at
    · rw [gs_ne (by omega), gs_ne (by omega), gs_ne (by omega), gs_ne (by omega), gs_ne (by omega), gs_ne (by omega), gs_ne (by omega), gs_ne (by omega), gs_ne (by omega), gs_ne (by omega), gs_ne (by omega), gs_ne (by omega), gs_ne (by omega), gs_ne (by omega), gs_ne (by omega), gs_ne (by omega), gs_ne (by omega), gs_ne (by omega), gs_ne (by omega), gs_ne (by omega), gs_ne (by omega)]; exact gs_at
    · rw [gs_ne (by omega), gs_ne (by omega), gs_ne (by omega), gs_ne (by omega), gs_ne (by omega), gs_ne (by omega), gs_ne (by omega), gs_ne (by omega), gs_ne (by omega), gs_ne (by omega), gs_ne (by omega), gs_ne (by omega), gs_ne (by omega), gs_ne (by omega), gs_ne (by omega), gs_ne (by omega), gs_ne (by omega), gs_ne (by omega), gs_ne (by omega)]; exact gs_at
    · rw [gs_ne (by omega), gs_ne (by omega), gs_ne (by omega), gs_ne (by omega), gs_ne (by omega), gs_ne (by omega), gs_ne (by omega), gs_ne (by omega), gs_ne (by omega), gs_ne (by omega), gs_ne (by omega), gs_ne (by omega), gs_ne (by omega), gs_ne (by omega), gs_ne (by omega), gs_ne (by omega), gs_ne (by omega)]; exact gs_at
    · rw [gs_ne (by omega), gs_ne (by omega), gs_ne (by omega), gs_ne (by omega), gs_ne (by omega), gs_ne (by omega), gs_ne (by omega), gs_ne (by omega), gs_ne (by omega), gs_ne (by omega), gs_ne (by omega), gs_ne (by omega), gs_ne (by omega), gs_ne (by omega), gs_ne (by omega)]; exact gs_at
    · rw [gs_ne (by omega), gs_ne (by omega), gs_ne (by omega), gs_ne (by omega), gs_ne (by omega), gs_ne (by omega), gs_ne (by omega), gs_ne (by omega), gs_ne (by omega), gs_ne (by omega), gs_ne (by omega), gs_ne (by omega), gs_ne (by omega)]; exact gs_at
    · rw [gs_ne (by omega), gs_ne (by omega), gs_ne (by omega), gs_ne (by omega), gs_ne (by omega), gs_ne (by omega), gs_ne (by omega), gs_ne (by omega), gs_ne (by omega), gs_ne (by omega), gs_ne (by omega)]; exact gs_at
    · rw [gs_ne (by omega), gs_ne (by omega), gs_ne (by omega), gs_ne (by omega), gs_ne (by omega), gs_ne (by omega), gs_ne (by omega), gs_ne (by omega), gs_ne (by omega)]; exact gs_at
    · rw [gs_ne (by omega), gs_ne (by omega), gs_ne (by omega), gs_ne (by omega), gs_ne (by omega), gs_ne (by omega), gs_ne (by omega)]; exact gs_at
    · rw [gs_ne (by omega), gs_ne (by omega), gs_ne (by omega), gs_ne (by omega), gs_ne (by omega)]; exact gs_at
    · rw [gs_ne (by omega), gs_ne (by omega), gs_ne (by omega)]; exact gs_at
    · rw [gs_ne (by omega)]; exact gs_at
    · rw [gs_ne (by omega), gs_ne (by omega), gs_ne (by omega), gs_ne (by omega), gs_ne (by omega), gs_ne (by omega), gs_ne (by omega), gs_ne (by omega), gs_ne (by omega), gs_ne (by omega), gs_ne (by omega), gs_ne (by omega), gs_ne (by omega), gs_ne (by omega), gs_ne (by omega), gs_ne (by omega), gs_ne (by omega), gs_ne (by omega), gs_ne (by omega), gs_ne (by omega), gs_ne (by omega), gs_ne (by omega), gs_ne (by omega), gs_ne (by omega), gs_ne (by omega), gs_ne (by omega), gs_ne (by omega), gs_ne (by omega), gs_ne (by omega), gs_ne (by omega), gs_ne (by omega), gs_ne (by omega)]
  refine q_aload_n dX5_init_130 rfl ?_
  refine q_iload_n dX5_init_131 rfl ?_
  refine q_iconst (v := nI 1) dX5_init_132 rfl ?_
  have hJ : ∀ ml : Nat, 1 ≤ ml → ml ≤ 4 → nI ml = q_clamp lk → q_A Sc mX5_init 150 [.ref o, .int lk] [.int (nI ml), .ref o] h (o + 17) 0 0 (fun O h' n' => O = .inl none ∧ ∃ (ml : Nat) (Γ' : Nat → q_K), 1 ≤ ml ∧ ml ≤ 4 ∧ nI ml = q_clamp lk ∧ n' = o + 17 ∧ q_ok (mG Γ' o ml 0 0) h' ∧ mB Γ' o ∧ ∀ j, j < o → Γ' j = Γ j) := by
    intro ml h1 h4 hc
    refine c_put 1 (p := (2, ml)) kX5 (by decide) wQX5_59 (Or.inr ⟨rfl, rfl, rfl⟩) dX5_init_150 hok ho (by exact Nat.le_of_ble_eq_true rfl) ⟨rfl, rfl⟩ (by rfl) (fun h hok => ?_)
    refine q_aload_n dX5_init_153 rfl ?_
    have hok2 : q_ok (mG Γ3 o ml 0 0) h := fun j => by
      have h9 := hok j
      by_cases hj : j = o
      · subst hj
        rw [gs_at] at h9
        rw [mG_o]
        exact h9
      · rw [gs_ne hj] at h9
        rw [show mG Γ3 o ml 0 0 j = Γ3 j from if_neg hj]
        exact h9
    refine t_callM (M' := mX5_begin) [] [] dX5_init_154 wPX5_63v wIX5_begin wSX5_begin iX5_begin oX5_begin rfl hok2 (sX5_begin Sc Γ3 _ o ml 0 0 hB h4) (Nat.le_of_ble_eq_true rfl) (Nat.le_of_ble_eq_true rfl) (Nat.le_of_ble_eq_true rfl) rfl (fun _ _ _ q => by obtain ⟨q, _⟩ := q; cases q) (fun v h th' s' qv hok => ?_)
    obtain ⟨qv, et, es⟩ := qv
    rw [et, es] at hok
    obtain rfl := Sum.inl.inj qv
    exact q_vret dX5_init_157 rfl ⟨rfl, ml, Γ3, h1, h4, hc, rfl, hok, hB, hlow⟩
  refine q_less (Nat.zero_le _) (Nat.zero_le _) ?_
  refine q_icmp_ge (tgt := 140) dX5_init_133 (by decide) (fun c1 => ?_) (fun c1 => ?_)
  · have h1 : ¬ lk < nI 1 := fun q => by
      rw [Int32.lt_iff_toInt_lt] at q
      rw [Int32.le_iff_toInt_le] at c1
      omega
    refine q_iload_n dX5_init_140 rfl ?_
    refine q_iconst (v := nI 4) dX5_init_141 rfl ?_
    refine q_icmp_le (tgt := 149) dX5_init_142 (by decide) (fun c2 => ?_) (fun c2 => ?_)
    · have h4 : ¬ nI 4 < lk := fun q => by
        rw [Int32.lt_iff_toInt_lt] at q
        rw [Int32.le_iff_toInt_le] at c2
        omega
      refine q_iload_n dX5_init_149 rfl ?_
      obtain ⟨g, hg4, rfl⟩ := q_chk2 (a := lk) (B := 4) (by decide) (fun q => h1 (by
        rw [Int32.lt_iff_toInt_lt, nI_toInt (by decide)] at q ⊢
        omega)) h4
      have hg1 : 1 ≤ g := Nat.le_of_not_lt fun q => h1 ((nI_ltI (by omega) (by decide)).mpr q)
      exact hJ g hg1 hg4 (by unfold q_clamp; rw [if_neg h1, if_neg h4])
    · have h4 : nI 4 < lk := by
        rw [Int32.le_iff_toInt_le] at c2
        rw [Int32.lt_iff_toInt_lt]
        omega
      refine q_iconst (v := nI 4) dX5_init_145 rfl ?_
      refine q_goto (tgt := 150) dX5_init_146 (by decide) ?_
      exact hJ 4 (by omega) (by omega) (by unfold q_clamp; rw [if_neg h1, if_pos h4])
  · have h1 : lk < nI 1 := by
      rw [Int32.le_iff_toInt_le] at c1
      rw [Int32.lt_iff_toInt_lt]
      omega
    refine q_iconst (v := nI 1) dX5_init_136 rfl ?_
    refine q_goto (tgt := 150) dX5_init_137 (by decide) ?_
    exact hJ 1 (by omega) (by omega) (by unfold q_clamp; rw [if_pos h1])

