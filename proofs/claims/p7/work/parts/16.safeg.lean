set_option maxRecDepth 20000 in
set_option maxHeartbeats 4000000 in
theorem sX5_ask (Sc : q_S) (Γ : Nat → q_K) (n o ml th s : Nat) (hB : mB Γ o) (hml : ml ≤ 4) (hs : s ≤ 1900000000) (a1 : Nat) (b1 : a1 < 4) (a2 : Nat) (b2 : a2 < 8) (a3 : Int32) : q_mod Sc Γ o ml mX5_ask [.ref o, .int (nI a1), .int (nI a2), .int (a3)] n th s (fun O th' s' => q_RV O ∧ th' = th ∧ s' ≤ s + 1) := by
  intro h hok
  show q_A Sc mX5_ask 0 [.ref o, .int (nI a1), .int (nI a2), .int (a3)] [] h n 0 0 (fun O h' n' => ∃ th' s', (fun O th' s' => q_RV O ∧ th' = th ∧ s' ≤ s + 1) O th' s' ∧ q_ok (mG Γ o ml th' s') h' ∧ n' = n)
  refine q_iload_n dX5_ask_0 rfl ?_
  refine q_if_eq (tgt := 31) dX5_ask_1 (by decide) (fun c750 => ?_) (fun c750 => ?_)
  ·
    exact q_vret dX5_ask_31 rfl ⟨th, s, ⟨rfl, rfl, by omega⟩, hok, rfl⟩
  ·
    refine q_aload_n dX5_ask_4 rfl ?_
    refine q_iload_n dX5_ask_5 rfl ?_
    refine t_callM (M' := mX5_asks) [.int (nI a1)] [] dX5_ask_6 wPX5_75v wIX5_asks wSX5_asks iX5_asks oX5_asks rfl hok (sX5_asks Sc Γ n o ml (th) (s) hB hml (a1) (by omega)) (Nat.le_of_ble_eq_true rfl) (Nat.le_of_ble_eq_true rfl) (Nat.le_of_ble_eq_true rfl) rfl (fun _ _ _ q => by obtain ⟨q, _⟩ := q; obtain ⟨_, q, _⟩ := q; cases q) (fun v752 h thv752 sv752 qv752 hok => ?_)
    obtain ⟨qv752, etv752, esv752⟩ := qv752
    rw [etv752, esv752] at hok
    obtain ⟨x753, qx753, bx753⟩ := qv752
    obtain rfl := Sum.inl.inj qx753
    refine q_if_eq (tgt := 31) dX5_ask_9 (by decide) (fun c754 => ?_) (fun c754 => ?_)
    ·
      exact q_vret dX5_ask_31 rfl ⟨th, s, ⟨rfl, rfl, by omega⟩, hok, rfl⟩
    ·
      refine q_aload_n dX5_ask_12 rfl ?_
      refine q_iload_n dX5_ask_13 rfl ?_
      refine q_iload_n dX5_ask_14 rfl ?_
      refine q_iload_n dX5_ask_15 rfl ?_
      refine t_callM (M' := mX5_send) [.int (nI a1), .int (nI a2), .int (a3)] [] dX5_ask_16 wPX5_79v wIX5_send wSX5_send iX5_send oX5_send rfl hok (sX5_send Sc Γ n o ml (th) (s) hB hml (by omega) (nI a1) (nI a2) (a3)) (Nat.le_of_ble_eq_true rfl) (Nat.le_of_ble_eq_true rfl) (Nat.le_of_ble_eq_true rfl) rfl (fun _ _ _ q => by obtain ⟨q, _⟩ := q; cases q) (fun v755 h thv755 sv755 qv755 hok => ?_)
      obtain ⟨qv755, etv755, hsv755⟩ := qv755
      rw [etv755] at hok
      obtain rfl := Sum.inl.inj qv755
      refine q_aload_n dX5_ask_19 rfl ?_
      refine q_iload_n dX5_ask_20 rfl ?_
      refine q_bipush (v := nI 8) dX5_ask_21 rfl ?_
      refine q_iload_n dX5_ask_23 rfl ?_
      refine t_imul_n dX5_ask_24 ?_
      refine q_iload_n dX5_ask_25 rfl ?_
      refine t_iadd_n dX5_ask_26 ?_
      refine q_iload_n dX5_ask_27 rfl ?_
      refine t_callM (M' := mX5_lower) [.int (nI a1), .int (nI ((8 * a1) + (a2))), .int (a3)] [] dX5_ask_28 wPX5_83v wIX5_lower wSX5_lower iX5_lower oX5_lower rfl hok (sX5_lower Sc Γ n o ml (th) (sv755) hB hml (a1) (by omega) ((8 * a1) + (a2)) (by omega) (a3)) (Nat.le_of_ble_eq_true rfl) (Nat.le_of_ble_eq_true rfl) (Nat.le_of_ble_eq_true rfl) rfl (fun _ _ _ q => by obtain ⟨q, _⟩ := q; cases q) (fun v756 h thv756 sv756 qv756 hok => ?_)
      obtain ⟨qv756, etv756, esv756⟩ := qv756
      rw [etv756, esv756] at hok
      obtain rfl := Sum.inl.inj qv756
      exact q_vret dX5_ask_31 rfl ⟨th, sv755, ⟨rfl, rfl, by omega⟩, hok, rfl⟩
set_option maxRecDepth 20000 in
set_option maxHeartbeats 4000000 in
theorem sX5_askGroup (Sc : q_S) (Γ : Nat → q_K) (n o ml th s : Nat) (hB : mB Γ o) (hml : ml ≤ 4) (hs : s ≤ 1900000000) (a1 : Nat) (b1 : a1 < 4) (a2 : Nat) (b2 : a2 < 8) : q_mod Sc Γ o ml mX5_askGroup [.ref o, .int (nI a1), .int (nI a2)] n th s (fun O th' s' => q_RV O ∧ th' = th ∧ s' ≤ s + 1) := by
  intro h hok
  show q_A Sc mX5_askGroup 0 [.ref o, .int (nI a1), .int (nI a2)] [] h n 0 0 (fun O h' n' => ∃ th' s', (fun O th' s' => q_RV O ∧ th' = th ∧ s' ≤ s + 1) O th' s' ∧ q_ok (mG Γ o ml th' s') h' ∧ n' = n)
  refine q_aload_n dX5_askGroup_0 rfl ?_
  refine q_iload_n dX5_askGroup_1 rfl ?_
  refine t_callM (M' := mX5_asks) [.int (nI a1)] [] dX5_askGroup_2 wPX5_75v wIX5_asks wSX5_asks iX5_asks oX5_asks rfl hok (sX5_asks Sc Γ n o ml (th) (s) hB hml (a1) (by omega)) (Nat.le_of_ble_eq_true rfl) (Nat.le_of_ble_eq_true rfl) (Nat.le_of_ble_eq_true rfl) rfl (fun _ _ _ q => by obtain ⟨q, _⟩ := q; obtain ⟨_, q, _⟩ := q; cases q) (fun v758 h thv758 sv758 qv758 hok => ?_)
  obtain ⟨qv758, etv758, esv758⟩ := qv758
  rw [etv758, esv758] at hok
  obtain ⟨x759, qx759, bx759⟩ := qv758
  obtain rfl := Sum.inl.inj qx759
  refine q_if_eq (tgt := 26) dX5_askGroup_5 (by decide) (fun c760 => ?_) (fun c760 => ?_)
  ·
    exact q_vret dX5_askGroup_26 rfl ⟨th, s, ⟨rfl, rfl, by omega⟩, hok, rfl⟩
  ·
    refine q_aload_n dX5_askGroup_8 rfl ?_
    refine q_iload_n dX5_askGroup_9 rfl ?_
    refine q_iload_n dX5_askGroup_10 rfl ?_
    refine q_iconst (v := nI 0) dX5_askGroup_11 rfl ?_
    refine t_callM (M' := mX5_send) [.int (nI a1), .int (nI a2), .int (nI 0)] [] dX5_askGroup_12 wPX5_79v wIX5_send wSX5_send iX5_send oX5_send rfl hok (sX5_send Sc Γ n o ml (th) (s) hB hml (by omega) (nI a1) (nI a2) (nI 0)) (Nat.le_of_ble_eq_true rfl) (Nat.le_of_ble_eq_true rfl) (Nat.le_of_ble_eq_true rfl) rfl (fun _ _ _ q => by obtain ⟨q, _⟩ := q; cases q) (fun v761 h thv761 sv761 qv761 hok => ?_)
    obtain ⟨qv761, etv761, hsv761⟩ := qv761
    rw [etv761] at hok
    obtain rfl := Sum.inl.inj qv761
    refine q_aload_n dX5_askGroup_15 rfl ?_
    refine q_iload_n dX5_askGroup_16 rfl ?_
    refine q_bipush (v := nI 8) dX5_askGroup_17 rfl ?_
    refine q_iload_n dX5_askGroup_19 rfl ?_
    refine t_imul_n dX5_askGroup_20 ?_
    refine q_iload_n dX5_askGroup_21 rfl ?_
    refine t_iadd_n dX5_askGroup_22 ?_
    refine t_callM (M' := mX5_lowerGroup) [.int (nI a1), .int (nI ((8 * a1) + (a2)))] [] dX5_askGroup_23 wPX5_86v wIX5_lowerGroup wSX5_lowerGroup iX5_lowerGroup oX5_lowerGroup rfl hok (sX5_lowerGroup Sc Γ n o ml (th) (sv761) hB hml (a1) (by omega) ((8 * a1) + (a2)) (by omega)) (Nat.le_of_ble_eq_true rfl) (Nat.le_of_ble_eq_true rfl) (Nat.le_of_ble_eq_true rfl) rfl (fun _ _ _ q => by obtain ⟨q, _⟩ := q; cases q) (fun v762 h thv762 sv762 qv762 hok => ?_)
    obtain ⟨qv762, etv762, esv762⟩ := qv762
    rw [etv762, esv762] at hok
    obtain rfl := Sum.inl.inj qv762
    exact q_vret dX5_askGroup_26 rfl ⟨th, sv761, ⟨rfl, rfl, by omega⟩, hok, rfl⟩
set_option maxRecDepth 20000 in
set_option maxHeartbeats 4000000 in
theorem sX5_including (Sc : q_S) (Γ : Nat → q_K) (n o ml th s : Nat) (hB : mB Γ o) (hml : ml ≤ 4) (hs : s ≤ 1800000000) (a1 : Nat) (b1 : a1 < 4) (a2 : Nat) (b2 : a2 < 8) (a3 : Int32) (a4 : Int32) : q_mod Sc Γ o ml mX5_including [.ref o, .int (nI a1), .int (nI a2), .int (a3), .int (a4)] n th s (fun O th' s' => q_RV O ∧ th' = th ∧ s' ≤ s + 1) := by
  intro h hok
  show q_A Sc mX5_including 0 [.ref o, .int (nI a1), .int (nI a2), .int (a3), .int (a4), .retAddr 0, .retAddr 0] [] h n 0 0 (fun O h' n' => ∃ th' s', (fun O th' s' => q_RV O ∧ th' = th ∧ s' ≤ s + 1) O th' s' ∧ q_ok (mG Γ o ml th' s') h' ∧ n' = n)
  refine q_bipush (v := nI 8) dX5_including_0 rfl ?_
  refine q_iload_n dX5_including_2 rfl ?_
  refine t_imul_n dX5_including_3 ?_
  refine q_iload_n dX5_including_4 rfl ?_
  refine t_iadd_n dX5_including_5 ?_
  refine t_istore [.ref o, .int (nI a1), .int (nI a2), .int (a3), .int (a4), .int (nI ((8 * a1) + (a2))), .retAddr 0] (Or.inr ⟨rfl, dX5_including_6⟩) (by decide) rfl ?_
  refine q_aload_n dX5_including_8 rfl ?_
  refine q_iload dX5_including_9 rfl ?_
  refine q_iconst (v := nI 1) dX5_including_11 rfl ?_
  refine t_callM (M' := mX5_setOf) [.int (nI ((8 * a1) + (a2))), .int (nI 1)] [] dX5_including_12 wPX5_90v wIX5_setOf wSX5_setOf iX5_setOf oX5_setOf rfl hok (sX5_setOf Sc Γ n o ml (th) (s) hB hml ((8 * a1) + (a2)) (by omega) (nI 1)) (Nat.le_of_ble_eq_true rfl) (Nat.le_of_ble_eq_true rfl) (Nat.le_of_ble_eq_true rfl) rfl (fun _ _ _ q => by obtain ⟨q, _⟩ := q; obtain ⟨_, q⟩ := q; cases q) (fun v764 h thv764 sv764 qv764 hok => ?_)
  obtain ⟨qv764, etv764, esv764⟩ := qv764
  rw [etv764, esv764] at hok
  obtain ⟨x765, qx765⟩ := qv764
  obtain rfl := Sum.inl.inj qx765
  refine t_istore [.ref o, .int (nI a1), .int (nI a2), .int (a3), .int (a4), .int (nI ((8 * a1) + (a2))), .int (x765)] (Or.inr ⟨rfl, dX5_including_15⟩) (by decide) rfl ?_
  refine q_iload_n dX5_including_17 rfl ?_
  refine q_if_eq (tgt := 31) dX5_including_18 (by decide) (fun c766 => ?_) (fun c766 => ?_)
  ·
    refine q_aload_n dX5_including_31 rfl ?_
    refine q_iload dX5_including_32 rfl ?_
    refine q_iconst (v := nI 0) dX5_including_34 rfl ?_
    refine q_iload dX5_including_35 rfl ?_
    refine q_iload dX5_including_37 rfl ?_
    refine q_ior dX5_including_39 ?_
    generalize (x765) ||| (a4) = z767
    refine q_iconst (v := nI 0) dX5_including_40 rfl ?_
    refine t_callM (M' := mX5_become) [.int (nI ((8 * a1) + (a2))), .int (nI 0), .int (z767), .int (nI 0)] [] dX5_including_41 wPX5_94v wIX5_become wSX5_become iX5_become oX5_become rfl hok (sX5_become Sc Γ n o ml (th) (s) hB hml ((8 * a1) + (a2)) (by omega) (nI 0) (z767) (nI 0)) (Nat.le_of_ble_eq_true rfl) (Nat.le_of_ble_eq_true rfl) (Nat.le_of_ble_eq_true rfl) rfl (fun _ _ _ q => by obtain ⟨q, _⟩ := q; cases q) (fun v768 h thv768 sv768 qv768 hok => ?_)
    obtain ⟨qv768, etv768, esv768⟩ := qv768
    rw [etv768, esv768] at hok
    obtain rfl := Sum.inl.inj qv768
    refine q_aload_n dX5_including_44 rfl ?_
    refine q_iload dX5_including_45 rfl ?_
    refine q_iload dX5_including_47 rfl ?_
    refine q_aload_n dX5_including_49 rfl ?_
    refine q_iload_n dX5_including_50 rfl ?_
    refine t_callM (M' := mX5_grace) [.int (nI a1)] [.int (a4), .int (nI ((8 * a1) + (a2))), .ref o] dX5_including_51 wPX5_98v wIX5_grace wSX5_grace iX5_grace oX5_grace rfl hok (sX5_grace Sc Γ n o ml (th) (s) hB hml (a1) (by omega)) (Nat.le_of_ble_eq_true rfl) (Nat.le_of_ble_eq_true rfl) (Nat.le_of_ble_eq_true rfl) rfl (fun _ _ _ q => by obtain ⟨q, _⟩ := q; obtain ⟨_, q⟩ := q; cases q) (fun v769 h thv769 sv769 qv769 hok => ?_)
    obtain ⟨qv769, etv769, esv769⟩ := qv769
    rw [etv769, esv769] at hok
    obtain ⟨x770, qx770⟩ := qv769
    obtain rfl := Sum.inl.inj qx770
    refine t_callM (M' := mX5_setTimers) [.int (nI ((8 * a1) + (a2))), .int (a4), .int (x770)] [] dX5_including_54 wPX5_102v wIX5_setTimers wSX5_setTimers iX5_setTimers oX5_setTimers rfl hok (sX5_setTimers Sc Γ n o ml (th) (s) hB hml ((8 * a1) + (a2)) (by omega) (a4) (x770)) (Nat.le_of_ble_eq_true rfl) (Nat.le_of_ble_eq_true rfl) (Nat.le_of_ble_eq_true rfl) rfl (fun _ _ _ q => by obtain ⟨q, _⟩ := q; cases q) (fun v771 h thv771 sv771 qv771 hok => ?_)
    obtain ⟨qv771, etv771, esv771⟩ := qv771
    rw [etv771, esv771] at hok
    obtain rfl := Sum.inl.inj qv771
    refine q_goto (tgt := 101) dX5_including_57 (by decide) ?_
    refine q_iload_n dX5_including_101 rfl ?_
    refine q_iconst (v := nI 2) dX5_including_102 rfl ?_
    refine q_icmp_ne (tgt := 122) dX5_including_103 (by decide) (fun c772 => ?_) (fun c772 => ?_)
    ·
      refine q_iload_n dX5_including_122 rfl ?_
      refine q_iconst (v := nI 3) dX5_including_123 rfl ?_
      refine q_icmp_eq (tgt := 132) dX5_including_124 (by decide) (fun c773 => ?_) (fun c773 => ?_)
      ·
        refine q_aload_n dX5_including_132 rfl ?_
        refine q_iload_n dX5_including_133 rfl ?_
        refine q_iload_n dX5_including_134 rfl ?_
        refine q_iload dX5_including_135 rfl ?_
        refine q_iload dX5_including_137 rfl ?_
        refine q_iand dX5_including_139 ?_
        generalize (x765) &&& (a4) = z774
        refine t_callM (M' := mX5_ask) [.int (nI a1), .int (nI a2), .int (z774)] [] dX5_including_140 wPX5_105v wIX5_ask wSX5_ask iX5_ask oX5_ask rfl hok (sX5_ask Sc Γ n o ml (th) (s) hB hml (by omega) (a1) (by omega) (a2) (by omega) (z774)) (Nat.le_of_ble_eq_true rfl) (Nat.le_of_ble_eq_true rfl) (Nat.le_of_ble_eq_true rfl) rfl (fun _ _ _ q => by obtain ⟨q, _⟩ := q; cases q) (fun v775 h thv775 sv775 qv775 hok => ?_)
        obtain ⟨qv775, etv775, hsv775⟩ := qv775
        rw [etv775] at hok
        obtain rfl := Sum.inl.inj qv775
        exact q_vret dX5_including_143 rfl ⟨th, sv775, ⟨rfl, rfl, by omega⟩, hok, rfl⟩
      ·
        refine q_iload_n dX5_including_127 rfl ?_
        refine q_iconst (v := nI 5) dX5_including_128 rfl ?_
        refine q_icmp_ne (tgt := 143) dX5_including_129 (by decide) (fun c776 => ?_) (fun c776 => ?_)
        ·
          exact q_vret dX5_including_143 rfl ⟨th, s, ⟨rfl, rfl, by omega⟩, hok, rfl⟩
        ·
          refine q_aload_n dX5_including_132 rfl ?_
          refine q_iload_n dX5_including_133 rfl ?_
          refine q_iload_n dX5_including_134 rfl ?_
          refine q_iload dX5_including_135 rfl ?_
          refine q_iload dX5_including_137 rfl ?_
          refine q_iand dX5_including_139 ?_
          generalize (x765) &&& (a4) = z777
          refine t_callM (M' := mX5_ask) [.int (nI a1), .int (nI a2), .int (z777)] [] dX5_including_140 wPX5_105v wIX5_ask wSX5_ask iX5_ask oX5_ask rfl hok (sX5_ask Sc Γ n o ml (th) (s) hB hml (by omega) (a1) (by omega) (a2) (by omega) (z777)) (Nat.le_of_ble_eq_true rfl) (Nat.le_of_ble_eq_true rfl) (Nat.le_of_ble_eq_true rfl) rfl (fun _ _ _ q => by obtain ⟨q, _⟩ := q; cases q) (fun v778 h thv778 sv778 qv778 hok => ?_)
          obtain ⟨qv778, etv778, hsv778⟩ := qv778
          rw [etv778] at hok
          obtain rfl := Sum.inl.inj qv778
          exact q_vret dX5_including_143 rfl ⟨th, sv778, ⟨rfl, rfl, by omega⟩, hok, rfl⟩
    ·
      refine q_aload_n dX5_including_106 rfl ?_
      refine q_iload_n dX5_including_107 rfl ?_
      refine q_iload_n dX5_including_108 rfl ?_
      refine q_iload dX5_including_109 rfl ?_
      refine q_iload dX5_including_111 rfl ?_
      refine q_iconst (v := -1) dX5_including_113 rfl ?_
      refine q_ixor dX5_including_114 ?_
      generalize (a4) ^^^ (-1) = z779
      refine q_iand dX5_including_115 ?_
      generalize (x765) &&& (z779) = z780
      refine t_callM (M' := mX5_ask) [.int (nI a1), .int (nI a2), .int (z780)] [] dX5_including_116 wPX5_105v wIX5_ask wSX5_ask iX5_ask oX5_ask rfl hok (sX5_ask Sc Γ n o ml (th) (s) hB hml (by omega) (a1) (by omega) (a2) (by omega) (z780)) (Nat.le_of_ble_eq_true rfl) (Nat.le_of_ble_eq_true rfl) (Nat.le_of_ble_eq_true rfl) rfl (fun _ _ _ q => by obtain ⟨q, _⟩ := q; cases q) (fun v781 h thv781 sv781 qv781 hok => ?_)
      obtain ⟨qv781, etv781, hsv781⟩ := qv781
      rw [etv781] at hok
      obtain rfl := Sum.inl.inj qv781
      refine q_goto (tgt := 143) dX5_including_119 (by decide) ?_
      exact q_vret dX5_including_143 rfl ⟨th, sv781, ⟨rfl, rfl, by omega⟩, hok, rfl⟩
  ·
    refine q_iload_n dX5_including_21 rfl ?_
    refine q_iconst (v := nI 4) dX5_including_22 rfl ?_
    refine q_icmp_eq (tgt := 31) dX5_including_23 (by decide) (fun c782 => ?_) (fun c782 => ?_)
    ·
      refine q_aload_n dX5_including_31 rfl ?_
      refine q_iload dX5_including_32 rfl ?_
      refine q_iconst (v := nI 0) dX5_including_34 rfl ?_
      refine q_iload dX5_including_35 rfl ?_
      refine q_iload dX5_including_37 rfl ?_
      refine q_ior dX5_including_39 ?_
      generalize (x765) ||| (a4) = z783
      refine q_iconst (v := nI 0) dX5_including_40 rfl ?_
      refine t_callM (M' := mX5_become) [.int (nI ((8 * a1) + (a2))), .int (nI 0), .int (z783), .int (nI 0)] [] dX5_including_41 wPX5_94v wIX5_become wSX5_become iX5_become oX5_become rfl hok (sX5_become Sc Γ n o ml (th) (s) hB hml ((8 * a1) + (a2)) (by omega) (nI 0) (z783) (nI 0)) (Nat.le_of_ble_eq_true rfl) (Nat.le_of_ble_eq_true rfl) (Nat.le_of_ble_eq_true rfl) rfl (fun _ _ _ q => by obtain ⟨q, _⟩ := q; cases q) (fun v784 h thv784 sv784 qv784 hok => ?_)
      obtain ⟨qv784, etv784, esv784⟩ := qv784
      rw [etv784, esv784] at hok
      obtain rfl := Sum.inl.inj qv784
      refine q_aload_n dX5_including_44 rfl ?_
      refine q_iload dX5_including_45 rfl ?_
      refine q_iload dX5_including_47 rfl ?_
      refine q_aload_n dX5_including_49 rfl ?_
      refine q_iload_n dX5_including_50 rfl ?_
      refine t_callM (M' := mX5_grace) [.int (nI a1)] [.int (a4), .int (nI ((8 * a1) + (a2))), .ref o] dX5_including_51 wPX5_98v wIX5_grace wSX5_grace iX5_grace oX5_grace rfl hok (sX5_grace Sc Γ n o ml (th) (s) hB hml (a1) (by omega)) (Nat.le_of_ble_eq_true rfl) (Nat.le_of_ble_eq_true rfl) (Nat.le_of_ble_eq_true rfl) rfl (fun _ _ _ q => by obtain ⟨q, _⟩ := q; obtain ⟨_, q⟩ := q; cases q) (fun v785 h thv785 sv785 qv785 hok => ?_)
      obtain ⟨qv785, etv785, esv785⟩ := qv785
      rw [etv785, esv785] at hok
      obtain ⟨x786, qx786⟩ := qv785
      obtain rfl := Sum.inl.inj qx786
      refine t_callM (M' := mX5_setTimers) [.int (nI ((8 * a1) + (a2))), .int (a4), .int (x786)] [] dX5_including_54 wPX5_102v wIX5_setTimers wSX5_setTimers iX5_setTimers oX5_setTimers rfl hok (sX5_setTimers Sc Γ n o ml (th) (s) hB hml ((8 * a1) + (a2)) (by omega) (a4) (x786)) (Nat.le_of_ble_eq_true rfl) (Nat.le_of_ble_eq_true rfl) (Nat.le_of_ble_eq_true rfl) rfl (fun _ _ _ q => by obtain ⟨q, _⟩ := q; cases q) (fun v787 h thv787 sv787 qv787 hok => ?_)
      obtain ⟨qv787, etv787, esv787⟩ := qv787
      rw [etv787, esv787] at hok
      obtain rfl := Sum.inl.inj qv787
      refine q_goto (tgt := 101) dX5_including_57 (by decide) ?_
      refine q_iload_n dX5_including_101 rfl ?_
      refine q_iconst (v := nI 2) dX5_including_102 rfl ?_
      refine q_icmp_ne (tgt := 122) dX5_including_103 (by decide) (fun c788 => ?_) (fun c788 => ?_)
      ·
        refine q_iload_n dX5_including_122 rfl ?_
        refine q_iconst (v := nI 3) dX5_including_123 rfl ?_
        refine q_icmp_eq (tgt := 132) dX5_including_124 (by decide) (fun c789 => ?_) (fun c789 => ?_)
        ·
          refine q_aload_n dX5_including_132 rfl ?_
          refine q_iload_n dX5_including_133 rfl ?_
          refine q_iload_n dX5_including_134 rfl ?_
          refine q_iload dX5_including_135 rfl ?_
          refine q_iload dX5_including_137 rfl ?_
          refine q_iand dX5_including_139 ?_
          generalize (x765) &&& (a4) = z790
          refine t_callM (M' := mX5_ask) [.int (nI a1), .int (nI a2), .int (z790)] [] dX5_including_140 wPX5_105v wIX5_ask wSX5_ask iX5_ask oX5_ask rfl hok (sX5_ask Sc Γ n o ml (th) (s) hB hml (by omega) (a1) (by omega) (a2) (by omega) (z790)) (Nat.le_of_ble_eq_true rfl) (Nat.le_of_ble_eq_true rfl) (Nat.le_of_ble_eq_true rfl) rfl (fun _ _ _ q => by obtain ⟨q, _⟩ := q; cases q) (fun v791 h thv791 sv791 qv791 hok => ?_)
          obtain ⟨qv791, etv791, hsv791⟩ := qv791
          rw [etv791] at hok
          obtain rfl := Sum.inl.inj qv791
          exact q_vret dX5_including_143 rfl ⟨th, sv791, ⟨rfl, rfl, by omega⟩, hok, rfl⟩
        ·
          refine q_iload_n dX5_including_127 rfl ?_
          refine q_iconst (v := nI 5) dX5_including_128 rfl ?_
          refine q_icmp_ne (tgt := 143) dX5_including_129 (by decide) (fun c792 => ?_) (fun c792 => ?_)
          ·
            exact q_vret dX5_including_143 rfl ⟨th, s, ⟨rfl, rfl, by omega⟩, hok, rfl⟩
          ·
            refine q_aload_n dX5_including_132 rfl ?_
            refine q_iload_n dX5_including_133 rfl ?_
            refine q_iload_n dX5_including_134 rfl ?_
            refine q_iload dX5_including_135 rfl ?_
            refine q_iload dX5_including_137 rfl ?_
            refine q_iand dX5_including_139 ?_
            generalize (x765) &&& (a4) = z793
            refine t_callM (M' := mX5_ask) [.int (nI a1), .int (nI a2), .int (z793)] [] dX5_including_140 wPX5_105v wIX5_ask wSX5_ask iX5_ask oX5_ask rfl hok (sX5_ask Sc Γ n o ml (th) (s) hB hml (by omega) (a1) (by omega) (a2) (by omega) (z793)) (Nat.le_of_ble_eq_true rfl) (Nat.le_of_ble_eq_true rfl) (Nat.le_of_ble_eq_true rfl) rfl (fun _ _ _ q => by obtain ⟨q, _⟩ := q; cases q) (fun v794 h thv794 sv794 qv794 hok => ?_)
            obtain ⟨qv794, etv794, hsv794⟩ := qv794
            rw [etv794] at hok
            obtain rfl := Sum.inl.inj qv794
            exact q_vret dX5_including_143 rfl ⟨th, sv794, ⟨rfl, rfl, by omega⟩, hok, rfl⟩
      ·
        refine q_aload_n dX5_including_106 rfl ?_
        refine q_iload_n dX5_including_107 rfl ?_
        refine q_iload_n dX5_including_108 rfl ?_
        refine q_iload dX5_including_109 rfl ?_
        refine q_iload dX5_including_111 rfl ?_
        refine q_iconst (v := -1) dX5_including_113 rfl ?_
        refine q_ixor dX5_including_114 ?_
        generalize (a4) ^^^ (-1) = z795
        refine q_iand dX5_including_115 ?_
        generalize (x765) &&& (z795) = z796
        refine t_callM (M' := mX5_ask) [.int (nI a1), .int (nI a2), .int (z796)] [] dX5_including_116 wPX5_105v wIX5_ask wSX5_ask iX5_ask oX5_ask rfl hok (sX5_ask Sc Γ n o ml (th) (s) hB hml (by omega) (a1) (by omega) (a2) (by omega) (z796)) (Nat.le_of_ble_eq_true rfl) (Nat.le_of_ble_eq_true rfl) (Nat.le_of_ble_eq_true rfl) rfl (fun _ _ _ q => by obtain ⟨q, _⟩ := q; cases q) (fun v797 h thv797 sv797 qv797 hok => ?_)
        obtain ⟨qv797, etv797, hsv797⟩ := qv797
        rw [etv797] at hok
        obtain rfl := Sum.inl.inj qv797
        refine q_goto (tgt := 143) dX5_including_119 (by decide) ?_
        exact q_vret dX5_including_143 rfl ⟨th, sv797, ⟨rfl, rfl, by omega⟩, hok, rfl⟩
    ·
      refine q_iload_n dX5_including_26 rfl ?_
      refine q_iconst (v := nI 2) dX5_including_27 rfl ?_
      refine q_icmp_ne (tgt := 60) dX5_including_28 (by decide) (fun c798 => ?_) (fun c798 => ?_)
      ·
        refine q_iload_n dX5_including_60 rfl ?_
        refine q_iconst (v := nI 1) dX5_including_61 rfl ?_
        refine q_icmp_eq (tgt := 70) dX5_including_62 (by decide) (fun c799 => ?_) (fun c799 => ?_)
        ·
          refine q_aload_n dX5_including_70 rfl ?_
          refine q_iload dX5_including_71 rfl ?_
          refine q_iconst (v := nI 1) dX5_including_73 rfl ?_
          refine q_iload dX5_including_74 rfl ?_
          refine q_iload dX5_including_76 rfl ?_
          refine q_iand dX5_including_78 ?_
          generalize (x765) &&& (a4) = z800
          refine q_iload dX5_including_79 rfl ?_
          refine q_iload dX5_including_81 rfl ?_
          refine q_iconst (v := -1) dX5_including_83 rfl ?_
          refine q_ixor dX5_including_84 ?_
          generalize (x765) ^^^ (-1) = z801
          refine q_iand dX5_including_85 ?_
          generalize (a4) &&& (z801) = z802
          refine t_callM (M' := mX5_become) [.int (nI ((8 * a1) + (a2))), .int (nI 1), .int (z800), .int (z802)] [] dX5_including_86 wPX5_94v wIX5_become wSX5_become iX5_become oX5_become rfl hok (sX5_become Sc Γ n o ml (th) (s) hB hml ((8 * a1) + (a2)) (by omega) (nI 1) (z800) (z802)) (Nat.le_of_ble_eq_true rfl) (Nat.le_of_ble_eq_true rfl) (Nat.le_of_ble_eq_true rfl) rfl (fun _ _ _ q => by obtain ⟨q, _⟩ := q; cases q) (fun v803 h thv803 sv803 qv803 hok => ?_)
          obtain ⟨qv803, etv803, esv803⟩ := qv803
          rw [etv803, esv803] at hok
          obtain rfl := Sum.inl.inj qv803
          refine q_aload_n dX5_including_89 rfl ?_
          refine t_getr 9 kX5 (by decide) wPX5_31 dX5_including_90 hok mG_o rfl ?_
          refine q_iload dX5_including_93 rfl ?_
          refine q_aload_n dX5_including_95 rfl ?_
          refine q_iload_n dX5_including_96 rfl ?_
          refine t_callM (M' := mX5_grace) [.int (nI a1)] [.int (nI ((8 * a1) + (a2))), .ref ((o + 8))] dX5_including_97 wPX5_98v wIX5_grace wSX5_grace iX5_grace oX5_grace rfl hok (sX5_grace Sc Γ n o ml (th) (s) hB hml (a1) (by omega)) (Nat.le_of_ble_eq_true rfl) (Nat.le_of_ble_eq_true rfl) (Nat.le_of_ble_eq_true rfl) rfl (fun _ _ _ q => by obtain ⟨q, _⟩ := q; obtain ⟨_, q⟩ := q; cases q) (fun v804 h thv804 sv804 qv804 hok => ?_)
          obtain ⟨qv804, etv804, esv804⟩ := qv804
          rw [etv804, esv804] at hok
          obtain ⟨x805, qx805⟩ := qv804
          obtain rfl := Sum.inl.inj qx805
          refine t_iast dX5_including_100 hok (mG_a7 (ml := ml) (th := th) (s := s) hB) (by exact vp_in_nI (by omega) (by omega)) (fun h hok => ?_)
          refine q_iload_n dX5_including_101 rfl ?_
          refine q_iconst (v := nI 2) dX5_including_102 rfl ?_
          refine q_icmp_ne (tgt := 122) dX5_including_103 (by decide) (fun c806 => ?_) (fun c806 => ?_)
          rotate_left
          · exact absurd c806 c798
          refine q_iload_n dX5_including_122 rfl ?_
          refine q_iconst (v := nI 3) dX5_including_123 rfl ?_
          refine q_icmp_eq (tgt := 132) dX5_including_124 (by decide) (fun c807 => ?_) (fun c807 => ?_)
          ·
            refine q_aload_n dX5_including_132 rfl ?_
            refine q_iload_n dX5_including_133 rfl ?_
            refine q_iload_n dX5_including_134 rfl ?_
            refine q_iload dX5_including_135 rfl ?_
            refine q_iload dX5_including_137 rfl ?_
            refine q_iand dX5_including_139 ?_
            generalize (x765) &&& (a4) = z808
            refine t_callM (M' := mX5_ask) [.int (nI a1), .int (nI a2), .int (z808)] [] dX5_including_140 wPX5_105v wIX5_ask wSX5_ask iX5_ask oX5_ask rfl hok (sX5_ask Sc Γ n o ml (th) (s) hB hml (by omega) (a1) (by omega) (a2) (by omega) (z808)) (Nat.le_of_ble_eq_true rfl) (Nat.le_of_ble_eq_true rfl) (Nat.le_of_ble_eq_true rfl) rfl (fun _ _ _ q => by obtain ⟨q, _⟩ := q; cases q) (fun v809 h thv809 sv809 qv809 hok => ?_)
            obtain ⟨qv809, etv809, hsv809⟩ := qv809
            rw [etv809] at hok
            obtain rfl := Sum.inl.inj qv809
            exact q_vret dX5_including_143 rfl ⟨th, sv809, ⟨rfl, rfl, by omega⟩, hok, rfl⟩
          ·
            refine q_iload_n dX5_including_127 rfl ?_
            refine q_iconst (v := nI 5) dX5_including_128 rfl ?_
            refine q_icmp_ne (tgt := 143) dX5_including_129 (by decide) (fun c810 => ?_) (fun c810 => ?_)
            ·
              exact q_vret dX5_including_143 rfl ⟨th, s, ⟨rfl, rfl, by omega⟩, hok, rfl⟩
            ·
              refine q_aload_n dX5_including_132 rfl ?_
              refine q_iload_n dX5_including_133 rfl ?_
              refine q_iload_n dX5_including_134 rfl ?_
              refine q_iload dX5_including_135 rfl ?_
              refine q_iload dX5_including_137 rfl ?_
              refine q_iand dX5_including_139 ?_
              generalize (x765) &&& (a4) = z811
              refine t_callM (M' := mX5_ask) [.int (nI a1), .int (nI a2), .int (z811)] [] dX5_including_140 wPX5_105v wIX5_ask wSX5_ask iX5_ask oX5_ask rfl hok (sX5_ask Sc Γ n o ml (th) (s) hB hml (by omega) (a1) (by omega) (a2) (by omega) (z811)) (Nat.le_of_ble_eq_true rfl) (Nat.le_of_ble_eq_true rfl) (Nat.le_of_ble_eq_true rfl) rfl (fun _ _ _ q => by obtain ⟨q, _⟩ := q; cases q) (fun v812 h thv812 sv812 qv812 hok => ?_)
              obtain ⟨qv812, etv812, hsv812⟩ := qv812
              rw [etv812] at hok
              obtain rfl := Sum.inl.inj qv812
              exact q_vret dX5_including_143 rfl ⟨th, sv812, ⟨rfl, rfl, by omega⟩, hok, rfl⟩
        ·
          refine q_iload_n dX5_including_65 rfl ?_
          refine q_iconst (v := nI 3) dX5_including_66 rfl ?_
          refine q_icmp_ne (tgt := 101) dX5_including_67 (by decide) (fun c813 => ?_) (fun c813 => ?_)
          ·
            refine q_iload_n dX5_including_101 rfl ?_
            refine q_iconst (v := nI 2) dX5_including_102 rfl ?_
            refine q_icmp_ne (tgt := 122) dX5_including_103 (by decide) (fun c814 => ?_) (fun c814 => ?_)
            rotate_left
            · exact absurd c814 c798
            refine q_iload_n dX5_including_122 rfl ?_
            refine q_iconst (v := nI 3) dX5_including_123 rfl ?_
            refine q_icmp_eq (tgt := 132) dX5_including_124 (by decide) (fun c815 => ?_) (fun c815 => ?_)
            · exact absurd c815 c813
            refine q_iload_n dX5_including_127 rfl ?_
            refine q_iconst (v := nI 5) dX5_including_128 rfl ?_
            refine q_icmp_ne (tgt := 143) dX5_including_129 (by decide) (fun c816 => ?_) (fun c816 => ?_)
            ·
              exact q_vret dX5_including_143 rfl ⟨th, s, ⟨rfl, rfl, by omega⟩, hok, rfl⟩
            ·
              refine q_aload_n dX5_including_132 rfl ?_
              refine q_iload_n dX5_including_133 rfl ?_
              refine q_iload_n dX5_including_134 rfl ?_
              refine q_iload dX5_including_135 rfl ?_
              refine q_iload dX5_including_137 rfl ?_
              refine q_iand dX5_including_139 ?_
              generalize (x765) &&& (a4) = z817
              refine t_callM (M' := mX5_ask) [.int (nI a1), .int (nI a2), .int (z817)] [] dX5_including_140 wPX5_105v wIX5_ask wSX5_ask iX5_ask oX5_ask rfl hok (sX5_ask Sc Γ n o ml (th) (s) hB hml (by omega) (a1) (by omega) (a2) (by omega) (z817)) (Nat.le_of_ble_eq_true rfl) (Nat.le_of_ble_eq_true rfl) (Nat.le_of_ble_eq_true rfl) rfl (fun _ _ _ q => by obtain ⟨q, _⟩ := q; cases q) (fun v818 h thv818 sv818 qv818 hok => ?_)
              obtain ⟨qv818, etv818, hsv818⟩ := qv818
              rw [etv818] at hok
              obtain rfl := Sum.inl.inj qv818
              exact q_vret dX5_including_143 rfl ⟨th, sv818, ⟨rfl, rfl, by omega⟩, hok, rfl⟩
          ·
            refine q_aload_n dX5_including_70 rfl ?_
            refine q_iload dX5_including_71 rfl ?_
            refine q_iconst (v := nI 1) dX5_including_73 rfl ?_
            refine q_iload dX5_including_74 rfl ?_
            refine q_iload dX5_including_76 rfl ?_
            refine q_iand dX5_including_78 ?_
            generalize (x765) &&& (a4) = z819
            refine q_iload dX5_including_79 rfl ?_
            refine q_iload dX5_including_81 rfl ?_
            refine q_iconst (v := -1) dX5_including_83 rfl ?_
            refine q_ixor dX5_including_84 ?_
            generalize (x765) ^^^ (-1) = z820
            refine q_iand dX5_including_85 ?_
            generalize (a4) &&& (z820) = z821
            refine t_callM (M' := mX5_become) [.int (nI ((8 * a1) + (a2))), .int (nI 1), .int (z819), .int (z821)] [] dX5_including_86 wPX5_94v wIX5_become wSX5_become iX5_become oX5_become rfl hok (sX5_become Sc Γ n o ml (th) (s) hB hml ((8 * a1) + (a2)) (by omega) (nI 1) (z819) (z821)) (Nat.le_of_ble_eq_true rfl) (Nat.le_of_ble_eq_true rfl) (Nat.le_of_ble_eq_true rfl) rfl (fun _ _ _ q => by obtain ⟨q, _⟩ := q; cases q) (fun v822 h thv822 sv822 qv822 hok => ?_)
            obtain ⟨qv822, etv822, esv822⟩ := qv822
            rw [etv822, esv822] at hok
            obtain rfl := Sum.inl.inj qv822
            refine q_aload_n dX5_including_89 rfl ?_
            refine t_getr 9 kX5 (by decide) wPX5_31 dX5_including_90 hok mG_o rfl ?_
            refine q_iload dX5_including_93 rfl ?_
            refine q_aload_n dX5_including_95 rfl ?_
            refine q_iload_n dX5_including_96 rfl ?_
            refine t_callM (M' := mX5_grace) [.int (nI a1)] [.int (nI ((8 * a1) + (a2))), .ref ((o + 8))] dX5_including_97 wPX5_98v wIX5_grace wSX5_grace iX5_grace oX5_grace rfl hok (sX5_grace Sc Γ n o ml (th) (s) hB hml (a1) (by omega)) (Nat.le_of_ble_eq_true rfl) (Nat.le_of_ble_eq_true rfl) (Nat.le_of_ble_eq_true rfl) rfl (fun _ _ _ q => by obtain ⟨q, _⟩ := q; obtain ⟨_, q⟩ := q; cases q) (fun v823 h thv823 sv823 qv823 hok => ?_)
            obtain ⟨qv823, etv823, esv823⟩ := qv823
            rw [etv823, esv823] at hok
            obtain ⟨x824, qx824⟩ := qv823
            obtain rfl := Sum.inl.inj qx824
            refine t_iast dX5_including_100 hok (mG_a7 (ml := ml) (th := th) (s := s) hB) (by exact vp_in_nI (by omega) (by omega)) (fun h hok => ?_)
            refine q_iload_n dX5_including_101 rfl ?_
            refine q_iconst (v := nI 2) dX5_including_102 rfl ?_
            refine q_icmp_ne (tgt := 122) dX5_including_103 (by decide) (fun c825 => ?_) (fun c825 => ?_)
            rotate_left
            · exact absurd c825 c798
            refine q_iload_n dX5_including_122 rfl ?_
            refine q_iconst (v := nI 3) dX5_including_123 rfl ?_
            refine q_icmp_eq (tgt := 132) dX5_including_124 (by decide) (fun c826 => ?_) (fun c826 => ?_)
            rotate_left
            · exact absurd c813 c826
            refine q_aload_n dX5_including_132 rfl ?_
            refine q_iload_n dX5_including_133 rfl ?_
            refine q_iload_n dX5_including_134 rfl ?_
            refine q_iload dX5_including_135 rfl ?_
            refine q_iload dX5_including_137 rfl ?_
            refine q_iand dX5_including_139 ?_
            generalize (x765) &&& (a4) = z827
            refine t_callM (M' := mX5_ask) [.int (nI a1), .int (nI a2), .int (z827)] [] dX5_including_140 wPX5_105v wIX5_ask wSX5_ask iX5_ask oX5_ask rfl hok (sX5_ask Sc Γ n o ml (th) (s) hB hml (by omega) (a1) (by omega) (a2) (by omega) (z827)) (Nat.le_of_ble_eq_true rfl) (Nat.le_of_ble_eq_true rfl) (Nat.le_of_ble_eq_true rfl) rfl (fun _ _ _ q => by obtain ⟨q, _⟩ := q; cases q) (fun v828 h thv828 sv828 qv828 hok => ?_)
            obtain ⟨qv828, etv828, hsv828⟩ := qv828
            rw [etv828] at hok
            obtain rfl := Sum.inl.inj qv828
            exact q_vret dX5_including_143 rfl ⟨th, sv828, ⟨rfl, rfl, by omega⟩, hok, rfl⟩
      ·
        refine q_aload_n dX5_including_31 rfl ?_
        refine q_iload dX5_including_32 rfl ?_
        refine q_iconst (v := nI 0) dX5_including_34 rfl ?_
        refine q_iload dX5_including_35 rfl ?_
        refine q_iload dX5_including_37 rfl ?_
        refine q_ior dX5_including_39 ?_
        generalize (x765) ||| (a4) = z829
        refine q_iconst (v := nI 0) dX5_including_40 rfl ?_
        refine t_callM (M' := mX5_become) [.int (nI ((8 * a1) + (a2))), .int (nI 0), .int (z829), .int (nI 0)] [] dX5_including_41 wPX5_94v wIX5_become wSX5_become iX5_become oX5_become rfl hok (sX5_become Sc Γ n o ml (th) (s) hB hml ((8 * a1) + (a2)) (by omega) (nI 0) (z829) (nI 0)) (Nat.le_of_ble_eq_true rfl) (Nat.le_of_ble_eq_true rfl) (Nat.le_of_ble_eq_true rfl) rfl (fun _ _ _ q => by obtain ⟨q, _⟩ := q; cases q) (fun v830 h thv830 sv830 qv830 hok => ?_)
        obtain ⟨qv830, etv830, esv830⟩ := qv830
        rw [etv830, esv830] at hok
        obtain rfl := Sum.inl.inj qv830
        refine q_aload_n dX5_including_44 rfl ?_
        refine q_iload dX5_including_45 rfl ?_
        refine q_iload dX5_including_47 rfl ?_
        refine q_aload_n dX5_including_49 rfl ?_
        refine q_iload_n dX5_including_50 rfl ?_
        refine t_callM (M' := mX5_grace) [.int (nI a1)] [.int (a4), .int (nI ((8 * a1) + (a2))), .ref o] dX5_including_51 wPX5_98v wIX5_grace wSX5_grace iX5_grace oX5_grace rfl hok (sX5_grace Sc Γ n o ml (th) (s) hB hml (a1) (by omega)) (Nat.le_of_ble_eq_true rfl) (Nat.le_of_ble_eq_true rfl) (Nat.le_of_ble_eq_true rfl) rfl (fun _ _ _ q => by obtain ⟨q, _⟩ := q; obtain ⟨_, q⟩ := q; cases q) (fun v831 h thv831 sv831 qv831 hok => ?_)
        obtain ⟨qv831, etv831, esv831⟩ := qv831
        rw [etv831, esv831] at hok
        obtain ⟨x832, qx832⟩ := qv831
        obtain rfl := Sum.inl.inj qx832
        refine t_callM (M' := mX5_setTimers) [.int (nI ((8 * a1) + (a2))), .int (a4), .int (x832)] [] dX5_including_54 wPX5_102v wIX5_setTimers wSX5_setTimers iX5_setTimers oX5_setTimers rfl hok (sX5_setTimers Sc Γ n o ml (th) (s) hB hml ((8 * a1) + (a2)) (by omega) (a4) (x832)) (Nat.le_of_ble_eq_true rfl) (Nat.le_of_ble_eq_true rfl) (Nat.le_of_ble_eq_true rfl) rfl (fun _ _ _ q => by obtain ⟨q, _⟩ := q; cases q) (fun v833 h thv833 sv833 qv833 hok => ?_)
        obtain ⟨qv833, etv833, esv833⟩ := qv833
        rw [etv833, esv833] at hok
        obtain rfl := Sum.inl.inj qv833
        refine q_goto (tgt := 101) dX5_including_57 (by decide) ?_
        refine q_iload_n dX5_including_101 rfl ?_
        refine q_iconst (v := nI 2) dX5_including_102 rfl ?_
        refine q_icmp_ne (tgt := 122) dX5_including_103 (by decide) (fun c834 => ?_) (fun c834 => ?_)
        · exact absurd c798 c834
        refine q_aload_n dX5_including_106 rfl ?_
        refine q_iload_n dX5_including_107 rfl ?_
        refine q_iload_n dX5_including_108 rfl ?_
        refine q_iload dX5_including_109 rfl ?_
        refine q_iload dX5_including_111 rfl ?_
        refine q_iconst (v := -1) dX5_including_113 rfl ?_
        refine q_ixor dX5_including_114 ?_
        generalize (a4) ^^^ (-1) = z835
        refine q_iand dX5_including_115 ?_
        generalize (x765) &&& (z835) = z836
        refine t_callM (M' := mX5_ask) [.int (nI a1), .int (nI a2), .int (z836)] [] dX5_including_116 wPX5_105v wIX5_ask wSX5_ask iX5_ask oX5_ask rfl hok (sX5_ask Sc Γ n o ml (th) (s) hB hml (by omega) (a1) (by omega) (a2) (by omega) (z836)) (Nat.le_of_ble_eq_true rfl) (Nat.le_of_ble_eq_true rfl) (Nat.le_of_ble_eq_true rfl) rfl (fun _ _ _ q => by obtain ⟨q, _⟩ := q; cases q) (fun v837 h thv837 sv837 qv837 hok => ?_)
        obtain ⟨qv837, etv837, hsv837⟩ := qv837
        rw [etv837] at hok
        obtain rfl := Sum.inl.inj qv837
        refine q_goto (tgt := 143) dX5_including_119 (by decide) ?_
        exact q_vret dX5_including_143 rfl ⟨th, sv837, ⟨rfl, rfl, by omega⟩, hok, rfl⟩
set_option maxRecDepth 20000 in
set_option maxHeartbeats 4000000 in
theorem sX5_excluding (Sc : q_S) (Γ : Nat → q_K) (n o ml th s : Nat) (hB : mB Γ o) (hml : ml ≤ 4) (hs : s ≤ 1800000000) (a1 : Nat) (b1 : a1 < 4) (a2 : Nat) (b2 : a2 < 8) (a3 : Int32) (a4 : Int32) : q_mod Sc Γ o ml mX5_excluding [.ref o, .int (nI a1), .int (nI a2), .int (a3), .int (a4)] n th s (fun O th' s' => q_RV O ∧ th' = th ∧ s' ≤ s + 2) := by
  intro h hok
  show q_A Sc mX5_excluding 0 [.ref o, .int (nI a1), .int (nI a2), .int (a3), .int (a4), .retAddr 0, .retAddr 0, .retAddr 0, .retAddr 0, .retAddr 0] [] h n 0 0 (fun O h' n' => ∃ th' s', (fun O th' s' => q_RV O ∧ th' = th ∧ s' ≤ s + 2) O th' s' ∧ q_ok (mG Γ o ml th' s') h' ∧ n' = n)
  refine q_bipush (v := nI 8) dX5_excluding_0 rfl ?_
  refine q_iload_n dX5_excluding_2 rfl ?_
  refine t_imul_n dX5_excluding_3 ?_
  refine q_iload_n dX5_excluding_4 rfl ?_
  refine t_iadd_n dX5_excluding_5 ?_
  refine t_istore [.ref o, .int (nI a1), .int (nI a2), .int (a3), .int (a4), .int (nI ((8 * a1) + (a2))), .retAddr 0, .retAddr 0, .retAddr 0, .retAddr 0] (Or.inr ⟨rfl, dX5_excluding_6⟩) (by decide) rfl ?_
  refine q_aload_n dX5_excluding_8 rfl ?_
  refine q_iload dX5_excluding_9 rfl ?_
  refine q_iconst (v := nI 1) dX5_excluding_11 rfl ?_
  refine t_callM (M' := mX5_setOf) [.int (nI ((8 * a1) + (a2))), .int (nI 1)] [] dX5_excluding_12 wPX5_90v wIX5_setOf wSX5_setOf iX5_setOf oX5_setOf rfl hok (sX5_setOf Sc Γ n o ml (th) (s) hB hml ((8 * a1) + (a2)) (by omega) (nI 1)) (Nat.le_of_ble_eq_true rfl) (Nat.le_of_ble_eq_true rfl) (Nat.le_of_ble_eq_true rfl) rfl (fun _ _ _ q => by obtain ⟨q, _⟩ := q; obtain ⟨_, q⟩ := q; cases q) (fun v839 h thv839 sv839 qv839 hok => ?_)
  obtain ⟨qv839, etv839, esv839⟩ := qv839
  rw [etv839, esv839] at hok
  obtain ⟨x840, qx840⟩ := qv839
  obtain rfl := Sum.inl.inj qx840
  refine t_istore [.ref o, .int (nI a1), .int (nI a2), .int (a3), .int (a4), .int (nI ((8 * a1) + (a2))), .int (x840), .retAddr 0, .retAddr 0, .retAddr 0] (Or.inr ⟨rfl, dX5_excluding_15⟩) (by decide) rfl ?_
  refine q_aload_n dX5_excluding_17 rfl ?_
  refine q_iload dX5_excluding_18 rfl ?_
  refine q_iconst (v := nI 2) dX5_excluding_20 rfl ?_
  refine t_callM (M' := mX5_setOf) [.int (nI ((8 * a1) + (a2))), .int (nI 2)] [] dX5_excluding_21 wPX5_90v wIX5_setOf wSX5_setOf iX5_setOf oX5_setOf rfl hok (sX5_setOf Sc Γ n o ml (th) (s) hB hml ((8 * a1) + (a2)) (by omega) (nI 2)) (Nat.le_of_ble_eq_true rfl) (Nat.le_of_ble_eq_true rfl) (Nat.le_of_ble_eq_true rfl) rfl (fun _ _ _ q => by obtain ⟨q, _⟩ := q; obtain ⟨_, q⟩ := q; cases q) (fun v841 h thv841 sv841 qv841 hok => ?_)
  obtain ⟨qv841, etv841, esv841⟩ := qv841
  rw [etv841, esv841] at hok
  obtain ⟨x842, qx842⟩ := qv841
  obtain rfl := Sum.inl.inj qx842
  refine t_istore [.ref o, .int (nI a1), .int (nI a2), .int (a3), .int (a4), .int (nI ((8 * a1) + (a2))), .int (x840), .int (x842), .retAddr 0, .retAddr 0] (Or.inr ⟨rfl, dX5_excluding_24⟩) (by decide) rfl ?_
  refine q_iload dX5_excluding_26 rfl ?_
  refine q_iload dX5_excluding_28 rfl ?_
  refine q_iconst (v := -1) dX5_excluding_30 rfl ?_
  refine q_ixor dX5_excluding_31 ?_
  generalize (x840) ^^^ (-1) = z843
  refine q_iand dX5_excluding_32 ?_
  generalize (a4) &&& (z843) = z844
  refine q_iload dX5_excluding_33 rfl ?_
  refine q_iconst (v := -1) dX5_excluding_35 rfl ?_
  refine q_ixor dX5_excluding_36 ?_
  generalize (x842) ^^^ (-1) = z845
  refine q_iand dX5_excluding_37 ?_
  generalize (z844) &&& (z845) = z846
  refine t_istore [.ref o, .int (nI a1), .int (nI a2), .int (a3), .int (a4), .int (nI ((8 * a1) + (a2))), .int (x840), .int (x842), .int (z846), .retAddr 0] (Or.inr ⟨rfl, dX5_excluding_38⟩) (by decide) rfl ?_
  refine q_aload_n dX5_excluding_40 rfl ?_
  refine t_getr 9 kX5 (by decide) wPX5_31 dX5_excluding_41 hok mG_o rfl ?_
  refine q_iload dX5_excluding_44 rfl ?_
  refine t_iald dX5_excluding_46 hok (mG_a7 (ml := ml) (th := th) (s := s) hB) (by exact vp_in_nI (by omega) (by omega)) (fun x847 => ?_)
  refine t_istore [.ref o, .int (nI a1), .int (nI a2), .int (a3), .int (a4), .int (nI ((8 * a1) + (a2))), .int (x840), .int (x842), .int (z846), .int (x847)] (Or.inr ⟨rfl, dX5_excluding_47⟩) (by decide) rfl ?_
  refine q_iload_n dX5_excluding_49 rfl ?_
  refine q_if_eq (tgt := 63) dX5_excluding_50 (by decide) (fun c848 => ?_) (fun c848 => ?_)
  ·
    refine q_aload_n dX5_excluding_63 rfl ?_
    refine q_iload dX5_excluding_64 rfl ?_
    refine q_iconst (v := nI 1) dX5_excluding_66 rfl ?_
    refine q_iload dX5_excluding_67 rfl ?_
    refine q_iload dX5_excluding_69 rfl ?_
    refine q_ior dX5_excluding_71 ?_
    generalize (x840) ||| (a4) = z849
    refine q_iload dX5_excluding_72 rfl ?_
    refine q_iload dX5_excluding_74 rfl ?_
    refine q_iconst (v := -1) dX5_excluding_76 rfl ?_
    refine q_ixor dX5_excluding_77 ?_
    generalize (a4) ^^^ (-1) = z850
    refine q_iand dX5_excluding_78 ?_
    generalize (x842) &&& (z850) = z851
    refine t_callM (M' := mX5_become) [.int (nI ((8 * a1) + (a2))), .int (nI 1), .int (z849), .int (z851)] [] dX5_excluding_79 wPX5_94v wIX5_become wSX5_become iX5_become oX5_become rfl hok (sX5_become Sc Γ n o ml (th) (s) hB hml ((8 * a1) + (a2)) (by omega) (nI 1) (z849) (z851)) (Nat.le_of_ble_eq_true rfl) (Nat.le_of_ble_eq_true rfl) (Nat.le_of_ble_eq_true rfl) rfl (fun _ _ _ q => by obtain ⟨q, _⟩ := q; cases q) (fun v852 h thv852 sv852 qv852 hok => ?_)
    obtain ⟨qv852, etv852, esv852⟩ := qv852
    rw [etv852, esv852] at hok
    obtain rfl := Sum.inl.inj qv852
    refine q_aload_n dX5_excluding_82 rfl ?_
    refine q_iload dX5_excluding_83 rfl ?_
    refine q_iload dX5_excluding_85 rfl ?_
    refine q_aload_n dX5_excluding_87 rfl ?_
    refine q_iload_n dX5_excluding_88 rfl ?_
    refine t_callM (M' := mX5_grace) [.int (nI a1)] [.int (a4), .int (nI ((8 * a1) + (a2))), .ref o] dX5_excluding_89 wPX5_98v wIX5_grace wSX5_grace iX5_grace oX5_grace rfl hok (sX5_grace Sc Γ n o ml (th) (s) hB hml (a1) (by omega)) (Nat.le_of_ble_eq_true rfl) (Nat.le_of_ble_eq_true rfl) (Nat.le_of_ble_eq_true rfl) rfl (fun _ _ _ q => by obtain ⟨q, _⟩ := q; obtain ⟨_, q⟩ := q; cases q) (fun v853 h thv853 sv853 qv853 hok => ?_)
    obtain ⟨qv853, etv853, esv853⟩ := qv853
    rw [etv853, esv853] at hok
    obtain ⟨x854, qx854⟩ := qv853
    obtain rfl := Sum.inl.inj qx854
    refine t_callM (M' := mX5_setTimers) [.int (nI ((8 * a1) + (a2))), .int (a4), .int (x854)] [] dX5_excluding_92 wPX5_102v wIX5_setTimers wSX5_setTimers iX5_setTimers oX5_setTimers rfl hok (sX5_setTimers Sc Γ n o ml (th) (s) hB hml ((8 * a1) + (a2)) (by omega) (a4) (x854)) (Nat.le_of_ble_eq_true rfl) (Nat.le_of_ble_eq_true rfl) (Nat.le_of_ble_eq_true rfl) rfl (fun _ _ _ q => by obtain ⟨q, _⟩ := q; cases q) (fun v855 h thv855 sv855 qv855 hok => ?_)
    obtain ⟨qv855, etv855, esv855⟩ := qv855
    rw [etv855, esv855] at hok
    obtain rfl := Sum.inl.inj qv855
    refine q_goto (tgt := 189) dX5_excluding_95 (by decide) ?_
    refine q_iload_n dX5_excluding_189 rfl ?_
    refine q_iconst (v := nI 2) dX5_excluding_190 rfl ?_
    refine q_icmp_ne (tgt := 216) dX5_excluding_191 (by decide) (fun c856 => ?_) (fun c856 => ?_)
    ·
      refine q_iload_n dX5_excluding_216 rfl ?_
      refine q_iconst (v := nI 3) dX5_excluding_217 rfl ?_
      refine q_icmp_eq (tgt := 226) dX5_excluding_218 (by decide) (fun c857 => ?_) (fun c857 => ?_)
      ·
        refine q_aload_n dX5_excluding_226 rfl ?_
        refine q_iload_n dX5_excluding_227 rfl ?_
        refine q_iload_n dX5_excluding_228 rfl ?_
        refine q_iload dX5_excluding_229 rfl ?_
        refine q_iload dX5_excluding_231 rfl ?_
        refine q_iconst (v := -1) dX5_excluding_233 rfl ?_
        refine q_ixor dX5_excluding_234 ?_
        generalize (x842) ^^^ (-1) = z858
        refine q_iand dX5_excluding_235 ?_
        generalize (a4) &&& (z858) = z859
        refine t_callM (M' := mX5_ask) [.int (nI a1), .int (nI a2), .int (z859)] [] dX5_excluding_236 wPX5_105v wIX5_ask wSX5_ask iX5_ask oX5_ask rfl hok (sX5_ask Sc Γ n o ml (th) (s) hB hml (by omega) (a1) (by omega) (a2) (by omega) (z859)) (Nat.le_of_ble_eq_true rfl) (Nat.le_of_ble_eq_true rfl) (Nat.le_of_ble_eq_true rfl) rfl (fun _ _ _ q => by obtain ⟨q, _⟩ := q; cases q) (fun v860 h thv860 sv860 qv860 hok => ?_)
        obtain ⟨qv860, etv860, hsv860⟩ := qv860
        rw [etv860] at hok
        obtain rfl := Sum.inl.inj qv860
        exact q_vret dX5_excluding_239 rfl ⟨th, sv860, ⟨rfl, rfl, by omega⟩, hok, rfl⟩
      ·
        refine q_iload_n dX5_excluding_221 rfl ?_
        refine q_iconst (v := nI 5) dX5_excluding_222 rfl ?_
        refine q_icmp_ne (tgt := 239) dX5_excluding_223 (by decide) (fun c861 => ?_) (fun c861 => ?_)
        ·
          exact q_vret dX5_excluding_239 rfl ⟨th, s, ⟨rfl, rfl, by omega⟩, hok, rfl⟩
        ·
          refine q_aload_n dX5_excluding_226 rfl ?_
          refine q_iload_n dX5_excluding_227 rfl ?_
          refine q_iload_n dX5_excluding_228 rfl ?_
          refine q_iload dX5_excluding_229 rfl ?_
          refine q_iload dX5_excluding_231 rfl ?_
          refine q_iconst (v := -1) dX5_excluding_233 rfl ?_
          refine q_ixor dX5_excluding_234 ?_
          generalize (x842) ^^^ (-1) = z862
          refine q_iand dX5_excluding_235 ?_
          generalize (a4) &&& (z862) = z863
          refine t_callM (M' := mX5_ask) [.int (nI a1), .int (nI a2), .int (z863)] [] dX5_excluding_236 wPX5_105v wIX5_ask wSX5_ask iX5_ask oX5_ask rfl hok (sX5_ask Sc Γ n o ml (th) (s) hB hml (by omega) (a1) (by omega) (a2) (by omega) (z863)) (Nat.le_of_ble_eq_true rfl) (Nat.le_of_ble_eq_true rfl) (Nat.le_of_ble_eq_true rfl) rfl (fun _ _ _ q => by obtain ⟨q, _⟩ := q; cases q) (fun v864 h thv864 sv864 qv864 hok => ?_)
          obtain ⟨qv864, etv864, hsv864⟩ := qv864
          rw [etv864] at hok
          obtain rfl := Sum.inl.inj qv864
          exact q_vret dX5_excluding_239 rfl ⟨th, sv864, ⟨rfl, rfl, by omega⟩, hok, rfl⟩
    ·
      refine q_aload_n dX5_excluding_194 rfl ?_
      refine q_iload_n dX5_excluding_195 rfl ?_
      refine q_iload_n dX5_excluding_196 rfl ?_
      refine q_iload dX5_excluding_197 rfl ?_
      refine q_iload dX5_excluding_199 rfl ?_
      refine q_iconst (v := -1) dX5_excluding_201 rfl ?_
      refine q_ixor dX5_excluding_202 ?_
      generalize (a4) ^^^ (-1) = z865
      refine q_iand dX5_excluding_203 ?_
      generalize (x840) &&& (z865) = z866
      refine t_callM (M' := mX5_ask) [.int (nI a1), .int (nI a2), .int (z866)] [] dX5_excluding_204 wPX5_105v wIX5_ask wSX5_ask iX5_ask oX5_ask rfl hok (sX5_ask Sc Γ n o ml (th) (s) hB hml (by omega) (a1) (by omega) (a2) (by omega) (z866)) (Nat.le_of_ble_eq_true rfl) (Nat.le_of_ble_eq_true rfl) (Nat.le_of_ble_eq_true rfl) rfl (fun _ _ _ q => by obtain ⟨q, _⟩ := q; cases q) (fun v867 h thv867 sv867 qv867 hok => ?_)
      obtain ⟨qv867, etv867, hsv867⟩ := qv867
      rw [etv867] at hok
      obtain rfl := Sum.inl.inj qv867
      refine q_aload_n dX5_excluding_207 rfl ?_
      refine q_iload_n dX5_excluding_208 rfl ?_
      refine q_iload_n dX5_excluding_209 rfl ?_
      refine t_callM (M' := mX5_askGroup) [.int (nI a1), .int (nI a2)] [] dX5_excluding_210 wPX5_108v wIX5_askGroup wSX5_askGroup iX5_askGroup oX5_askGroup rfl hok (sX5_askGroup Sc Γ n o ml (th) (sv867) hB hml (by omega) (a1) (by omega) (a2) (by omega)) (Nat.le_of_ble_eq_true rfl) (Nat.le_of_ble_eq_true rfl) (Nat.le_of_ble_eq_true rfl) rfl (fun _ _ _ q => by obtain ⟨q, _⟩ := q; cases q) (fun v868 h thv868 sv868 qv868 hok => ?_)
      obtain ⟨qv868, etv868, hsv868⟩ := qv868
      rw [etv868] at hok
      obtain rfl := Sum.inl.inj qv868
      refine q_goto (tgt := 239) dX5_excluding_213 (by decide) ?_
      exact q_vret dX5_excluding_239 rfl ⟨th, sv868, ⟨rfl, rfl, by omega⟩, hok, rfl⟩
  ·
    refine q_iload_n dX5_excluding_53 rfl ?_
    refine q_iconst (v := nI 4) dX5_excluding_54 rfl ?_
    refine q_icmp_eq (tgt := 63) dX5_excluding_55 (by decide) (fun c869 => ?_) (fun c869 => ?_)
    ·
      refine q_aload_n dX5_excluding_63 rfl ?_
      refine q_iload dX5_excluding_64 rfl ?_
      refine q_iconst (v := nI 1) dX5_excluding_66 rfl ?_
      refine q_iload dX5_excluding_67 rfl ?_
      refine q_iload dX5_excluding_69 rfl ?_
      refine q_ior dX5_excluding_71 ?_
      generalize (x840) ||| (a4) = z870
      refine q_iload dX5_excluding_72 rfl ?_
      refine q_iload dX5_excluding_74 rfl ?_
      refine q_iconst (v := -1) dX5_excluding_76 rfl ?_
      refine q_ixor dX5_excluding_77 ?_
      generalize (a4) ^^^ (-1) = z871
      refine q_iand dX5_excluding_78 ?_
      generalize (x842) &&& (z871) = z872
      refine t_callM (M' := mX5_become) [.int (nI ((8 * a1) + (a2))), .int (nI 1), .int (z870), .int (z872)] [] dX5_excluding_79 wPX5_94v wIX5_become wSX5_become iX5_become oX5_become rfl hok (sX5_become Sc Γ n o ml (th) (s) hB hml ((8 * a1) + (a2)) (by omega) (nI 1) (z870) (z872)) (Nat.le_of_ble_eq_true rfl) (Nat.le_of_ble_eq_true rfl) (Nat.le_of_ble_eq_true rfl) rfl (fun _ _ _ q => by obtain ⟨q, _⟩ := q; cases q) (fun v873 h thv873 sv873 qv873 hok => ?_)
      obtain ⟨qv873, etv873, esv873⟩ := qv873
      rw [etv873, esv873] at hok
      obtain rfl := Sum.inl.inj qv873
      refine q_aload_n dX5_excluding_82 rfl ?_
      refine q_iload dX5_excluding_83 rfl ?_
      refine q_iload dX5_excluding_85 rfl ?_
      refine q_aload_n dX5_excluding_87 rfl ?_
      refine q_iload_n dX5_excluding_88 rfl ?_
      refine t_callM (M' := mX5_grace) [.int (nI a1)] [.int (a4), .int (nI ((8 * a1) + (a2))), .ref o] dX5_excluding_89 wPX5_98v wIX5_grace wSX5_grace iX5_grace oX5_grace rfl hok (sX5_grace Sc Γ n o ml (th) (s) hB hml (a1) (by omega)) (Nat.le_of_ble_eq_true rfl) (Nat.le_of_ble_eq_true rfl) (Nat.le_of_ble_eq_true rfl) rfl (fun _ _ _ q => by obtain ⟨q, _⟩ := q; obtain ⟨_, q⟩ := q; cases q) (fun v874 h thv874 sv874 qv874 hok => ?_)
      obtain ⟨qv874, etv874, esv874⟩ := qv874
      rw [etv874, esv874] at hok
      obtain ⟨x875, qx875⟩ := qv874
      obtain rfl := Sum.inl.inj qx875
      refine t_callM (M' := mX5_setTimers) [.int (nI ((8 * a1) + (a2))), .int (a4), .int (x875)] [] dX5_excluding_92 wPX5_102v wIX5_setTimers wSX5_setTimers iX5_setTimers oX5_setTimers rfl hok (sX5_setTimers Sc Γ n o ml (th) (s) hB hml ((8 * a1) + (a2)) (by omega) (a4) (x875)) (Nat.le_of_ble_eq_true rfl) (Nat.le_of_ble_eq_true rfl) (Nat.le_of_ble_eq_true rfl) rfl (fun _ _ _ q => by obtain ⟨q, _⟩ := q; cases q) (fun v876 h thv876 sv876 qv876 hok => ?_)
      obtain ⟨qv876, etv876, esv876⟩ := qv876
      rw [etv876, esv876] at hok
      obtain rfl := Sum.inl.inj qv876
      refine q_goto (tgt := 189) dX5_excluding_95 (by decide) ?_
      refine q_iload_n dX5_excluding_189 rfl ?_
      refine q_iconst (v := nI 2) dX5_excluding_190 rfl ?_
      refine q_icmp_ne (tgt := 216) dX5_excluding_191 (by decide) (fun c877 => ?_) (fun c877 => ?_)
      ·
        refine q_iload_n dX5_excluding_216 rfl ?_
        refine q_iconst (v := nI 3) dX5_excluding_217 rfl ?_
        refine q_icmp_eq (tgt := 226) dX5_excluding_218 (by decide) (fun c878 => ?_) (fun c878 => ?_)
        ·
          refine q_aload_n dX5_excluding_226 rfl ?_
          refine q_iload_n dX5_excluding_227 rfl ?_
          refine q_iload_n dX5_excluding_228 rfl ?_
          refine q_iload dX5_excluding_229 rfl ?_
          refine q_iload dX5_excluding_231 rfl ?_
          refine q_iconst (v := -1) dX5_excluding_233 rfl ?_
          refine q_ixor dX5_excluding_234 ?_
          generalize (x842) ^^^ (-1) = z879
          refine q_iand dX5_excluding_235 ?_
          generalize (a4) &&& (z879) = z880
          refine t_callM (M' := mX5_ask) [.int (nI a1), .int (nI a2), .int (z880)] [] dX5_excluding_236 wPX5_105v wIX5_ask wSX5_ask iX5_ask oX5_ask rfl hok (sX5_ask Sc Γ n o ml (th) (s) hB hml (by omega) (a1) (by omega) (a2) (by omega) (z880)) (Nat.le_of_ble_eq_true rfl) (Nat.le_of_ble_eq_true rfl) (Nat.le_of_ble_eq_true rfl) rfl (fun _ _ _ q => by obtain ⟨q, _⟩ := q; cases q) (fun v881 h thv881 sv881 qv881 hok => ?_)
          obtain ⟨qv881, etv881, hsv881⟩ := qv881
          rw [etv881] at hok
          obtain rfl := Sum.inl.inj qv881
          exact q_vret dX5_excluding_239 rfl ⟨th, sv881, ⟨rfl, rfl, by omega⟩, hok, rfl⟩
        ·
          refine q_iload_n dX5_excluding_221 rfl ?_
          refine q_iconst (v := nI 5) dX5_excluding_222 rfl ?_
          refine q_icmp_ne (tgt := 239) dX5_excluding_223 (by decide) (fun c882 => ?_) (fun c882 => ?_)
          ·
            exact q_vret dX5_excluding_239 rfl ⟨th, s, ⟨rfl, rfl, by omega⟩, hok, rfl⟩
          ·
            refine q_aload_n dX5_excluding_226 rfl ?_
            refine q_iload_n dX5_excluding_227 rfl ?_
            refine q_iload_n dX5_excluding_228 rfl ?_
            refine q_iload dX5_excluding_229 rfl ?_
            refine q_iload dX5_excluding_231 rfl ?_
            refine q_iconst (v := -1) dX5_excluding_233 rfl ?_
            refine q_ixor dX5_excluding_234 ?_
            generalize (x842) ^^^ (-1) = z883
            refine q_iand dX5_excluding_235 ?_
            generalize (a4) &&& (z883) = z884
            refine t_callM (M' := mX5_ask) [.int (nI a1), .int (nI a2), .int (z884)] [] dX5_excluding_236 wPX5_105v wIX5_ask wSX5_ask iX5_ask oX5_ask rfl hok (sX5_ask Sc Γ n o ml (th) (s) hB hml (by omega) (a1) (by omega) (a2) (by omega) (z884)) (Nat.le_of_ble_eq_true rfl) (Nat.le_of_ble_eq_true rfl) (Nat.le_of_ble_eq_true rfl) rfl (fun _ _ _ q => by obtain ⟨q, _⟩ := q; cases q) (fun v885 h thv885 sv885 qv885 hok => ?_)
            obtain ⟨qv885, etv885, hsv885⟩ := qv885
            rw [etv885] at hok
            obtain rfl := Sum.inl.inj qv885
            exact q_vret dX5_excluding_239 rfl ⟨th, sv885, ⟨rfl, rfl, by omega⟩, hok, rfl⟩
      ·
        refine q_aload_n dX5_excluding_194 rfl ?_
        refine q_iload_n dX5_excluding_195 rfl ?_
        refine q_iload_n dX5_excluding_196 rfl ?_
        refine q_iload dX5_excluding_197 rfl ?_
        refine q_iload dX5_excluding_199 rfl ?_
        refine q_iconst (v := -1) dX5_excluding_201 rfl ?_
        refine q_ixor dX5_excluding_202 ?_
        generalize (a4) ^^^ (-1) = z886
        refine q_iand dX5_excluding_203 ?_
        generalize (x840) &&& (z886) = z887
        refine t_callM (M' := mX5_ask) [.int (nI a1), .int (nI a2), .int (z887)] [] dX5_excluding_204 wPX5_105v wIX5_ask wSX5_ask iX5_ask oX5_ask rfl hok (sX5_ask Sc Γ n o ml (th) (s) hB hml (by omega) (a1) (by omega) (a2) (by omega) (z887)) (Nat.le_of_ble_eq_true rfl) (Nat.le_of_ble_eq_true rfl) (Nat.le_of_ble_eq_true rfl) rfl (fun _ _ _ q => by obtain ⟨q, _⟩ := q; cases q) (fun v888 h thv888 sv888 qv888 hok => ?_)
        obtain ⟨qv888, etv888, hsv888⟩ := qv888
        rw [etv888] at hok
        obtain rfl := Sum.inl.inj qv888
        refine q_aload_n dX5_excluding_207 rfl ?_
        refine q_iload_n dX5_excluding_208 rfl ?_
        refine q_iload_n dX5_excluding_209 rfl ?_
        refine t_callM (M' := mX5_askGroup) [.int (nI a1), .int (nI a2)] [] dX5_excluding_210 wPX5_108v wIX5_askGroup wSX5_askGroup iX5_askGroup oX5_askGroup rfl hok (sX5_askGroup Sc Γ n o ml (th) (sv888) hB hml (by omega) (a1) (by omega) (a2) (by omega)) (Nat.le_of_ble_eq_true rfl) (Nat.le_of_ble_eq_true rfl) (Nat.le_of_ble_eq_true rfl) rfl (fun _ _ _ q => by obtain ⟨q, _⟩ := q; cases q) (fun v889 h thv889 sv889 qv889 hok => ?_)
        obtain ⟨qv889, etv889, hsv889⟩ := qv889
        rw [etv889] at hok
        obtain rfl := Sum.inl.inj qv889
        refine q_goto (tgt := 239) dX5_excluding_213 (by decide) ?_
        exact q_vret dX5_excluding_239 rfl ⟨th, sv889, ⟨rfl, rfl, by omega⟩, hok, rfl⟩
    ·
      refine q_iload_n dX5_excluding_58 rfl ?_
      refine q_iconst (v := nI 2) dX5_excluding_59 rfl ?_
      refine q_icmp_ne (tgt := 98) dX5_excluding_60 (by decide) (fun c890 => ?_) (fun c890 => ?_)
      ·
        refine q_iload_n dX5_excluding_98 rfl ?_
        refine q_iconst (v := nI 5) dX5_excluding_99 rfl ?_
        refine q_icmp_ne (tgt := 135) dX5_excluding_100 (by decide) (fun c891 => ?_) (fun c891 => ?_)
        ·
          refine q_aload_n dX5_excluding_135 rfl ?_
          refine q_iload dX5_excluding_136 rfl ?_
          refine q_iconst (v := nI 1) dX5_excluding_138 rfl ?_
          refine q_iload dX5_excluding_139 rfl ?_
          refine q_iload dX5_excluding_141 rfl ?_
          refine q_iconst (v := -1) dX5_excluding_143 rfl ?_
          refine q_ixor dX5_excluding_144 ?_
          generalize (x842) ^^^ (-1) = z892
          refine q_iand dX5_excluding_145 ?_
          generalize (a4) &&& (z892) = z893
          refine q_iload dX5_excluding_146 rfl ?_
          refine q_iload dX5_excluding_148 rfl ?_
          refine q_iand dX5_excluding_150 ?_
          generalize (x842) &&& (a4) = z894
          refine t_callM (M' := mX5_become) [.int (nI ((8 * a1) + (a2))), .int (nI 1), .int (z893), .int (z894)] [] dX5_excluding_151 wPX5_94v wIX5_become wSX5_become iX5_become oX5_become rfl hok (sX5_become Sc Γ n o ml (th) (s) hB hml ((8 * a1) + (a2)) (by omega) (nI 1) (z893) (z894)) (Nat.le_of_ble_eq_true rfl) (Nat.le_of_ble_eq_true rfl) (Nat.le_of_ble_eq_true rfl) rfl (fun _ _ _ q => by obtain ⟨q, _⟩ := q; cases q) (fun v895 h thv895 sv895 qv895 hok => ?_)
          obtain ⟨qv895, etv895, esv895⟩ := qv895
          rw [etv895, esv895] at hok
          obtain rfl := Sum.inl.inj qv895
          refine q_aload_n dX5_excluding_154 rfl ?_
          refine q_iload dX5_excluding_155 rfl ?_
          refine q_iload dX5_excluding_157 rfl ?_
          refine q_iload_n dX5_excluding_159 rfl ?_
          refine q_iconst (v := nI 1) dX5_excluding_160 rfl ?_
          refine q_icmp_ne (tgt := 172) dX5_excluding_161 (by decide) (fun c896 => ?_) (fun c896 => ?_)
          ·
            refine q_iload dX5_excluding_172 rfl ?_
            refine t_callM (M' := mX5_setTimers) [.int (nI ((8 * a1) + (a2))), .int (z846), .int (x847)] [] dX5_excluding_174 wPX5_102v wIX5_setTimers wSX5_setTimers iX5_setTimers oX5_setTimers rfl hok (sX5_setTimers Sc Γ n o ml (th) (s) hB hml ((8 * a1) + (a2)) (by omega) (z846) (x847)) (Nat.le_of_ble_eq_true rfl) (Nat.le_of_ble_eq_true rfl) (Nat.le_of_ble_eq_true rfl) rfl (fun _ _ _ q => by obtain ⟨q, _⟩ := q; cases q) (fun v897 h thv897 sv897 qv897 hok => ?_)
            obtain ⟨qv897, etv897, esv897⟩ := qv897
            rw [etv897, esv897] at hok
            obtain rfl := Sum.inl.inj qv897
            refine q_aload_n dX5_excluding_177 rfl ?_
            refine t_getr 9 kX5 (by decide) wPX5_31 dX5_excluding_178 hok mG_o rfl ?_
            refine q_iload dX5_excluding_181 rfl ?_
            refine q_aload_n dX5_excluding_183 rfl ?_
            refine q_iload_n dX5_excluding_184 rfl ?_
            refine t_callM (M' := mX5_grace) [.int (nI a1)] [.int (nI ((8 * a1) + (a2))), .ref ((o + 8))] dX5_excluding_185 wPX5_98v wIX5_grace wSX5_grace iX5_grace oX5_grace rfl hok (sX5_grace Sc Γ n o ml (th) (s) hB hml (a1) (by omega)) (Nat.le_of_ble_eq_true rfl) (Nat.le_of_ble_eq_true rfl) (Nat.le_of_ble_eq_true rfl) rfl (fun _ _ _ q => by obtain ⟨q, _⟩ := q; obtain ⟨_, q⟩ := q; cases q) (fun v898 h thv898 sv898 qv898 hok => ?_)
            obtain ⟨qv898, etv898, esv898⟩ := qv898
            rw [etv898, esv898] at hok
            obtain ⟨x899, qx899⟩ := qv898
            obtain rfl := Sum.inl.inj qx899
            refine t_iast dX5_excluding_188 hok (mG_a7 (ml := ml) (th := th) (s := s) hB) (by exact vp_in_nI (by omega) (by omega)) (fun h hok => ?_)
            refine q_iload_n dX5_excluding_189 rfl ?_
            refine q_iconst (v := nI 2) dX5_excluding_190 rfl ?_
            refine q_icmp_ne (tgt := 216) dX5_excluding_191 (by decide) (fun c900 => ?_) (fun c900 => ?_)
            rotate_left
            · exact absurd c900 c890
            refine q_iload_n dX5_excluding_216 rfl ?_
            refine q_iconst (v := nI 3) dX5_excluding_217 rfl ?_
            refine q_icmp_eq (tgt := 226) dX5_excluding_218 (by decide) (fun c901 => ?_) (fun c901 => ?_)
            ·
              refine q_aload_n dX5_excluding_226 rfl ?_
              refine q_iload_n dX5_excluding_227 rfl ?_
              refine q_iload_n dX5_excluding_228 rfl ?_
              refine q_iload dX5_excluding_229 rfl ?_
              refine q_iload dX5_excluding_231 rfl ?_
              refine q_iconst (v := -1) dX5_excluding_233 rfl ?_
              refine q_ixor dX5_excluding_234 ?_
              generalize (x842) ^^^ (-1) = z902
              refine q_iand dX5_excluding_235 ?_
              generalize (a4) &&& (z902) = z903
              refine t_callM (M' := mX5_ask) [.int (nI a1), .int (nI a2), .int (z903)] [] dX5_excluding_236 wPX5_105v wIX5_ask wSX5_ask iX5_ask oX5_ask rfl hok (sX5_ask Sc Γ n o ml (th) (s) hB hml (by omega) (a1) (by omega) (a2) (by omega) (z903)) (Nat.le_of_ble_eq_true rfl) (Nat.le_of_ble_eq_true rfl) (Nat.le_of_ble_eq_true rfl) rfl (fun _ _ _ q => by obtain ⟨q, _⟩ := q; cases q) (fun v904 h thv904 sv904 qv904 hok => ?_)
              obtain ⟨qv904, etv904, hsv904⟩ := qv904
              rw [etv904] at hok
              obtain rfl := Sum.inl.inj qv904
              exact q_vret dX5_excluding_239 rfl ⟨th, sv904, ⟨rfl, rfl, by omega⟩, hok, rfl⟩
            ·
              refine q_iload_n dX5_excluding_221 rfl ?_
              refine q_iconst (v := nI 5) dX5_excluding_222 rfl ?_
              refine q_icmp_ne (tgt := 239) dX5_excluding_223 (by decide) (fun c905 => ?_) (fun c905 => ?_)
              rotate_left
              · exact absurd c905 c891
              exact q_vret dX5_excluding_239 rfl ⟨th, s, ⟨rfl, rfl, by omega⟩, hok, rfl⟩
          ·
            refine q_aload_n dX5_excluding_164 rfl ?_
            refine q_iload_n dX5_excluding_165 rfl ?_
            refine t_callM (M' := mX5_grace) [.int (nI a1)] [.int (z846), .int (nI ((8 * a1) + (a2))), .ref o] dX5_excluding_166 wPX5_98v wIX5_grace wSX5_grace iX5_grace oX5_grace rfl hok (sX5_grace Sc Γ n o ml (th) (s) hB hml (a1) (by omega)) (Nat.le_of_ble_eq_true rfl) (Nat.le_of_ble_eq_true rfl) (Nat.le_of_ble_eq_true rfl) rfl (fun _ _ _ q => by obtain ⟨q, _⟩ := q; obtain ⟨_, q⟩ := q; cases q) (fun v906 h thv906 sv906 qv906 hok => ?_)
            obtain ⟨qv906, etv906, esv906⟩ := qv906
            rw [etv906, esv906] at hok
            obtain ⟨x907, qx907⟩ := qv906
            obtain rfl := Sum.inl.inj qx907
            refine q_goto (tgt := 174) dX5_excluding_169 (by decide) ?_
            refine t_callM (M' := mX5_setTimers) [.int (nI ((8 * a1) + (a2))), .int (z846), .int (x907)] [] dX5_excluding_174 wPX5_102v wIX5_setTimers wSX5_setTimers iX5_setTimers oX5_setTimers rfl hok (sX5_setTimers Sc Γ n o ml (th) (s) hB hml ((8 * a1) + (a2)) (by omega) (z846) (x907)) (Nat.le_of_ble_eq_true rfl) (Nat.le_of_ble_eq_true rfl) (Nat.le_of_ble_eq_true rfl) rfl (fun _ _ _ q => by obtain ⟨q, _⟩ := q; cases q) (fun v908 h thv908 sv908 qv908 hok => ?_)
            obtain ⟨qv908, etv908, esv908⟩ := qv908
            rw [etv908, esv908] at hok
            obtain rfl := Sum.inl.inj qv908
            refine q_aload_n dX5_excluding_177 rfl ?_
            refine t_getr 9 kX5 (by decide) wPX5_31 dX5_excluding_178 hok mG_o rfl ?_
            refine q_iload dX5_excluding_181 rfl ?_
            refine q_aload_n dX5_excluding_183 rfl ?_
            refine q_iload_n dX5_excluding_184 rfl ?_
            refine t_callM (M' := mX5_grace) [.int (nI a1)] [.int (nI ((8 * a1) + (a2))), .ref ((o + 8))] dX5_excluding_185 wPX5_98v wIX5_grace wSX5_grace iX5_grace oX5_grace rfl hok (sX5_grace Sc Γ n o ml (th) (s) hB hml (a1) (by omega)) (Nat.le_of_ble_eq_true rfl) (Nat.le_of_ble_eq_true rfl) (Nat.le_of_ble_eq_true rfl) rfl (fun _ _ _ q => by obtain ⟨q, _⟩ := q; obtain ⟨_, q⟩ := q; cases q) (fun v909 h thv909 sv909 qv909 hok => ?_)
            obtain ⟨qv909, etv909, esv909⟩ := qv909
            rw [etv909, esv909] at hok
            obtain ⟨x910, qx910⟩ := qv909
            obtain rfl := Sum.inl.inj qx910
            refine t_iast dX5_excluding_188 hok (mG_a7 (ml := ml) (th := th) (s := s) hB) (by exact vp_in_nI (by omega) (by omega)) (fun h hok => ?_)
            refine q_iload_n dX5_excluding_189 rfl ?_
            refine q_iconst (v := nI 2) dX5_excluding_190 rfl ?_
            refine q_icmp_ne (tgt := 216) dX5_excluding_191 (by decide) (fun c911 => ?_) (fun c911 => ?_)
            rotate_left
            · exact absurd c911 c890
            refine q_iload_n dX5_excluding_216 rfl ?_
            refine q_iconst (v := nI 3) dX5_excluding_217 rfl ?_
            refine q_icmp_eq (tgt := 226) dX5_excluding_218 (by decide) (fun c912 => ?_) (fun c912 => ?_)
            ·
              refine q_aload_n dX5_excluding_226 rfl ?_
              refine q_iload_n dX5_excluding_227 rfl ?_
              refine q_iload_n dX5_excluding_228 rfl ?_
              refine q_iload dX5_excluding_229 rfl ?_
              refine q_iload dX5_excluding_231 rfl ?_
              refine q_iconst (v := -1) dX5_excluding_233 rfl ?_
              refine q_ixor dX5_excluding_234 ?_
              generalize (x842) ^^^ (-1) = z913
              refine q_iand dX5_excluding_235 ?_
              generalize (a4) &&& (z913) = z914
              refine t_callM (M' := mX5_ask) [.int (nI a1), .int (nI a2), .int (z914)] [] dX5_excluding_236 wPX5_105v wIX5_ask wSX5_ask iX5_ask oX5_ask rfl hok (sX5_ask Sc Γ n o ml (th) (s) hB hml (by omega) (a1) (by omega) (a2) (by omega) (z914)) (Nat.le_of_ble_eq_true rfl) (Nat.le_of_ble_eq_true rfl) (Nat.le_of_ble_eq_true rfl) rfl (fun _ _ _ q => by obtain ⟨q, _⟩ := q; cases q) (fun v915 h thv915 sv915 qv915 hok => ?_)
              obtain ⟨qv915, etv915, hsv915⟩ := qv915
              rw [etv915] at hok
              obtain rfl := Sum.inl.inj qv915
              exact q_vret dX5_excluding_239 rfl ⟨th, sv915, ⟨rfl, rfl, by omega⟩, hok, rfl⟩
            ·
              refine q_iload_n dX5_excluding_221 rfl ?_
              refine q_iconst (v := nI 5) dX5_excluding_222 rfl ?_
              refine q_icmp_ne (tgt := 239) dX5_excluding_223 (by decide) (fun c916 => ?_) (fun c916 => ?_)
              rotate_left
              · exact absurd c916 c891
              exact q_vret dX5_excluding_239 rfl ⟨th, s, ⟨rfl, rfl, by omega⟩, hok, rfl⟩
        ·
          refine q_aload_n dX5_excluding_103 rfl ?_
          refine q_iload dX5_excluding_104 rfl ?_
          refine q_iconst (v := nI 1) dX5_excluding_106 rfl ?_
          refine q_iload dX5_excluding_107 rfl ?_
          refine q_iload dX5_excluding_109 rfl ?_
          refine q_iload dX5_excluding_111 rfl ?_
          refine q_iconst (v := -1) dX5_excluding_113 rfl ?_
          refine q_ixor dX5_excluding_114 ?_
          generalize (x842) ^^^ (-1) = z917
          refine q_iand dX5_excluding_115 ?_
          generalize (a4) &&& (z917) = z918
          refine q_ior dX5_excluding_116 ?_
          generalize (x840) ||| (z918) = z919
          refine q_iload dX5_excluding_117 rfl ?_
          refine t_callM (M' := mX5_become) [.int (nI ((8 * a1) + (a2))), .int (nI 1), .int (z919), .int (x842)] [] dX5_excluding_119 wPX5_94v wIX5_become wSX5_become iX5_become oX5_become rfl hok (sX5_become Sc Γ n o ml (th) (s) hB hml ((8 * a1) + (a2)) (by omega) (nI 1) (z919) (x842)) (Nat.le_of_ble_eq_true rfl) (Nat.le_of_ble_eq_true rfl) (Nat.le_of_ble_eq_true rfl) rfl (fun _ _ _ q => by obtain ⟨q, _⟩ := q; cases q) (fun v920 h thv920 sv920 qv920 hok => ?_)
          obtain ⟨qv920, etv920, esv920⟩ := qv920
          rw [etv920, esv920] at hok
          obtain rfl := Sum.inl.inj qv920
          refine q_aload_n dX5_excluding_122 rfl ?_
          refine q_iload dX5_excluding_123 rfl ?_
          refine q_iload dX5_excluding_125 rfl ?_
          refine q_iload dX5_excluding_127 rfl ?_
          refine t_callM (M' := mX5_setTimers) [.int (nI ((8 * a1) + (a2))), .int (z846), .int (x847)] [] dX5_excluding_129 wPX5_102v wIX5_setTimers wSX5_setTimers iX5_setTimers oX5_setTimers rfl hok (sX5_setTimers Sc Γ n o ml (th) (s) hB hml ((8 * a1) + (a2)) (by omega) (z846) (x847)) (Nat.le_of_ble_eq_true rfl) (Nat.le_of_ble_eq_true rfl) (Nat.le_of_ble_eq_true rfl) rfl (fun _ _ _ q => by obtain ⟨q, _⟩ := q; cases q) (fun v921 h thv921 sv921 qv921 hok => ?_)
          obtain ⟨qv921, etv921, esv921⟩ := qv921
          rw [etv921, esv921] at hok
          obtain rfl := Sum.inl.inj qv921
          refine q_goto (tgt := 189) dX5_excluding_132 (by decide) ?_
          refine q_iload_n dX5_excluding_189 rfl ?_
          refine q_iconst (v := nI 2) dX5_excluding_190 rfl ?_
          refine q_icmp_ne (tgt := 216) dX5_excluding_191 (by decide) (fun c922 => ?_) (fun c922 => ?_)
          rotate_left
          · exact absurd c922 c890
          refine q_iload_n dX5_excluding_216 rfl ?_
          refine q_iconst (v := nI 3) dX5_excluding_217 rfl ?_
          refine q_icmp_eq (tgt := 226) dX5_excluding_218 (by decide) (fun c923 => ?_) (fun c923 => ?_)
          ·
            refine q_aload_n dX5_excluding_226 rfl ?_
            refine q_iload_n dX5_excluding_227 rfl ?_
            refine q_iload_n dX5_excluding_228 rfl ?_
            refine q_iload dX5_excluding_229 rfl ?_
            refine q_iload dX5_excluding_231 rfl ?_
            refine q_iconst (v := -1) dX5_excluding_233 rfl ?_
            refine q_ixor dX5_excluding_234 ?_
            generalize (x842) ^^^ (-1) = z924
            refine q_iand dX5_excluding_235 ?_
            generalize (a4) &&& (z924) = z925
            refine t_callM (M' := mX5_ask) [.int (nI a1), .int (nI a2), .int (z925)] [] dX5_excluding_236 wPX5_105v wIX5_ask wSX5_ask iX5_ask oX5_ask rfl hok (sX5_ask Sc Γ n o ml (th) (s) hB hml (by omega) (a1) (by omega) (a2) (by omega) (z925)) (Nat.le_of_ble_eq_true rfl) (Nat.le_of_ble_eq_true rfl) (Nat.le_of_ble_eq_true rfl) rfl (fun _ _ _ q => by obtain ⟨q, _⟩ := q; cases q) (fun v926 h thv926 sv926 qv926 hok => ?_)
            obtain ⟨qv926, etv926, hsv926⟩ := qv926
            rw [etv926] at hok
            obtain rfl := Sum.inl.inj qv926
            exact q_vret dX5_excluding_239 rfl ⟨th, sv926, ⟨rfl, rfl, by omega⟩, hok, rfl⟩
          ·
            refine q_iload_n dX5_excluding_221 rfl ?_
            refine q_iconst (v := nI 5) dX5_excluding_222 rfl ?_
            refine q_icmp_ne (tgt := 239) dX5_excluding_223 (by decide) (fun c927 => ?_) (fun c927 => ?_)
            · exact absurd c891 c927
            refine q_aload_n dX5_excluding_226 rfl ?_
            refine q_iload_n dX5_excluding_227 rfl ?_
            refine q_iload_n dX5_excluding_228 rfl ?_
            refine q_iload dX5_excluding_229 rfl ?_
            refine q_iload dX5_excluding_231 rfl ?_
            refine q_iconst (v := -1) dX5_excluding_233 rfl ?_
            refine q_ixor dX5_excluding_234 ?_
            generalize (x842) ^^^ (-1) = z928
            refine q_iand dX5_excluding_235 ?_
            generalize (a4) &&& (z928) = z929
            refine t_callM (M' := mX5_ask) [.int (nI a1), .int (nI a2), .int (z929)] [] dX5_excluding_236 wPX5_105v wIX5_ask wSX5_ask iX5_ask oX5_ask rfl hok (sX5_ask Sc Γ n o ml (th) (s) hB hml (by omega) (a1) (by omega) (a2) (by omega) (z929)) (Nat.le_of_ble_eq_true rfl) (Nat.le_of_ble_eq_true rfl) (Nat.le_of_ble_eq_true rfl) rfl (fun _ _ _ q => by obtain ⟨q, _⟩ := q; cases q) (fun v930 h thv930 sv930 qv930 hok => ?_)
            obtain ⟨qv930, etv930, hsv930⟩ := qv930
            rw [etv930] at hok
            obtain rfl := Sum.inl.inj qv930
            exact q_vret dX5_excluding_239 rfl ⟨th, sv930, ⟨rfl, rfl, by omega⟩, hok, rfl⟩
      ·
        refine q_aload_n dX5_excluding_63 rfl ?_
        refine q_iload dX5_excluding_64 rfl ?_
        refine q_iconst (v := nI 1) dX5_excluding_66 rfl ?_
        refine q_iload dX5_excluding_67 rfl ?_
        refine q_iload dX5_excluding_69 rfl ?_
        refine q_ior dX5_excluding_71 ?_
        generalize (x840) ||| (a4) = z931
        refine q_iload dX5_excluding_72 rfl ?_
        refine q_iload dX5_excluding_74 rfl ?_
        refine q_iconst (v := -1) dX5_excluding_76 rfl ?_
        refine q_ixor dX5_excluding_77 ?_
        generalize (a4) ^^^ (-1) = z932
        refine q_iand dX5_excluding_78 ?_
        generalize (x842) &&& (z932) = z933
        refine t_callM (M' := mX5_become) [.int (nI ((8 * a1) + (a2))), .int (nI 1), .int (z931), .int (z933)] [] dX5_excluding_79 wPX5_94v wIX5_become wSX5_become iX5_become oX5_become rfl hok (sX5_become Sc Γ n o ml (th) (s) hB hml ((8 * a1) + (a2)) (by omega) (nI 1) (z931) (z933)) (Nat.le_of_ble_eq_true rfl) (Nat.le_of_ble_eq_true rfl) (Nat.le_of_ble_eq_true rfl) rfl (fun _ _ _ q => by obtain ⟨q, _⟩ := q; cases q) (fun v934 h thv934 sv934 qv934 hok => ?_)
        obtain ⟨qv934, etv934, esv934⟩ := qv934
        rw [etv934, esv934] at hok
        obtain rfl := Sum.inl.inj qv934
        refine q_aload_n dX5_excluding_82 rfl ?_
        refine q_iload dX5_excluding_83 rfl ?_
        refine q_iload dX5_excluding_85 rfl ?_
        refine q_aload_n dX5_excluding_87 rfl ?_
        refine q_iload_n dX5_excluding_88 rfl ?_
        refine t_callM (M' := mX5_grace) [.int (nI a1)] [.int (a4), .int (nI ((8 * a1) + (a2))), .ref o] dX5_excluding_89 wPX5_98v wIX5_grace wSX5_grace iX5_grace oX5_grace rfl hok (sX5_grace Sc Γ n o ml (th) (s) hB hml (a1) (by omega)) (Nat.le_of_ble_eq_true rfl) (Nat.le_of_ble_eq_true rfl) (Nat.le_of_ble_eq_true rfl) rfl (fun _ _ _ q => by obtain ⟨q, _⟩ := q; obtain ⟨_, q⟩ := q; cases q) (fun v935 h thv935 sv935 qv935 hok => ?_)
        obtain ⟨qv935, etv935, esv935⟩ := qv935
        rw [etv935, esv935] at hok
        obtain ⟨x936, qx936⟩ := qv935
        obtain rfl := Sum.inl.inj qx936
        refine t_callM (M' := mX5_setTimers) [.int (nI ((8 * a1) + (a2))), .int (a4), .int (x936)] [] dX5_excluding_92 wPX5_102v wIX5_setTimers wSX5_setTimers iX5_setTimers oX5_setTimers rfl hok (sX5_setTimers Sc Γ n o ml (th) (s) hB hml ((8 * a1) + (a2)) (by omega) (a4) (x936)) (Nat.le_of_ble_eq_true rfl) (Nat.le_of_ble_eq_true rfl) (Nat.le_of_ble_eq_true rfl) rfl (fun _ _ _ q => by obtain ⟨q, _⟩ := q; cases q) (fun v937 h thv937 sv937 qv937 hok => ?_)
        obtain ⟨qv937, etv937, esv937⟩ := qv937
        rw [etv937, esv937] at hok
        obtain rfl := Sum.inl.inj qv937
        refine q_goto (tgt := 189) dX5_excluding_95 (by decide) ?_
        refine q_iload_n dX5_excluding_189 rfl ?_
        refine q_iconst (v := nI 2) dX5_excluding_190 rfl ?_
        refine q_icmp_ne (tgt := 216) dX5_excluding_191 (by decide) (fun c938 => ?_) (fun c938 => ?_)
        · exact absurd c890 c938
        refine q_aload_n dX5_excluding_194 rfl ?_
        refine q_iload_n dX5_excluding_195 rfl ?_
        refine q_iload_n dX5_excluding_196 rfl ?_
        refine q_iload dX5_excluding_197 rfl ?_
        refine q_iload dX5_excluding_199 rfl ?_
        refine q_iconst (v := -1) dX5_excluding_201 rfl ?_
        refine q_ixor dX5_excluding_202 ?_
        generalize (a4) ^^^ (-1) = z939
        refine q_iand dX5_excluding_203 ?_
        generalize (x840) &&& (z939) = z940
        refine t_callM (M' := mX5_ask) [.int (nI a1), .int (nI a2), .int (z940)] [] dX5_excluding_204 wPX5_105v wIX5_ask wSX5_ask iX5_ask oX5_ask rfl hok (sX5_ask Sc Γ n o ml (th) (s) hB hml (by omega) (a1) (by omega) (a2) (by omega) (z940)) (Nat.le_of_ble_eq_true rfl) (Nat.le_of_ble_eq_true rfl) (Nat.le_of_ble_eq_true rfl) rfl (fun _ _ _ q => by obtain ⟨q, _⟩ := q; cases q) (fun v941 h thv941 sv941 qv941 hok => ?_)
        obtain ⟨qv941, etv941, hsv941⟩ := qv941
        rw [etv941] at hok
        obtain rfl := Sum.inl.inj qv941
        refine q_aload_n dX5_excluding_207 rfl ?_
        refine q_iload_n dX5_excluding_208 rfl ?_
        refine q_iload_n dX5_excluding_209 rfl ?_
        refine t_callM (M' := mX5_askGroup) [.int (nI a1), .int (nI a2)] [] dX5_excluding_210 wPX5_108v wIX5_askGroup wSX5_askGroup iX5_askGroup oX5_askGroup rfl hok (sX5_askGroup Sc Γ n o ml (th) (sv941) hB hml (by omega) (a1) (by omega) (a2) (by omega)) (Nat.le_of_ble_eq_true rfl) (Nat.le_of_ble_eq_true rfl) (Nat.le_of_ble_eq_true rfl) rfl (fun _ _ _ q => by obtain ⟨q, _⟩ := q; cases q) (fun v942 h thv942 sv942 qv942 hok => ?_)
        obtain ⟨qv942, etv942, hsv942⟩ := qv942
        rw [etv942] at hok
        obtain rfl := Sum.inl.inj qv942
        refine q_goto (tgt := 239) dX5_excluding_213 (by decide) ?_
        exact q_vret dX5_excluding_239 rfl ⟨th, sv942, ⟨rfl, rfl, by omega⟩, hok, rfl⟩
set_option maxRecDepth 20000 in
set_option maxHeartbeats 4000000 in
theorem sX5_reported (Sc : q_S) (Γ : Nat → q_K) (n o ml th s : Nat) (hB : mB Γ o) (hml : ml ≤ 4) (hs : s ≤ 1700000000) (a1 : Nat) (b1 : a1 < 4) (a2 : Nat) (b2 : a2 < 8) (a3 : Int32) (a4 : Int32) : q_mod Sc Γ o ml mX5_reported [.ref o, .int (nI a1), .int (nI a2), .int (a3), .int (a4)] n th s (fun O th' s' => q_RI O ∧ th' = th ∧ s' ≤ s + 2) := by
  intro h hok
  show q_A Sc mX5_reported 0 [.ref o, .int (nI a1), .int (nI a2), .int (a3), .int (a4), .retAddr 0] [] h n 0 0 (fun O h' n' => ∃ th' s', (fun O th' s' => q_RI O ∧ th' = th ∧ s' ≤ s + 2) O th' s' ∧ q_ok (mG Γ o ml th' s') h' ∧ n' = n)
  refine q_aload_n dX5_reported_0 rfl ?_
  refine t_getc 15 kX5 (by decide) wPX5_72 dX5_reported_1 hok mG_o rfl ?_
  refine t_istore [.ref o, .int (nI a1), .int (nI a2), .int (a3), .int (a4), .int (nI s)] (Or.inr ⟨rfl, dX5_reported_4⟩) (by decide) rfl ?_
  refine q_aload_n dX5_reported_6 rfl ?_
  refine t_getr 8 kX5 (by decide) wPX5_28 dX5_reported_7 hok mG_o rfl ?_
  refine q_bipush (v := nI 8) dX5_reported_10 rfl ?_
  refine q_iload_n dX5_reported_12 rfl ?_
  refine t_imul_n dX5_reported_13 ?_
  refine q_iload_n dX5_reported_14 rfl ?_
  refine t_iadd_n dX5_reported_15 ?_
  refine t_iald dX5_reported_16 hok (mG_a6 (ml := ml) (th := th) (s := s) hB) (by exact vp_in_nI (by omega) (by omega)) (fun x944 => ?_)
  refine q_iconst (v := nI 1) dX5_reported_17 rfl ?_
  refine q_icmp_ne (tgt := 33) dX5_reported_18 (by decide) (fun c945 => ?_) (fun c945 => ?_)
  ·
    refine q_aload_n dX5_reported_33 rfl ?_
    refine q_iload_n dX5_reported_34 rfl ?_
    refine q_iload_n dX5_reported_35 rfl ?_
    refine q_iload_n dX5_reported_36 rfl ?_
    refine q_iload dX5_reported_37 rfl ?_
    refine t_callM (M' := mX5_including) [.int (nI a1), .int (nI a2), .int (a3), .int (a4)] [] dX5_reported_39 wPX5_114v wIX5_including wSX5_including iX5_including oX5_including rfl hok (sX5_including Sc Γ n o ml (th) (s) hB hml (by omega) (a1) (by omega) (a2) (by omega) (a3) (a4)) (Nat.le_of_ble_eq_true rfl) (Nat.le_of_ble_eq_true rfl) (Nat.le_of_ble_eq_true rfl) rfl (fun _ _ _ q => by obtain ⟨q, _⟩ := q; cases q) (fun v946 h thv946 sv946 qv946 hok => ?_)
    obtain ⟨qv946, etv946, hsv946⟩ := qv946
    rw [etv946] at hok
    obtain rfl := Sum.inl.inj qv946
    refine q_aload_n dX5_reported_42 rfl ?_
    refine t_getc 15 kX5 (by decide) wPX5_72 dX5_reported_43 hok mG_o rfl ?_
    refine q_iload dX5_reported_46 rfl ?_
    refine q_isub dX5_reported_48 ?_
    generalize (nI sv946) - (nI s) = z947
    exact q_iret dX5_reported_49 rfl (rfl) ⟨th, sv946, ⟨⟨_, rfl⟩, rfl, by omega⟩, hok, rfl⟩
  ·
    refine q_aload_n dX5_reported_21 rfl ?_
    refine q_iload_n dX5_reported_22 rfl ?_
    refine q_iload_n dX5_reported_23 rfl ?_
    refine q_iload_n dX5_reported_24 rfl ?_
    refine q_iload dX5_reported_25 rfl ?_
    refine t_callM (M' := mX5_excluding) [.int (nI a1), .int (nI a2), .int (a3), .int (a4)] [] dX5_reported_27 wPX5_111v wIX5_excluding wSX5_excluding iX5_excluding oX5_excluding rfl hok (sX5_excluding Sc Γ n o ml (th) (s) hB hml (by omega) (a1) (by omega) (a2) (by omega) (a3) (a4)) (Nat.le_of_ble_eq_true rfl) (Nat.le_of_ble_eq_true rfl) (Nat.le_of_ble_eq_true rfl) rfl (fun _ _ _ q => by obtain ⟨q, _⟩ := q; cases q) (fun v948 h thv948 sv948 qv948 hok => ?_)
    obtain ⟨qv948, etv948, hsv948⟩ := qv948
    rw [etv948] at hok
    obtain rfl := Sum.inl.inj qv948
    refine q_goto (tgt := 42) dX5_reported_30 (by decide) ?_
    refine q_aload_n dX5_reported_42 rfl ?_
    refine t_getc 15 kX5 (by decide) wPX5_72 dX5_reported_43 hok mG_o rfl ?_
    refine q_iload dX5_reported_46 rfl ?_
    refine q_isub dX5_reported_48 ?_
    generalize (nI sv948) - (nI s) = z949
    exact q_iret dX5_reported_49 rfl (rfl) ⟨th, sv948, ⟨⟨_, rfl⟩, rfl, by omega⟩, hok, rfl⟩
