set_option maxRecDepth 20000 in
set_option maxHeartbeats 4000000 in
theorem sX5_ask (Sc : q_S) (Γ : Nat → q_K) (n o ml th s : Nat) (hB : mB Γ o) (hml : ml ≤ 4) (hs : s ≤ 1900000000) (a1 : Nat) (b1 : a1 < 4) (a2 : Nat) (b2 : a2 < 8) (a3 : Int32) : q_mod Sc Γ o ml mX5_ask [.ref o, .int (nI a1), .int (nI a2), .int (a3)] n th s (fun O th' s' => q_RV O ∧ th' = th ∧ s' ≤ s + 1) := by
  intro h hok
  show q_A Sc mX5_ask 0 [.ref o, .int (nI a1), .int (nI a2), .int (a3)] [] h n 0 0 (fun O h' n' => ∃ th' s', (fun O th' s' => q_RV O ∧ th' = th ∧ s' ≤ s + 1) O th' s' ∧ q_ok (mG Γ o ml th' s') h' ∧ n' = n)
  refine q_iload_n dX5_ask_0 rfl ?_
  refine q_if_eq (tgt := 31) dX5_ask_1 (by decide) (fun c929 => ?_) (fun c929 => ?_)
  ·
    exact q_vret dX5_ask_31 rfl ⟨th, s, ⟨rfl, rfl, by omega⟩, hok, rfl⟩
  ·
    refine q_aload_n dX5_ask_4 rfl ?_
    refine q_iload_n dX5_ask_5 rfl ?_
    refine t_callM (M' := mX5_asks) [.int (nI a1)] [] dX5_ask_6 wPX5_75v wIX5_asks wSX5_asks iX5_asks oX5_asks rfl hok (sX5_asks Sc Γ n o ml (th) (s) hB hml (a1) (by omega)) (Nat.le_of_ble_eq_true rfl) (Nat.le_of_ble_eq_true rfl) (Nat.le_of_ble_eq_true rfl) rfl (fun _ _ _ q => by obtain ⟨q, _⟩ := q; obtain ⟨_, q, _⟩ := q; cases q) (fun v931 h thv931 sv931 qv931 hok => ?_)
    obtain ⟨qv931, etv931, esv931⟩ := qv931
    rw [etv931, esv931] at hok
    obtain ⟨x932, qx932, bx932⟩ := qv931
    obtain rfl := Sum.inl.inj qx932
    refine q_if_eq (tgt := 31) dX5_ask_9 (by decide) (fun c933 => ?_) (fun c933 => ?_)
    ·
      exact q_vret dX5_ask_31 rfl ⟨th, s, ⟨rfl, rfl, by omega⟩, hok, rfl⟩
    ·
      refine q_aload_n dX5_ask_12 rfl ?_
      refine q_iload_n dX5_ask_13 rfl ?_
      refine q_iload_n dX5_ask_14 rfl ?_
      refine q_iload_n dX5_ask_15 rfl ?_
      refine t_callM (M' := mX5_send) [.int (nI a1), .int (nI a2), .int (a3)] [] dX5_ask_16 wPX5_79v wIX5_send wSX5_send iX5_send oX5_send rfl hok (sX5_send Sc Γ n o ml (th) (s) hB hml (by omega) (nI a1) (nI a2) (a3)) (Nat.le_of_ble_eq_true rfl) (Nat.le_of_ble_eq_true rfl) (Nat.le_of_ble_eq_true rfl) rfl (fun _ _ _ q => by obtain ⟨q, _⟩ := q; cases q) (fun v934 h thv934 sv934 qv934 hok => ?_)
      obtain ⟨qv934, etv934, hsv934⟩ := qv934
      rw [etv934] at hok
      obtain rfl := Sum.inl.inj qv934
      refine q_aload_n dX5_ask_19 rfl ?_
      refine q_iload_n dX5_ask_20 rfl ?_
      refine q_bipush (v := nI 8) dX5_ask_21 rfl ?_
      refine q_iload_n dX5_ask_23 rfl ?_
      refine t_imul_n dX5_ask_24 ?_
      refine q_iload_n dX5_ask_25 rfl ?_
      refine t_iadd_n dX5_ask_26 ?_
      refine q_iload_n dX5_ask_27 rfl ?_
      refine t_callM (M' := mX5_lower) [.int (nI a1), .int (nI ((8 * a1) + (a2))), .int (a3)] [] dX5_ask_28 wPX5_83v wIX5_lower wSX5_lower iX5_lower oX5_lower rfl hok (sX5_lower Sc Γ n o ml (th) (sv934) hB hml (a1) (by omega) ((8 * a1) + (a2)) (by omega) (a3)) (Nat.le_of_ble_eq_true rfl) (Nat.le_of_ble_eq_true rfl) (Nat.le_of_ble_eq_true rfl) rfl (fun _ _ _ q => by obtain ⟨q, _⟩ := q; cases q) (fun v935 h thv935 sv935 qv935 hok => ?_)
      obtain ⟨qv935, etv935, esv935⟩ := qv935
      rw [etv935, esv935] at hok
      obtain rfl := Sum.inl.inj qv935
      exact q_vret dX5_ask_31 rfl ⟨th, sv934, ⟨rfl, rfl, by omega⟩, hok, rfl⟩
set_option maxRecDepth 20000 in
set_option maxHeartbeats 4000000 in
theorem sX5_askGroup (Sc : q_S) (Γ : Nat → q_K) (n o ml th s : Nat) (hB : mB Γ o) (hml : ml ≤ 4) (hs : s ≤ 1900000000) (a1 : Nat) (b1 : a1 < 4) (a2 : Nat) (b2 : a2 < 8) : q_mod Sc Γ o ml mX5_askGroup [.ref o, .int (nI a1), .int (nI a2)] n th s (fun O th' s' => q_RV O ∧ th' = th ∧ s' ≤ s + 1) := by
  intro h hok
  show q_A Sc mX5_askGroup 0 [.ref o, .int (nI a1), .int (nI a2)] [] h n 0 0 (fun O h' n' => ∃ th' s', (fun O th' s' => q_RV O ∧ th' = th ∧ s' ≤ s + 1) O th' s' ∧ q_ok (mG Γ o ml th' s') h' ∧ n' = n)
  refine q_aload_n dX5_askGroup_0 rfl ?_
  refine q_iload_n dX5_askGroup_1 rfl ?_
  refine t_callM (M' := mX5_asks) [.int (nI a1)] [] dX5_askGroup_2 wPX5_75v wIX5_asks wSX5_asks iX5_asks oX5_asks rfl hok (sX5_asks Sc Γ n o ml (th) (s) hB hml (a1) (by omega)) (Nat.le_of_ble_eq_true rfl) (Nat.le_of_ble_eq_true rfl) (Nat.le_of_ble_eq_true rfl) rfl (fun _ _ _ q => by obtain ⟨q, _⟩ := q; obtain ⟨_, q, _⟩ := q; cases q) (fun v937 h thv937 sv937 qv937 hok => ?_)
  obtain ⟨qv937, etv937, esv937⟩ := qv937
  rw [etv937, esv937] at hok
  obtain ⟨x938, qx938, bx938⟩ := qv937
  obtain rfl := Sum.inl.inj qx938
  refine q_if_eq (tgt := 26) dX5_askGroup_5 (by decide) (fun c939 => ?_) (fun c939 => ?_)
  ·
    exact q_vret dX5_askGroup_26 rfl ⟨th, s, ⟨rfl, rfl, by omega⟩, hok, rfl⟩
  ·
    refine q_aload_n dX5_askGroup_8 rfl ?_
    refine q_iload_n dX5_askGroup_9 rfl ?_
    refine q_iload_n dX5_askGroup_10 rfl ?_
    refine q_iconst (v := nI 0) dX5_askGroup_11 rfl ?_
    refine t_callM (M' := mX5_send) [.int (nI a1), .int (nI a2), .int (nI 0)] [] dX5_askGroup_12 wPX5_79v wIX5_send wSX5_send iX5_send oX5_send rfl hok (sX5_send Sc Γ n o ml (th) (s) hB hml (by omega) (nI a1) (nI a2) (nI 0)) (Nat.le_of_ble_eq_true rfl) (Nat.le_of_ble_eq_true rfl) (Nat.le_of_ble_eq_true rfl) rfl (fun _ _ _ q => by obtain ⟨q, _⟩ := q; cases q) (fun v940 h thv940 sv940 qv940 hok => ?_)
    obtain ⟨qv940, etv940, hsv940⟩ := qv940
    rw [etv940] at hok
    obtain rfl := Sum.inl.inj qv940
    refine q_aload_n dX5_askGroup_15 rfl ?_
    refine q_iload_n dX5_askGroup_16 rfl ?_
    refine q_bipush (v := nI 8) dX5_askGroup_17 rfl ?_
    refine q_iload_n dX5_askGroup_19 rfl ?_
    refine t_imul_n dX5_askGroup_20 ?_
    refine q_iload_n dX5_askGroup_21 rfl ?_
    refine t_iadd_n dX5_askGroup_22 ?_
    refine t_callM (M' := mX5_lowerGroup) [.int (nI a1), .int (nI ((8 * a1) + (a2)))] [] dX5_askGroup_23 wPX5_86v wIX5_lowerGroup wSX5_lowerGroup iX5_lowerGroup oX5_lowerGroup rfl hok (sX5_lowerGroup Sc Γ n o ml (th) (sv940) hB hml (a1) (by omega) ((8 * a1) + (a2)) (by omega)) (Nat.le_of_ble_eq_true rfl) (Nat.le_of_ble_eq_true rfl) (Nat.le_of_ble_eq_true rfl) rfl (fun _ _ _ q => by obtain ⟨q, _⟩ := q; cases q) (fun v941 h thv941 sv941 qv941 hok => ?_)
    obtain ⟨qv941, etv941, esv941⟩ := qv941
    rw [etv941, esv941] at hok
    obtain rfl := Sum.inl.inj qv941
    exact q_vret dX5_askGroup_26 rfl ⟨th, sv940, ⟨rfl, rfl, by omega⟩, hok, rfl⟩
set_option maxRecDepth 20000 in
set_option maxHeartbeats 4000000 in
theorem sX5_including (Sc : q_S) (Γ : Nat → q_K) (n o ml th s : Nat) (hB : mB Γ o) (hml : ml ≤ 4) (hs : s ≤ 1800000000) (a1 : Nat) (b1 : a1 < 4) (a2 : Nat) (b2 : a2 < 8) (a3 : Int32) (a4 : Int32) : q_mod Sc Γ o ml mX5_including [.ref o, .int (nI a1), .int (nI a2), .int (a3), .int (a4)] n th s (fun O th' s' => q_RV O ∧ th' = th ∧ s' ≤ s + 1) := by
  intro h hok
  show q_A Sc mX5_including 0 [.ref o, .int (nI a1), .int (nI a2), .int (a3), .int (a4), .retAddr 0, .retAddr 0] [] h n 0 0 (fun O h' n' => ∃ th' s', (fun O th' s' => q_RV O ∧ th' = th ∧ s' ≤ s + 1) O th' s' ∧ q_ok (mG Γ o ml th' s') h' ∧ n' = n)
  refine q_bipush (v := nI 8) dX5_including_0 rfl ?_
  refine q_iload_n dX5_including_2 rfl ?_
  refine t_imul_n dX5_including_3 ?_
  refine q_iload_n dX5_including_4 rfl ?_
  refine t_iadd_n dX5_including_5 ?_
  refine t_istore [.ref o, .int (nI a1), .int (nI a2), .int (a3), .int (a4), .int (nI ((8 * a1) + (a2))), .retAddr 0] (Or.inr ⟨rfl, dX5_including_6⟩) (by decide) rfl ?_
  refine q_aload_n dX5_including_8 rfl ?_
  refine q_iload dX5_including_9 rfl ?_
  refine q_iconst (v := nI 1) dX5_including_11 rfl ?_
  refine t_callM (M' := mX5_setOf) [.int (nI ((8 * a1) + (a2))), .int (nI 1)] [] dX5_including_12 wPX5_90v wIX5_setOf wSX5_setOf iX5_setOf oX5_setOf rfl hok (sX5_setOf Sc Γ n o ml (th) (s) hB hml ((8 * a1) + (a2)) (by omega) (nI 1)) (Nat.le_of_ble_eq_true rfl) (Nat.le_of_ble_eq_true rfl) (Nat.le_of_ble_eq_true rfl) rfl (fun _ _ _ q => by obtain ⟨q, _⟩ := q; obtain ⟨_, q⟩ := q; cases q) (fun v943 h thv943 sv943 qv943 hok => ?_)
  obtain ⟨qv943, etv943, esv943⟩ := qv943
  rw [etv943, esv943] at hok
  obtain ⟨x944, qx944⟩ := qv943
  obtain rfl := Sum.inl.inj qx944
  refine t_istore [.ref o, .int (nI a1), .int (nI a2), .int (a3), .int (a4), .int (nI ((8 * a1) + (a2))), .int (x944)] (Or.inr ⟨rfl, dX5_including_15⟩) (by decide) rfl ?_
  refine q_iload_n dX5_including_17 rfl ?_
  refine q_if_eq (tgt := 31) dX5_including_18 (by decide) (fun c945 => ?_) (fun c945 => ?_)
  ·
    refine q_aload_n dX5_including_31 rfl ?_
    refine q_iload dX5_including_32 rfl ?_
    refine q_iconst (v := nI 0) dX5_including_34 rfl ?_
    refine q_iload dX5_including_35 rfl ?_
    refine q_iload dX5_including_37 rfl ?_
    refine q_ior dX5_including_39 ?_
    generalize (x944) ||| (a4) = z946
    refine q_iconst (v := nI 0) dX5_including_40 rfl ?_
    refine t_callM (M' := mX5_become) [.int (nI ((8 * a1) + (a2))), .int (nI 0), .int (z946), .int (nI 0)] [] dX5_including_41 wPX5_94v wIX5_become wSX5_become iX5_become oX5_become rfl hok (sX5_become Sc Γ n o ml (th) (s) hB hml ((8 * a1) + (a2)) (by omega) (nI 0) (z946) (nI 0)) (Nat.le_of_ble_eq_true rfl) (Nat.le_of_ble_eq_true rfl) (Nat.le_of_ble_eq_true rfl) rfl (fun _ _ _ q => by obtain ⟨q, _⟩ := q; cases q) (fun v947 h thv947 sv947 qv947 hok => ?_)
    obtain ⟨qv947, etv947, esv947⟩ := qv947
    rw [etv947, esv947] at hok
    obtain rfl := Sum.inl.inj qv947
    refine q_aload_n dX5_including_44 rfl ?_
    refine q_iload dX5_including_45 rfl ?_
    refine q_iload dX5_including_47 rfl ?_
    refine q_aload_n dX5_including_49 rfl ?_
    refine q_iload_n dX5_including_50 rfl ?_
    refine t_callM (M' := mX5_grace) [.int (nI a1)] [.int (a4), .int (nI ((8 * a1) + (a2))), .ref o] dX5_including_51 wPX5_98v wIX5_grace wSX5_grace iX5_grace oX5_grace rfl hok (sX5_grace Sc Γ n o ml (th) (s) hB hml (a1) (by omega)) (Nat.le_of_ble_eq_true rfl) (Nat.le_of_ble_eq_true rfl) (Nat.le_of_ble_eq_true rfl) rfl (fun _ _ _ q => by obtain ⟨q, _⟩ := q; obtain ⟨_, q⟩ := q; cases q) (fun v948 h thv948 sv948 qv948 hok => ?_)
    obtain ⟨qv948, etv948, esv948⟩ := qv948
    rw [etv948, esv948] at hok
    obtain ⟨x949, qx949⟩ := qv948
    obtain rfl := Sum.inl.inj qx949
    refine t_callM (M' := mX5_setTimers) [.int (nI ((8 * a1) + (a2))), .int (a4), .int (x949)] [] dX5_including_54 wPX5_102v wIX5_setTimers wSX5_setTimers iX5_setTimers oX5_setTimers rfl hok (sX5_setTimers Sc Γ n o ml (th) (s) hB hml ((8 * a1) + (a2)) (by omega) (a4) (x949)) (Nat.le_of_ble_eq_true rfl) (Nat.le_of_ble_eq_true rfl) (Nat.le_of_ble_eq_true rfl) rfl (fun _ _ _ q => by obtain ⟨q, _⟩ := q; cases q) (fun v950 h thv950 sv950 qv950 hok => ?_)
    obtain ⟨qv950, etv950, esv950⟩ := qv950
    rw [etv950, esv950] at hok
    obtain rfl := Sum.inl.inj qv950
    refine q_goto (tgt := 101) dX5_including_57 (by decide) ?_
    refine q_iload_n dX5_including_101 rfl ?_
    refine q_iconst (v := nI 2) dX5_including_102 rfl ?_
    refine q_icmp_ne (tgt := 122) dX5_including_103 (by decide) (fun c951 => ?_) (fun c951 => ?_)
    ·
      refine q_iload_n dX5_including_122 rfl ?_
      refine q_iconst (v := nI 3) dX5_including_123 rfl ?_
      refine q_icmp_eq (tgt := 132) dX5_including_124 (by decide) (fun c952 => ?_) (fun c952 => ?_)
      ·
        refine q_aload_n dX5_including_132 rfl ?_
        refine q_iload_n dX5_including_133 rfl ?_
        refine q_iload_n dX5_including_134 rfl ?_
        refine q_iload dX5_including_135 rfl ?_
        refine q_iload dX5_including_137 rfl ?_
        refine q_iand dX5_including_139 ?_
        generalize (x944) &&& (a4) = z953
        refine t_callM (M' := mX5_ask) [.int (nI a1), .int (nI a2), .int (z953)] [] dX5_including_140 wPX5_105v wIX5_ask wSX5_ask iX5_ask oX5_ask rfl hok (sX5_ask Sc Γ n o ml (th) (s) hB hml (by omega) (a1) (by omega) (a2) (by omega) (z953)) (Nat.le_of_ble_eq_true rfl) (Nat.le_of_ble_eq_true rfl) (Nat.le_of_ble_eq_true rfl) rfl (fun _ _ _ q => by obtain ⟨q, _⟩ := q; cases q) (fun v954 h thv954 sv954 qv954 hok => ?_)
        obtain ⟨qv954, etv954, hsv954⟩ := qv954
        rw [etv954] at hok
        obtain rfl := Sum.inl.inj qv954
        exact q_vret dX5_including_143 rfl ⟨th, sv954, ⟨rfl, rfl, by omega⟩, hok, rfl⟩
      ·
        refine q_iload_n dX5_including_127 rfl ?_
        refine q_iconst (v := nI 5) dX5_including_128 rfl ?_
        refine q_icmp_ne (tgt := 143) dX5_including_129 (by decide) (fun c955 => ?_) (fun c955 => ?_)
        ·
          exact q_vret dX5_including_143 rfl ⟨th, s, ⟨rfl, rfl, by omega⟩, hok, rfl⟩
        ·
          refine q_aload_n dX5_including_132 rfl ?_
          refine q_iload_n dX5_including_133 rfl ?_
          refine q_iload_n dX5_including_134 rfl ?_
          refine q_iload dX5_including_135 rfl ?_
          refine q_iload dX5_including_137 rfl ?_
          refine q_iand dX5_including_139 ?_
          generalize (x944) &&& (a4) = z956
          refine t_callM (M' := mX5_ask) [.int (nI a1), .int (nI a2), .int (z956)] [] dX5_including_140 wPX5_105v wIX5_ask wSX5_ask iX5_ask oX5_ask rfl hok (sX5_ask Sc Γ n o ml (th) (s) hB hml (by omega) (a1) (by omega) (a2) (by omega) (z956)) (Nat.le_of_ble_eq_true rfl) (Nat.le_of_ble_eq_true rfl) (Nat.le_of_ble_eq_true rfl) rfl (fun _ _ _ q => by obtain ⟨q, _⟩ := q; cases q) (fun v957 h thv957 sv957 qv957 hok => ?_)
          obtain ⟨qv957, etv957, hsv957⟩ := qv957
          rw [etv957] at hok
          obtain rfl := Sum.inl.inj qv957
          exact q_vret dX5_including_143 rfl ⟨th, sv957, ⟨rfl, rfl, by omega⟩, hok, rfl⟩
    ·
      refine q_aload_n dX5_including_106 rfl ?_
      refine q_iload_n dX5_including_107 rfl ?_
      refine q_iload_n dX5_including_108 rfl ?_
      refine q_iload dX5_including_109 rfl ?_
      refine q_iload dX5_including_111 rfl ?_
      refine q_iconst (v := -1) dX5_including_113 rfl ?_
      refine q_ixor dX5_including_114 ?_
      generalize (a4) ^^^ (-1) = z958
      refine q_iand dX5_including_115 ?_
      generalize (x944) &&& (z958) = z959
      refine t_callM (M' := mX5_ask) [.int (nI a1), .int (nI a2), .int (z959)] [] dX5_including_116 wPX5_105v wIX5_ask wSX5_ask iX5_ask oX5_ask rfl hok (sX5_ask Sc Γ n o ml (th) (s) hB hml (by omega) (a1) (by omega) (a2) (by omega) (z959)) (Nat.le_of_ble_eq_true rfl) (Nat.le_of_ble_eq_true rfl) (Nat.le_of_ble_eq_true rfl) rfl (fun _ _ _ q => by obtain ⟨q, _⟩ := q; cases q) (fun v960 h thv960 sv960 qv960 hok => ?_)
      obtain ⟨qv960, etv960, hsv960⟩ := qv960
      rw [etv960] at hok
      obtain rfl := Sum.inl.inj qv960
      refine q_goto (tgt := 143) dX5_including_119 (by decide) ?_
      exact q_vret dX5_including_143 rfl ⟨th, sv960, ⟨rfl, rfl, by omega⟩, hok, rfl⟩
  ·
    refine q_iload_n dX5_including_21 rfl ?_
    refine q_iconst (v := nI 4) dX5_including_22 rfl ?_
    refine q_icmp_eq (tgt := 31) dX5_including_23 (by decide) (fun c961 => ?_) (fun c961 => ?_)
    ·
      refine q_aload_n dX5_including_31 rfl ?_
      refine q_iload dX5_including_32 rfl ?_
      refine q_iconst (v := nI 0) dX5_including_34 rfl ?_
      refine q_iload dX5_including_35 rfl ?_
      refine q_iload dX5_including_37 rfl ?_
      refine q_ior dX5_including_39 ?_
      generalize (x944) ||| (a4) = z962
      refine q_iconst (v := nI 0) dX5_including_40 rfl ?_
      refine t_callM (M' := mX5_become) [.int (nI ((8 * a1) + (a2))), .int (nI 0), .int (z962), .int (nI 0)] [] dX5_including_41 wPX5_94v wIX5_become wSX5_become iX5_become oX5_become rfl hok (sX5_become Sc Γ n o ml (th) (s) hB hml ((8 * a1) + (a2)) (by omega) (nI 0) (z962) (nI 0)) (Nat.le_of_ble_eq_true rfl) (Nat.le_of_ble_eq_true rfl) (Nat.le_of_ble_eq_true rfl) rfl (fun _ _ _ q => by obtain ⟨q, _⟩ := q; cases q) (fun v963 h thv963 sv963 qv963 hok => ?_)
      obtain ⟨qv963, etv963, esv963⟩ := qv963
      rw [etv963, esv963] at hok
      obtain rfl := Sum.inl.inj qv963
      refine q_aload_n dX5_including_44 rfl ?_
      refine q_iload dX5_including_45 rfl ?_
      refine q_iload dX5_including_47 rfl ?_
      refine q_aload_n dX5_including_49 rfl ?_
      refine q_iload_n dX5_including_50 rfl ?_
      refine t_callM (M' := mX5_grace) [.int (nI a1)] [.int (a4), .int (nI ((8 * a1) + (a2))), .ref o] dX5_including_51 wPX5_98v wIX5_grace wSX5_grace iX5_grace oX5_grace rfl hok (sX5_grace Sc Γ n o ml (th) (s) hB hml (a1) (by omega)) (Nat.le_of_ble_eq_true rfl) (Nat.le_of_ble_eq_true rfl) (Nat.le_of_ble_eq_true rfl) rfl (fun _ _ _ q => by obtain ⟨q, _⟩ := q; obtain ⟨_, q⟩ := q; cases q) (fun v964 h thv964 sv964 qv964 hok => ?_)
      obtain ⟨qv964, etv964, esv964⟩ := qv964
      rw [etv964, esv964] at hok
      obtain ⟨x965, qx965⟩ := qv964
      obtain rfl := Sum.inl.inj qx965
      refine t_callM (M' := mX5_setTimers) [.int (nI ((8 * a1) + (a2))), .int (a4), .int (x965)] [] dX5_including_54 wPX5_102v wIX5_setTimers wSX5_setTimers iX5_setTimers oX5_setTimers rfl hok (sX5_setTimers Sc Γ n o ml (th) (s) hB hml ((8 * a1) + (a2)) (by omega) (a4) (x965)) (Nat.le_of_ble_eq_true rfl) (Nat.le_of_ble_eq_true rfl) (Nat.le_of_ble_eq_true rfl) rfl (fun _ _ _ q => by obtain ⟨q, _⟩ := q; cases q) (fun v966 h thv966 sv966 qv966 hok => ?_)
      obtain ⟨qv966, etv966, esv966⟩ := qv966
      rw [etv966, esv966] at hok
      obtain rfl := Sum.inl.inj qv966
      refine q_goto (tgt := 101) dX5_including_57 (by decide) ?_
      refine q_iload_n dX5_including_101 rfl ?_
      refine q_iconst (v := nI 2) dX5_including_102 rfl ?_
      refine q_icmp_ne (tgt := 122) dX5_including_103 (by decide) (fun c967 => ?_) (fun c967 => ?_)
      ·
        refine q_iload_n dX5_including_122 rfl ?_
        refine q_iconst (v := nI 3) dX5_including_123 rfl ?_
        refine q_icmp_eq (tgt := 132) dX5_including_124 (by decide) (fun c968 => ?_) (fun c968 => ?_)
        ·
          refine q_aload_n dX5_including_132 rfl ?_
          refine q_iload_n dX5_including_133 rfl ?_
          refine q_iload_n dX5_including_134 rfl ?_
          refine q_iload dX5_including_135 rfl ?_
          refine q_iload dX5_including_137 rfl ?_
          refine q_iand dX5_including_139 ?_
          generalize (x944) &&& (a4) = z969
          refine t_callM (M' := mX5_ask) [.int (nI a1), .int (nI a2), .int (z969)] [] dX5_including_140 wPX5_105v wIX5_ask wSX5_ask iX5_ask oX5_ask rfl hok (sX5_ask Sc Γ n o ml (th) (s) hB hml (by omega) (a1) (by omega) (a2) (by omega) (z969)) (Nat.le_of_ble_eq_true rfl) (Nat.le_of_ble_eq_true rfl) (Nat.le_of_ble_eq_true rfl) rfl (fun _ _ _ q => by obtain ⟨q, _⟩ := q; cases q) (fun v970 h thv970 sv970 qv970 hok => ?_)
          obtain ⟨qv970, etv970, hsv970⟩ := qv970
          rw [etv970] at hok
          obtain rfl := Sum.inl.inj qv970
          exact q_vret dX5_including_143 rfl ⟨th, sv970, ⟨rfl, rfl, by omega⟩, hok, rfl⟩
        ·
          refine q_iload_n dX5_including_127 rfl ?_
          refine q_iconst (v := nI 5) dX5_including_128 rfl ?_
          refine q_icmp_ne (tgt := 143) dX5_including_129 (by decide) (fun c971 => ?_) (fun c971 => ?_)
          ·
            exact q_vret dX5_including_143 rfl ⟨th, s, ⟨rfl, rfl, by omega⟩, hok, rfl⟩
          ·
            refine q_aload_n dX5_including_132 rfl ?_
            refine q_iload_n dX5_including_133 rfl ?_
            refine q_iload_n dX5_including_134 rfl ?_
            refine q_iload dX5_including_135 rfl ?_
            refine q_iload dX5_including_137 rfl ?_
            refine q_iand dX5_including_139 ?_
            generalize (x944) &&& (a4) = z972
            refine t_callM (M' := mX5_ask) [.int (nI a1), .int (nI a2), .int (z972)] [] dX5_including_140 wPX5_105v wIX5_ask wSX5_ask iX5_ask oX5_ask rfl hok (sX5_ask Sc Γ n o ml (th) (s) hB hml (by omega) (a1) (by omega) (a2) (by omega) (z972)) (Nat.le_of_ble_eq_true rfl) (Nat.le_of_ble_eq_true rfl) (Nat.le_of_ble_eq_true rfl) rfl (fun _ _ _ q => by obtain ⟨q, _⟩ := q; cases q) (fun v973 h thv973 sv973 qv973 hok => ?_)
            obtain ⟨qv973, etv973, hsv973⟩ := qv973
            rw [etv973] at hok
            obtain rfl := Sum.inl.inj qv973
            exact q_vret dX5_including_143 rfl ⟨th, sv973, ⟨rfl, rfl, by omega⟩, hok, rfl⟩
      ·
        refine q_aload_n dX5_including_106 rfl ?_
        refine q_iload_n dX5_including_107 rfl ?_
        refine q_iload_n dX5_including_108 rfl ?_
        refine q_iload dX5_including_109 rfl ?_
        refine q_iload dX5_including_111 rfl ?_
        refine q_iconst (v := -1) dX5_including_113 rfl ?_
        refine q_ixor dX5_including_114 ?_
        generalize (a4) ^^^ (-1) = z974
        refine q_iand dX5_including_115 ?_
        generalize (x944) &&& (z974) = z975
        refine t_callM (M' := mX5_ask) [.int (nI a1), .int (nI a2), .int (z975)] [] dX5_including_116 wPX5_105v wIX5_ask wSX5_ask iX5_ask oX5_ask rfl hok (sX5_ask Sc Γ n o ml (th) (s) hB hml (by omega) (a1) (by omega) (a2) (by omega) (z975)) (Nat.le_of_ble_eq_true rfl) (Nat.le_of_ble_eq_true rfl) (Nat.le_of_ble_eq_true rfl) rfl (fun _ _ _ q => by obtain ⟨q, _⟩ := q; cases q) (fun v976 h thv976 sv976 qv976 hok => ?_)
        obtain ⟨qv976, etv976, hsv976⟩ := qv976
        rw [etv976] at hok
        obtain rfl := Sum.inl.inj qv976
        refine q_goto (tgt := 143) dX5_including_119 (by decide) ?_
        exact q_vret dX5_including_143 rfl ⟨th, sv976, ⟨rfl, rfl, by omega⟩, hok, rfl⟩
    ·
      refine q_iload_n dX5_including_26 rfl ?_
      refine q_iconst (v := nI 2) dX5_including_27 rfl ?_
      refine q_icmp_ne (tgt := 60) dX5_including_28 (by decide) (fun c977 => ?_) (fun c977 => ?_)
      ·
        refine q_iload_n dX5_including_60 rfl ?_
        refine q_iconst (v := nI 1) dX5_including_61 rfl ?_
        refine q_icmp_eq (tgt := 70) dX5_including_62 (by decide) (fun c978 => ?_) (fun c978 => ?_)
        ·
          refine q_aload_n dX5_including_70 rfl ?_
          refine q_iload dX5_including_71 rfl ?_
          refine q_iconst (v := nI 1) dX5_including_73 rfl ?_
          refine q_iload dX5_including_74 rfl ?_
          refine q_iload dX5_including_76 rfl ?_
          refine q_iand dX5_including_78 ?_
          generalize (x944) &&& (a4) = z979
          refine q_iload dX5_including_79 rfl ?_
          refine q_iload dX5_including_81 rfl ?_
          refine q_iconst (v := -1) dX5_including_83 rfl ?_
          refine q_ixor dX5_including_84 ?_
          generalize (x944) ^^^ (-1) = z980
          refine q_iand dX5_including_85 ?_
          generalize (a4) &&& (z980) = z981
          refine t_callM (M' := mX5_become) [.int (nI ((8 * a1) + (a2))), .int (nI 1), .int (z979), .int (z981)] [] dX5_including_86 wPX5_94v wIX5_become wSX5_become iX5_become oX5_become rfl hok (sX5_become Sc Γ n o ml (th) (s) hB hml ((8 * a1) + (a2)) (by omega) (nI 1) (z979) (z981)) (Nat.le_of_ble_eq_true rfl) (Nat.le_of_ble_eq_true rfl) (Nat.le_of_ble_eq_true rfl) rfl (fun _ _ _ q => by obtain ⟨q, _⟩ := q; cases q) (fun v982 h thv982 sv982 qv982 hok => ?_)
          obtain ⟨qv982, etv982, esv982⟩ := qv982
          rw [etv982, esv982] at hok
          obtain rfl := Sum.inl.inj qv982
          refine q_aload_n dX5_including_89 rfl ?_
          refine t_getr 9 kX5 (by decide) wPX5_31 dX5_including_90 hok mG_o rfl ?_
          refine q_iload dX5_including_93 rfl ?_
          refine q_aload_n dX5_including_95 rfl ?_
          refine q_iload_n dX5_including_96 rfl ?_
          refine t_callM (M' := mX5_grace) [.int (nI a1)] [.int (nI ((8 * a1) + (a2))), .ref ((o + 8))] dX5_including_97 wPX5_98v wIX5_grace wSX5_grace iX5_grace oX5_grace rfl hok (sX5_grace Sc Γ n o ml (th) (s) hB hml (a1) (by omega)) (Nat.le_of_ble_eq_true rfl) (Nat.le_of_ble_eq_true rfl) (Nat.le_of_ble_eq_true rfl) rfl (fun _ _ _ q => by obtain ⟨q, _⟩ := q; obtain ⟨_, q⟩ := q; cases q) (fun v983 h thv983 sv983 qv983 hok => ?_)
          obtain ⟨qv983, etv983, esv983⟩ := qv983
          rw [etv983, esv983] at hok
          obtain ⟨x984, qx984⟩ := qv983
          obtain rfl := Sum.inl.inj qx984
          refine t_iast dX5_including_100 hok (mG_a7 (ml := ml) (th := th) (s := s) hB) (by exact vp_in_nI (by omega) (by omega)) (fun h hok => ?_)
          refine q_iload_n dX5_including_101 rfl ?_
          refine q_iconst (v := nI 2) dX5_including_102 rfl ?_
          refine q_icmp_ne (tgt := 122) dX5_including_103 (by decide) (fun c985 => ?_) (fun c985 => ?_)
          rotate_left
          · exact absurd c985 c977
          refine q_iload_n dX5_including_122 rfl ?_
          refine q_iconst (v := nI 3) dX5_including_123 rfl ?_
          refine q_icmp_eq (tgt := 132) dX5_including_124 (by decide) (fun c986 => ?_) (fun c986 => ?_)
          ·
            refine q_aload_n dX5_including_132 rfl ?_
            refine q_iload_n dX5_including_133 rfl ?_
            refine q_iload_n dX5_including_134 rfl ?_
            refine q_iload dX5_including_135 rfl ?_
            refine q_iload dX5_including_137 rfl ?_
            refine q_iand dX5_including_139 ?_
            generalize (x944) &&& (a4) = z987
            refine t_callM (M' := mX5_ask) [.int (nI a1), .int (nI a2), .int (z987)] [] dX5_including_140 wPX5_105v wIX5_ask wSX5_ask iX5_ask oX5_ask rfl hok (sX5_ask Sc Γ n o ml (th) (s) hB hml (by omega) (a1) (by omega) (a2) (by omega) (z987)) (Nat.le_of_ble_eq_true rfl) (Nat.le_of_ble_eq_true rfl) (Nat.le_of_ble_eq_true rfl) rfl (fun _ _ _ q => by obtain ⟨q, _⟩ := q; cases q) (fun v988 h thv988 sv988 qv988 hok => ?_)
            obtain ⟨qv988, etv988, hsv988⟩ := qv988
            rw [etv988] at hok
            obtain rfl := Sum.inl.inj qv988
            exact q_vret dX5_including_143 rfl ⟨th, sv988, ⟨rfl, rfl, by omega⟩, hok, rfl⟩
          ·
            refine q_iload_n dX5_including_127 rfl ?_
            refine q_iconst (v := nI 5) dX5_including_128 rfl ?_
            refine q_icmp_ne (tgt := 143) dX5_including_129 (by decide) (fun c989 => ?_) (fun c989 => ?_)
            ·
              exact q_vret dX5_including_143 rfl ⟨th, s, ⟨rfl, rfl, by omega⟩, hok, rfl⟩
            ·
              refine q_aload_n dX5_including_132 rfl ?_
              refine q_iload_n dX5_including_133 rfl ?_
              refine q_iload_n dX5_including_134 rfl ?_
              refine q_iload dX5_including_135 rfl ?_
              refine q_iload dX5_including_137 rfl ?_
              refine q_iand dX5_including_139 ?_
              generalize (x944) &&& (a4) = z990
              refine t_callM (M' := mX5_ask) [.int (nI a1), .int (nI a2), .int (z990)] [] dX5_including_140 wPX5_105v wIX5_ask wSX5_ask iX5_ask oX5_ask rfl hok (sX5_ask Sc Γ n o ml (th) (s) hB hml (by omega) (a1) (by omega) (a2) (by omega) (z990)) (Nat.le_of_ble_eq_true rfl) (Nat.le_of_ble_eq_true rfl) (Nat.le_of_ble_eq_true rfl) rfl (fun _ _ _ q => by obtain ⟨q, _⟩ := q; cases q) (fun v991 h thv991 sv991 qv991 hok => ?_)
              obtain ⟨qv991, etv991, hsv991⟩ := qv991
              rw [etv991] at hok
              obtain rfl := Sum.inl.inj qv991
              exact q_vret dX5_including_143 rfl ⟨th, sv991, ⟨rfl, rfl, by omega⟩, hok, rfl⟩
        ·
          refine q_iload_n dX5_including_65 rfl ?_
          refine q_iconst (v := nI 3) dX5_including_66 rfl ?_
          refine q_icmp_ne (tgt := 101) dX5_including_67 (by decide) (fun c992 => ?_) (fun c992 => ?_)
          ·
            refine q_iload_n dX5_including_101 rfl ?_
            refine q_iconst (v := nI 2) dX5_including_102 rfl ?_
            refine q_icmp_ne (tgt := 122) dX5_including_103 (by decide) (fun c993 => ?_) (fun c993 => ?_)
            rotate_left
            · exact absurd c993 c977
            refine q_iload_n dX5_including_122 rfl ?_
            refine q_iconst (v := nI 3) dX5_including_123 rfl ?_
            refine q_icmp_eq (tgt := 132) dX5_including_124 (by decide) (fun c994 => ?_) (fun c994 => ?_)
            · exact absurd c994 c992
            refine q_iload_n dX5_including_127 rfl ?_
            refine q_iconst (v := nI 5) dX5_including_128 rfl ?_
            refine q_icmp_ne (tgt := 143) dX5_including_129 (by decide) (fun c995 => ?_) (fun c995 => ?_)
            ·
              exact q_vret dX5_including_143 rfl ⟨th, s, ⟨rfl, rfl, by omega⟩, hok, rfl⟩
            ·
              refine q_aload_n dX5_including_132 rfl ?_
              refine q_iload_n dX5_including_133 rfl ?_
              refine q_iload_n dX5_including_134 rfl ?_
              refine q_iload dX5_including_135 rfl ?_
              refine q_iload dX5_including_137 rfl ?_
              refine q_iand dX5_including_139 ?_
              generalize (x944) &&& (a4) = z996
              refine t_callM (M' := mX5_ask) [.int (nI a1), .int (nI a2), .int (z996)] [] dX5_including_140 wPX5_105v wIX5_ask wSX5_ask iX5_ask oX5_ask rfl hok (sX5_ask Sc Γ n o ml (th) (s) hB hml (by omega) (a1) (by omega) (a2) (by omega) (z996)) (Nat.le_of_ble_eq_true rfl) (Nat.le_of_ble_eq_true rfl) (Nat.le_of_ble_eq_true rfl) rfl (fun _ _ _ q => by obtain ⟨q, _⟩ := q; cases q) (fun v997 h thv997 sv997 qv997 hok => ?_)
              obtain ⟨qv997, etv997, hsv997⟩ := qv997
              rw [etv997] at hok
              obtain rfl := Sum.inl.inj qv997
              exact q_vret dX5_including_143 rfl ⟨th, sv997, ⟨rfl, rfl, by omega⟩, hok, rfl⟩
          ·
            refine q_aload_n dX5_including_70 rfl ?_
            refine q_iload dX5_including_71 rfl ?_
            refine q_iconst (v := nI 1) dX5_including_73 rfl ?_
            refine q_iload dX5_including_74 rfl ?_
            refine q_iload dX5_including_76 rfl ?_
            refine q_iand dX5_including_78 ?_
            generalize (x944) &&& (a4) = z998
            refine q_iload dX5_including_79 rfl ?_
            refine q_iload dX5_including_81 rfl ?_
            refine q_iconst (v := -1) dX5_including_83 rfl ?_
            refine q_ixor dX5_including_84 ?_
            generalize (x944) ^^^ (-1) = z999
            refine q_iand dX5_including_85 ?_
            generalize (a4) &&& (z999) = z1000
            refine t_callM (M' := mX5_become) [.int (nI ((8 * a1) + (a2))), .int (nI 1), .int (z998), .int (z1000)] [] dX5_including_86 wPX5_94v wIX5_become wSX5_become iX5_become oX5_become rfl hok (sX5_become Sc Γ n o ml (th) (s) hB hml ((8 * a1) + (a2)) (by omega) (nI 1) (z998) (z1000)) (Nat.le_of_ble_eq_true rfl) (Nat.le_of_ble_eq_true rfl) (Nat.le_of_ble_eq_true rfl) rfl (fun _ _ _ q => by obtain ⟨q, _⟩ := q; cases q) (fun v1001 h thv1001 sv1001 qv1001 hok => ?_)
            obtain ⟨qv1001, etv1001, esv1001⟩ := qv1001
            rw [etv1001, esv1001] at hok
            obtain rfl := Sum.inl.inj qv1001
            refine q_aload_n dX5_including_89 rfl ?_
            refine t_getr 9 kX5 (by decide) wPX5_31 dX5_including_90 hok mG_o rfl ?_
            refine q_iload dX5_including_93 rfl ?_
            refine q_aload_n dX5_including_95 rfl ?_
            refine q_iload_n dX5_including_96 rfl ?_
            refine t_callM (M' := mX5_grace) [.int (nI a1)] [.int (nI ((8 * a1) + (a2))), .ref ((o + 8))] dX5_including_97 wPX5_98v wIX5_grace wSX5_grace iX5_grace oX5_grace rfl hok (sX5_grace Sc Γ n o ml (th) (s) hB hml (a1) (by omega)) (Nat.le_of_ble_eq_true rfl) (Nat.le_of_ble_eq_true rfl) (Nat.le_of_ble_eq_true rfl) rfl (fun _ _ _ q => by obtain ⟨q, _⟩ := q; obtain ⟨_, q⟩ := q; cases q) (fun v1002 h thv1002 sv1002 qv1002 hok => ?_)
            obtain ⟨qv1002, etv1002, esv1002⟩ := qv1002
            rw [etv1002, esv1002] at hok
            obtain ⟨x1003, qx1003⟩ := qv1002
            obtain rfl := Sum.inl.inj qx1003
            refine t_iast dX5_including_100 hok (mG_a7 (ml := ml) (th := th) (s := s) hB) (by exact vp_in_nI (by omega) (by omega)) (fun h hok => ?_)
            refine q_iload_n dX5_including_101 rfl ?_
            refine q_iconst (v := nI 2) dX5_including_102 rfl ?_
            refine q_icmp_ne (tgt := 122) dX5_including_103 (by decide) (fun c1004 => ?_) (fun c1004 => ?_)
            rotate_left
            · exact absurd c1004 c977
            refine q_iload_n dX5_including_122 rfl ?_
            refine q_iconst (v := nI 3) dX5_including_123 rfl ?_
            refine q_icmp_eq (tgt := 132) dX5_including_124 (by decide) (fun c1005 => ?_) (fun c1005 => ?_)
            rotate_left
            · exact absurd c992 c1005
            refine q_aload_n dX5_including_132 rfl ?_
            refine q_iload_n dX5_including_133 rfl ?_
            refine q_iload_n dX5_including_134 rfl ?_
            refine q_iload dX5_including_135 rfl ?_
            refine q_iload dX5_including_137 rfl ?_
            refine q_iand dX5_including_139 ?_
            generalize (x944) &&& (a4) = z1006
            refine t_callM (M' := mX5_ask) [.int (nI a1), .int (nI a2), .int (z1006)] [] dX5_including_140 wPX5_105v wIX5_ask wSX5_ask iX5_ask oX5_ask rfl hok (sX5_ask Sc Γ n o ml (th) (s) hB hml (by omega) (a1) (by omega) (a2) (by omega) (z1006)) (Nat.le_of_ble_eq_true rfl) (Nat.le_of_ble_eq_true rfl) (Nat.le_of_ble_eq_true rfl) rfl (fun _ _ _ q => by obtain ⟨q, _⟩ := q; cases q) (fun v1007 h thv1007 sv1007 qv1007 hok => ?_)
            obtain ⟨qv1007, etv1007, hsv1007⟩ := qv1007
            rw [etv1007] at hok
            obtain rfl := Sum.inl.inj qv1007
            exact q_vret dX5_including_143 rfl ⟨th, sv1007, ⟨rfl, rfl, by omega⟩, hok, rfl⟩
      ·
        refine q_aload_n dX5_including_31 rfl ?_
        refine q_iload dX5_including_32 rfl ?_
        refine q_iconst (v := nI 0) dX5_including_34 rfl ?_
        refine q_iload dX5_including_35 rfl ?_
        refine q_iload dX5_including_37 rfl ?_
        refine q_ior dX5_including_39 ?_
        generalize (x944) ||| (a4) = z1008
        refine q_iconst (v := nI 0) dX5_including_40 rfl ?_
        refine t_callM (M' := mX5_become) [.int (nI ((8 * a1) + (a2))), .int (nI 0), .int (z1008), .int (nI 0)] [] dX5_including_41 wPX5_94v wIX5_become wSX5_become iX5_become oX5_become rfl hok (sX5_become Sc Γ n o ml (th) (s) hB hml ((8 * a1) + (a2)) (by omega) (nI 0) (z1008) (nI 0)) (Nat.le_of_ble_eq_true rfl) (Nat.le_of_ble_eq_true rfl) (Nat.le_of_ble_eq_true rfl) rfl (fun _ _ _ q => by obtain ⟨q, _⟩ := q; cases q) (fun v1009 h thv1009 sv1009 qv1009 hok => ?_)
        obtain ⟨qv1009, etv1009, esv1009⟩ := qv1009
        rw [etv1009, esv1009] at hok
        obtain rfl := Sum.inl.inj qv1009
        refine q_aload_n dX5_including_44 rfl ?_
        refine q_iload dX5_including_45 rfl ?_
        refine q_iload dX5_including_47 rfl ?_
        refine q_aload_n dX5_including_49 rfl ?_
        refine q_iload_n dX5_including_50 rfl ?_
        refine t_callM (M' := mX5_grace) [.int (nI a1)] [.int (a4), .int (nI ((8 * a1) + (a2))), .ref o] dX5_including_51 wPX5_98v wIX5_grace wSX5_grace iX5_grace oX5_grace rfl hok (sX5_grace Sc Γ n o ml (th) (s) hB hml (a1) (by omega)) (Nat.le_of_ble_eq_true rfl) (Nat.le_of_ble_eq_true rfl) (Nat.le_of_ble_eq_true rfl) rfl (fun _ _ _ q => by obtain ⟨q, _⟩ := q; obtain ⟨_, q⟩ := q; cases q) (fun v1010 h thv1010 sv1010 qv1010 hok => ?_)
        obtain ⟨qv1010, etv1010, esv1010⟩ := qv1010
        rw [etv1010, esv1010] at hok
        obtain ⟨x1011, qx1011⟩ := qv1010
        obtain rfl := Sum.inl.inj qx1011
        refine t_callM (M' := mX5_setTimers) [.int (nI ((8 * a1) + (a2))), .int (a4), .int (x1011)] [] dX5_including_54 wPX5_102v wIX5_setTimers wSX5_setTimers iX5_setTimers oX5_setTimers rfl hok (sX5_setTimers Sc Γ n o ml (th) (s) hB hml ((8 * a1) + (a2)) (by omega) (a4) (x1011)) (Nat.le_of_ble_eq_true rfl) (Nat.le_of_ble_eq_true rfl) (Nat.le_of_ble_eq_true rfl) rfl (fun _ _ _ q => by obtain ⟨q, _⟩ := q; cases q) (fun v1012 h thv1012 sv1012 qv1012 hok => ?_)
        obtain ⟨qv1012, etv1012, esv1012⟩ := qv1012
        rw [etv1012, esv1012] at hok
        obtain rfl := Sum.inl.inj qv1012
        refine q_goto (tgt := 101) dX5_including_57 (by decide) ?_
        refine q_iload_n dX5_including_101 rfl ?_
        refine q_iconst (v := nI 2) dX5_including_102 rfl ?_
        refine q_icmp_ne (tgt := 122) dX5_including_103 (by decide) (fun c1013 => ?_) (fun c1013 => ?_)
        · exact absurd c977 c1013
        refine q_aload_n dX5_including_106 rfl ?_
        refine q_iload_n dX5_including_107 rfl ?_
        refine q_iload_n dX5_including_108 rfl ?_
        refine q_iload dX5_including_109 rfl ?_
        refine q_iload dX5_including_111 rfl ?_
        refine q_iconst (v := -1) dX5_including_113 rfl ?_
        refine q_ixor dX5_including_114 ?_
        generalize (a4) ^^^ (-1) = z1014
        refine q_iand dX5_including_115 ?_
        generalize (x944) &&& (z1014) = z1015
        refine t_callM (M' := mX5_ask) [.int (nI a1), .int (nI a2), .int (z1015)] [] dX5_including_116 wPX5_105v wIX5_ask wSX5_ask iX5_ask oX5_ask rfl hok (sX5_ask Sc Γ n o ml (th) (s) hB hml (by omega) (a1) (by omega) (a2) (by omega) (z1015)) (Nat.le_of_ble_eq_true rfl) (Nat.le_of_ble_eq_true rfl) (Nat.le_of_ble_eq_true rfl) rfl (fun _ _ _ q => by obtain ⟨q, _⟩ := q; cases q) (fun v1016 h thv1016 sv1016 qv1016 hok => ?_)
        obtain ⟨qv1016, etv1016, hsv1016⟩ := qv1016
        rw [etv1016] at hok
        obtain rfl := Sum.inl.inj qv1016
        refine q_goto (tgt := 143) dX5_including_119 (by decide) ?_
        exact q_vret dX5_including_143 rfl ⟨th, sv1016, ⟨rfl, rfl, by omega⟩, hok, rfl⟩
set_option maxRecDepth 20000 in
set_option maxHeartbeats 4000000 in
theorem sX5_excluding (Sc : q_S) (Γ : Nat → q_K) (n o ml th s : Nat) (hB : mB Γ o) (hml : ml ≤ 4) (hs : s ≤ 1800000000) (a1 : Nat) (b1 : a1 < 4) (a2 : Nat) (b2 : a2 < 8) (a3 : Int32) (a4 : Int32) : q_mod Sc Γ o ml mX5_excluding [.ref o, .int (nI a1), .int (nI a2), .int (a3), .int (a4)] n th s (fun O th' s' => q_RV O ∧ th' = th ∧ s' ≤ s + 2) := by
  intro h hok
  show q_A Sc mX5_excluding 0 [.ref o, .int (nI a1), .int (nI a2), .int (a3), .int (a4), .retAddr 0, .retAddr 0, .retAddr 0, .retAddr 0, .retAddr 0] [] h n 0 0 (fun O h' n' => ∃ th' s', (fun O th' s' => q_RV O ∧ th' = th ∧ s' ≤ s + 2) O th' s' ∧ q_ok (mG Γ o ml th' s') h' ∧ n' = n)
  refine q_bipush (v := nI 8) dX5_excluding_0 rfl ?_
  refine q_iload_n dX5_excluding_2 rfl ?_
  refine t_imul_n dX5_excluding_3 ?_
  refine q_iload_n dX5_excluding_4 rfl ?_
  refine t_iadd_n dX5_excluding_5 ?_
  refine t_istore [.ref o, .int (nI a1), .int (nI a2), .int (a3), .int (a4), .int (nI ((8 * a1) + (a2))), .retAddr 0, .retAddr 0, .retAddr 0, .retAddr 0] (Or.inr ⟨rfl, dX5_excluding_6⟩) (by decide) rfl ?_
  refine q_aload_n dX5_excluding_8 rfl ?_
  refine q_iload dX5_excluding_9 rfl ?_
  refine q_iconst (v := nI 1) dX5_excluding_11 rfl ?_
  refine t_callM (M' := mX5_setOf) [.int (nI ((8 * a1) + (a2))), .int (nI 1)] [] dX5_excluding_12 wPX5_90v wIX5_setOf wSX5_setOf iX5_setOf oX5_setOf rfl hok (sX5_setOf Sc Γ n o ml (th) (s) hB hml ((8 * a1) + (a2)) (by omega) (nI 1)) (Nat.le_of_ble_eq_true rfl) (Nat.le_of_ble_eq_true rfl) (Nat.le_of_ble_eq_true rfl) rfl (fun _ _ _ q => by obtain ⟨q, _⟩ := q; obtain ⟨_, q⟩ := q; cases q) (fun v1018 h thv1018 sv1018 qv1018 hok => ?_)
  obtain ⟨qv1018, etv1018, esv1018⟩ := qv1018
  rw [etv1018, esv1018] at hok
  obtain ⟨x1019, qx1019⟩ := qv1018
  obtain rfl := Sum.inl.inj qx1019
  refine t_istore [.ref o, .int (nI a1), .int (nI a2), .int (a3), .int (a4), .int (nI ((8 * a1) + (a2))), .int (x1019), .retAddr 0, .retAddr 0, .retAddr 0] (Or.inr ⟨rfl, dX5_excluding_15⟩) (by decide) rfl ?_
  refine q_aload_n dX5_excluding_17 rfl ?_
  refine q_iload dX5_excluding_18 rfl ?_
  refine q_iconst (v := nI 2) dX5_excluding_20 rfl ?_
  refine t_callM (M' := mX5_setOf) [.int (nI ((8 * a1) + (a2))), .int (nI 2)] [] dX5_excluding_21 wPX5_90v wIX5_setOf wSX5_setOf iX5_setOf oX5_setOf rfl hok (sX5_setOf Sc Γ n o ml (th) (s) hB hml ((8 * a1) + (a2)) (by omega) (nI 2)) (Nat.le_of_ble_eq_true rfl) (Nat.le_of_ble_eq_true rfl) (Nat.le_of_ble_eq_true rfl) rfl (fun _ _ _ q => by obtain ⟨q, _⟩ := q; obtain ⟨_, q⟩ := q; cases q) (fun v1020 h thv1020 sv1020 qv1020 hok => ?_)
  obtain ⟨qv1020, etv1020, esv1020⟩ := qv1020
  rw [etv1020, esv1020] at hok
  obtain ⟨x1021, qx1021⟩ := qv1020
  obtain rfl := Sum.inl.inj qx1021
  refine t_istore [.ref o, .int (nI a1), .int (nI a2), .int (a3), .int (a4), .int (nI ((8 * a1) + (a2))), .int (x1019), .int (x1021), .retAddr 0, .retAddr 0] (Or.inr ⟨rfl, dX5_excluding_24⟩) (by decide) rfl ?_
  refine q_iload dX5_excluding_26 rfl ?_
  refine q_iload dX5_excluding_28 rfl ?_
  refine q_iconst (v := -1) dX5_excluding_30 rfl ?_
  refine q_ixor dX5_excluding_31 ?_
  generalize (x1019) ^^^ (-1) = z1022
  refine q_iand dX5_excluding_32 ?_
  generalize (a4) &&& (z1022) = z1023
  refine q_iload dX5_excluding_33 rfl ?_
  refine q_iconst (v := -1) dX5_excluding_35 rfl ?_
  refine q_ixor dX5_excluding_36 ?_
  generalize (x1021) ^^^ (-1) = z1024
  refine q_iand dX5_excluding_37 ?_
  generalize (z1023) &&& (z1024) = z1025
  refine t_istore [.ref o, .int (nI a1), .int (nI a2), .int (a3), .int (a4), .int (nI ((8 * a1) + (a2))), .int (x1019), .int (x1021), .int (z1025), .retAddr 0] (Or.inr ⟨rfl, dX5_excluding_38⟩) (by decide) rfl ?_
  refine q_aload_n dX5_excluding_40 rfl ?_
  refine t_getr 9 kX5 (by decide) wPX5_31 dX5_excluding_41 hok mG_o rfl ?_
  refine q_iload dX5_excluding_44 rfl ?_
  refine t_iald dX5_excluding_46 hok (mG_a7 (ml := ml) (th := th) (s := s) hB) (by exact vp_in_nI (by omega) (by omega)) (fun x1026 => ?_)
  refine t_istore [.ref o, .int (nI a1), .int (nI a2), .int (a3), .int (a4), .int (nI ((8 * a1) + (a2))), .int (x1019), .int (x1021), .int (z1025), .int (x1026)] (Or.inr ⟨rfl, dX5_excluding_47⟩) (by decide) rfl ?_
  refine q_iload_n dX5_excluding_49 rfl ?_
  refine q_if_eq (tgt := 63) dX5_excluding_50 (by decide) (fun c1027 => ?_) (fun c1027 => ?_)
  ·
    refine q_aload_n dX5_excluding_63 rfl ?_
    refine q_iload dX5_excluding_64 rfl ?_
    refine q_iconst (v := nI 1) dX5_excluding_66 rfl ?_
    refine q_iload dX5_excluding_67 rfl ?_
    refine q_iload dX5_excluding_69 rfl ?_
    refine q_ior dX5_excluding_71 ?_
    generalize (x1019) ||| (a4) = z1028
    refine q_iload dX5_excluding_72 rfl ?_
    refine q_iload dX5_excluding_74 rfl ?_
    refine q_iconst (v := -1) dX5_excluding_76 rfl ?_
    refine q_ixor dX5_excluding_77 ?_
    generalize (a4) ^^^ (-1) = z1029
    refine q_iand dX5_excluding_78 ?_
    generalize (x1021) &&& (z1029) = z1030
    refine t_callM (M' := mX5_become) [.int (nI ((8 * a1) + (a2))), .int (nI 1), .int (z1028), .int (z1030)] [] dX5_excluding_79 wPX5_94v wIX5_become wSX5_become iX5_become oX5_become rfl hok (sX5_become Sc Γ n o ml (th) (s) hB hml ((8 * a1) + (a2)) (by omega) (nI 1) (z1028) (z1030)) (Nat.le_of_ble_eq_true rfl) (Nat.le_of_ble_eq_true rfl) (Nat.le_of_ble_eq_true rfl) rfl (fun _ _ _ q => by obtain ⟨q, _⟩ := q; cases q) (fun v1031 h thv1031 sv1031 qv1031 hok => ?_)
    obtain ⟨qv1031, etv1031, esv1031⟩ := qv1031
    rw [etv1031, esv1031] at hok
    obtain rfl := Sum.inl.inj qv1031
    refine q_aload_n dX5_excluding_82 rfl ?_
    refine q_iload dX5_excluding_83 rfl ?_
    refine q_iload dX5_excluding_85 rfl ?_
    refine q_aload_n dX5_excluding_87 rfl ?_
    refine q_iload_n dX5_excluding_88 rfl ?_
    refine t_callM (M' := mX5_grace) [.int (nI a1)] [.int (a4), .int (nI ((8 * a1) + (a2))), .ref o] dX5_excluding_89 wPX5_98v wIX5_grace wSX5_grace iX5_grace oX5_grace rfl hok (sX5_grace Sc Γ n o ml (th) (s) hB hml (a1) (by omega)) (Nat.le_of_ble_eq_true rfl) (Nat.le_of_ble_eq_true rfl) (Nat.le_of_ble_eq_true rfl) rfl (fun _ _ _ q => by obtain ⟨q, _⟩ := q; obtain ⟨_, q⟩ := q; cases q) (fun v1032 h thv1032 sv1032 qv1032 hok => ?_)
    obtain ⟨qv1032, etv1032, esv1032⟩ := qv1032
    rw [etv1032, esv1032] at hok
    obtain ⟨x1033, qx1033⟩ := qv1032
    obtain rfl := Sum.inl.inj qx1033
    refine t_callM (M' := mX5_setTimers) [.int (nI ((8 * a1) + (a2))), .int (a4), .int (x1033)] [] dX5_excluding_92 wPX5_102v wIX5_setTimers wSX5_setTimers iX5_setTimers oX5_setTimers rfl hok (sX5_setTimers Sc Γ n o ml (th) (s) hB hml ((8 * a1) + (a2)) (by omega) (a4) (x1033)) (Nat.le_of_ble_eq_true rfl) (Nat.le_of_ble_eq_true rfl) (Nat.le_of_ble_eq_true rfl) rfl (fun _ _ _ q => by obtain ⟨q, _⟩ := q; cases q) (fun v1034 h thv1034 sv1034 qv1034 hok => ?_)
    obtain ⟨qv1034, etv1034, esv1034⟩ := qv1034
    rw [etv1034, esv1034] at hok
    obtain rfl := Sum.inl.inj qv1034
    refine q_goto (tgt := 189) dX5_excluding_95 (by decide) ?_
    refine q_iload_n dX5_excluding_189 rfl ?_
    refine q_iconst (v := nI 2) dX5_excluding_190 rfl ?_
    refine q_icmp_ne (tgt := 216) dX5_excluding_191 (by decide) (fun c1035 => ?_) (fun c1035 => ?_)
    ·
      refine q_iload_n dX5_excluding_216 rfl ?_
      refine q_iconst (v := nI 3) dX5_excluding_217 rfl ?_
      refine q_icmp_eq (tgt := 226) dX5_excluding_218 (by decide) (fun c1036 => ?_) (fun c1036 => ?_)
      ·
        refine q_aload_n dX5_excluding_226 rfl ?_
        refine q_iload_n dX5_excluding_227 rfl ?_
        refine q_iload_n dX5_excluding_228 rfl ?_
        refine q_iload dX5_excluding_229 rfl ?_
        refine q_iload dX5_excluding_231 rfl ?_
        refine q_iconst (v := -1) dX5_excluding_233 rfl ?_
        refine q_ixor dX5_excluding_234 ?_
        generalize (x1021) ^^^ (-1) = z1037
        refine q_iand dX5_excluding_235 ?_
        generalize (a4) &&& (z1037) = z1038
        refine t_callM (M' := mX5_ask) [.int (nI a1), .int (nI a2), .int (z1038)] [] dX5_excluding_236 wPX5_105v wIX5_ask wSX5_ask iX5_ask oX5_ask rfl hok (sX5_ask Sc Γ n o ml (th) (s) hB hml (by omega) (a1) (by omega) (a2) (by omega) (z1038)) (Nat.le_of_ble_eq_true rfl) (Nat.le_of_ble_eq_true rfl) (Nat.le_of_ble_eq_true rfl) rfl (fun _ _ _ q => by obtain ⟨q, _⟩ := q; cases q) (fun v1039 h thv1039 sv1039 qv1039 hok => ?_)
        obtain ⟨qv1039, etv1039, hsv1039⟩ := qv1039
        rw [etv1039] at hok
        obtain rfl := Sum.inl.inj qv1039
        exact q_vret dX5_excluding_239 rfl ⟨th, sv1039, ⟨rfl, rfl, by omega⟩, hok, rfl⟩
      ·
        refine q_iload_n dX5_excluding_221 rfl ?_
        refine q_iconst (v := nI 5) dX5_excluding_222 rfl ?_
        refine q_icmp_ne (tgt := 239) dX5_excluding_223 (by decide) (fun c1040 => ?_) (fun c1040 => ?_)
        ·
          exact q_vret dX5_excluding_239 rfl ⟨th, s, ⟨rfl, rfl, by omega⟩, hok, rfl⟩
        ·
          refine q_aload_n dX5_excluding_226 rfl ?_
          refine q_iload_n dX5_excluding_227 rfl ?_
          refine q_iload_n dX5_excluding_228 rfl ?_
          refine q_iload dX5_excluding_229 rfl ?_
          refine q_iload dX5_excluding_231 rfl ?_
          refine q_iconst (v := -1) dX5_excluding_233 rfl ?_
          refine q_ixor dX5_excluding_234 ?_
          generalize (x1021) ^^^ (-1) = z1041
          refine q_iand dX5_excluding_235 ?_
          generalize (a4) &&& (z1041) = z1042
          refine t_callM (M' := mX5_ask) [.int (nI a1), .int (nI a2), .int (z1042)] [] dX5_excluding_236 wPX5_105v wIX5_ask wSX5_ask iX5_ask oX5_ask rfl hok (sX5_ask Sc Γ n o ml (th) (s) hB hml (by omega) (a1) (by omega) (a2) (by omega) (z1042)) (Nat.le_of_ble_eq_true rfl) (Nat.le_of_ble_eq_true rfl) (Nat.le_of_ble_eq_true rfl) rfl (fun _ _ _ q => by obtain ⟨q, _⟩ := q; cases q) (fun v1043 h thv1043 sv1043 qv1043 hok => ?_)
          obtain ⟨qv1043, etv1043, hsv1043⟩ := qv1043
          rw [etv1043] at hok
          obtain rfl := Sum.inl.inj qv1043
          exact q_vret dX5_excluding_239 rfl ⟨th, sv1043, ⟨rfl, rfl, by omega⟩, hok, rfl⟩
    ·
      refine q_aload_n dX5_excluding_194 rfl ?_
      refine q_iload_n dX5_excluding_195 rfl ?_
      refine q_iload_n dX5_excluding_196 rfl ?_
      refine q_iload dX5_excluding_197 rfl ?_
      refine q_iload dX5_excluding_199 rfl ?_
      refine q_iconst (v := -1) dX5_excluding_201 rfl ?_
      refine q_ixor dX5_excluding_202 ?_
      generalize (a4) ^^^ (-1) = z1044
      refine q_iand dX5_excluding_203 ?_
      generalize (x1019) &&& (z1044) = z1045
      refine t_callM (M' := mX5_ask) [.int (nI a1), .int (nI a2), .int (z1045)] [] dX5_excluding_204 wPX5_105v wIX5_ask wSX5_ask iX5_ask oX5_ask rfl hok (sX5_ask Sc Γ n o ml (th) (s) hB hml (by omega) (a1) (by omega) (a2) (by omega) (z1045)) (Nat.le_of_ble_eq_true rfl) (Nat.le_of_ble_eq_true rfl) (Nat.le_of_ble_eq_true rfl) rfl (fun _ _ _ q => by obtain ⟨q, _⟩ := q; cases q) (fun v1046 h thv1046 sv1046 qv1046 hok => ?_)
      obtain ⟨qv1046, etv1046, hsv1046⟩ := qv1046
      rw [etv1046] at hok
      obtain rfl := Sum.inl.inj qv1046
      refine q_aload_n dX5_excluding_207 rfl ?_
      refine q_iload_n dX5_excluding_208 rfl ?_
      refine q_iload_n dX5_excluding_209 rfl ?_
      refine t_callM (M' := mX5_askGroup) [.int (nI a1), .int (nI a2)] [] dX5_excluding_210 wPX5_108v wIX5_askGroup wSX5_askGroup iX5_askGroup oX5_askGroup rfl hok (sX5_askGroup Sc Γ n o ml (th) (sv1046) hB hml (by omega) (a1) (by omega) (a2) (by omega)) (Nat.le_of_ble_eq_true rfl) (Nat.le_of_ble_eq_true rfl) (Nat.le_of_ble_eq_true rfl) rfl (fun _ _ _ q => by obtain ⟨q, _⟩ := q; cases q) (fun v1047 h thv1047 sv1047 qv1047 hok => ?_)
      obtain ⟨qv1047, etv1047, hsv1047⟩ := qv1047
      rw [etv1047] at hok
      obtain rfl := Sum.inl.inj qv1047
      refine q_goto (tgt := 239) dX5_excluding_213 (by decide) ?_
      exact q_vret dX5_excluding_239 rfl ⟨th, sv1047, ⟨rfl, rfl, by omega⟩, hok, rfl⟩
  ·
    refine q_iload_n dX5_excluding_53 rfl ?_
    refine q_iconst (v := nI 4) dX5_excluding_54 rfl ?_
    refine q_icmp_eq (tgt := 63) dX5_excluding_55 (by decide) (fun c1048 => ?_) (fun c1048 => ?_)
    ·
      refine q_aload_n dX5_excluding_63 rfl ?_
      refine q_iload dX5_excluding_64 rfl ?_
      refine q_iconst (v := nI 1) dX5_excluding_66 rfl ?_
      refine q_iload dX5_excluding_67 rfl ?_
      refine q_iload dX5_excluding_69 rfl ?_
      refine q_ior dX5_excluding_71 ?_
      generalize (x1019) ||| (a4) = z1049
      refine q_iload dX5_excluding_72 rfl ?_
      refine q_iload dX5_excluding_74 rfl ?_
      refine q_iconst (v := -1) dX5_excluding_76 rfl ?_
      refine q_ixor dX5_excluding_77 ?_
      generalize (a4) ^^^ (-1) = z1050
      refine q_iand dX5_excluding_78 ?_
      generalize (x1021) &&& (z1050) = z1051
      refine t_callM (M' := mX5_become) [.int (nI ((8 * a1) + (a2))), .int (nI 1), .int (z1049), .int (z1051)] [] dX5_excluding_79 wPX5_94v wIX5_become wSX5_become iX5_become oX5_become rfl hok (sX5_become Sc Γ n o ml (th) (s) hB hml ((8 * a1) + (a2)) (by omega) (nI 1) (z1049) (z1051)) (Nat.le_of_ble_eq_true rfl) (Nat.le_of_ble_eq_true rfl) (Nat.le_of_ble_eq_true rfl) rfl (fun _ _ _ q => by obtain ⟨q, _⟩ := q; cases q) (fun v1052 h thv1052 sv1052 qv1052 hok => ?_)
      obtain ⟨qv1052, etv1052, esv1052⟩ := qv1052
      rw [etv1052, esv1052] at hok
      obtain rfl := Sum.inl.inj qv1052
      refine q_aload_n dX5_excluding_82 rfl ?_
      refine q_iload dX5_excluding_83 rfl ?_
      refine q_iload dX5_excluding_85 rfl ?_
      refine q_aload_n dX5_excluding_87 rfl ?_
      refine q_iload_n dX5_excluding_88 rfl ?_
      refine t_callM (M' := mX5_grace) [.int (nI a1)] [.int (a4), .int (nI ((8 * a1) + (a2))), .ref o] dX5_excluding_89 wPX5_98v wIX5_grace wSX5_grace iX5_grace oX5_grace rfl hok (sX5_grace Sc Γ n o ml (th) (s) hB hml (a1) (by omega)) (Nat.le_of_ble_eq_true rfl) (Nat.le_of_ble_eq_true rfl) (Nat.le_of_ble_eq_true rfl) rfl (fun _ _ _ q => by obtain ⟨q, _⟩ := q; obtain ⟨_, q⟩ := q; cases q) (fun v1053 h thv1053 sv1053 qv1053 hok => ?_)
      obtain ⟨qv1053, etv1053, esv1053⟩ := qv1053
      rw [etv1053, esv1053] at hok
      obtain ⟨x1054, qx1054⟩ := qv1053
      obtain rfl := Sum.inl.inj qx1054
      refine t_callM (M' := mX5_setTimers) [.int (nI ((8 * a1) + (a2))), .int (a4), .int (x1054)] [] dX5_excluding_92 wPX5_102v wIX5_setTimers wSX5_setTimers iX5_setTimers oX5_setTimers rfl hok (sX5_setTimers Sc Γ n o ml (th) (s) hB hml ((8 * a1) + (a2)) (by omega) (a4) (x1054)) (Nat.le_of_ble_eq_true rfl) (Nat.le_of_ble_eq_true rfl) (Nat.le_of_ble_eq_true rfl) rfl (fun _ _ _ q => by obtain ⟨q, _⟩ := q; cases q) (fun v1055 h thv1055 sv1055 qv1055 hok => ?_)
      obtain ⟨qv1055, etv1055, esv1055⟩ := qv1055
      rw [etv1055, esv1055] at hok
      obtain rfl := Sum.inl.inj qv1055
      refine q_goto (tgt := 189) dX5_excluding_95 (by decide) ?_
      refine q_iload_n dX5_excluding_189 rfl ?_
      refine q_iconst (v := nI 2) dX5_excluding_190 rfl ?_
      refine q_icmp_ne (tgt := 216) dX5_excluding_191 (by decide) (fun c1056 => ?_) (fun c1056 => ?_)
      ·
        refine q_iload_n dX5_excluding_216 rfl ?_
        refine q_iconst (v := nI 3) dX5_excluding_217 rfl ?_
        refine q_icmp_eq (tgt := 226) dX5_excluding_218 (by decide) (fun c1057 => ?_) (fun c1057 => ?_)
        ·
          refine q_aload_n dX5_excluding_226 rfl ?_
          refine q_iload_n dX5_excluding_227 rfl ?_
          refine q_iload_n dX5_excluding_228 rfl ?_
          refine q_iload dX5_excluding_229 rfl ?_
          refine q_iload dX5_excluding_231 rfl ?_
          refine q_iconst (v := -1) dX5_excluding_233 rfl ?_
          refine q_ixor dX5_excluding_234 ?_
          generalize (x1021) ^^^ (-1) = z1058
          refine q_iand dX5_excluding_235 ?_
          generalize (a4) &&& (z1058) = z1059
          refine t_callM (M' := mX5_ask) [.int (nI a1), .int (nI a2), .int (z1059)] [] dX5_excluding_236 wPX5_105v wIX5_ask wSX5_ask iX5_ask oX5_ask rfl hok (sX5_ask Sc Γ n o ml (th) (s) hB hml (by omega) (a1) (by omega) (a2) (by omega) (z1059)) (Nat.le_of_ble_eq_true rfl) (Nat.le_of_ble_eq_true rfl) (Nat.le_of_ble_eq_true rfl) rfl (fun _ _ _ q => by obtain ⟨q, _⟩ := q; cases q) (fun v1060 h thv1060 sv1060 qv1060 hok => ?_)
          obtain ⟨qv1060, etv1060, hsv1060⟩ := qv1060
          rw [etv1060] at hok
          obtain rfl := Sum.inl.inj qv1060
          exact q_vret dX5_excluding_239 rfl ⟨th, sv1060, ⟨rfl, rfl, by omega⟩, hok, rfl⟩
        ·
          refine q_iload_n dX5_excluding_221 rfl ?_
          refine q_iconst (v := nI 5) dX5_excluding_222 rfl ?_
          refine q_icmp_ne (tgt := 239) dX5_excluding_223 (by decide) (fun c1061 => ?_) (fun c1061 => ?_)
          ·
            exact q_vret dX5_excluding_239 rfl ⟨th, s, ⟨rfl, rfl, by omega⟩, hok, rfl⟩
          ·
            refine q_aload_n dX5_excluding_226 rfl ?_
            refine q_iload_n dX5_excluding_227 rfl ?_
            refine q_iload_n dX5_excluding_228 rfl ?_
            refine q_iload dX5_excluding_229 rfl ?_
            refine q_iload dX5_excluding_231 rfl ?_
            refine q_iconst (v := -1) dX5_excluding_233 rfl ?_
            refine q_ixor dX5_excluding_234 ?_
            generalize (x1021) ^^^ (-1) = z1062
            refine q_iand dX5_excluding_235 ?_
            generalize (a4) &&& (z1062) = z1063
            refine t_callM (M' := mX5_ask) [.int (nI a1), .int (nI a2), .int (z1063)] [] dX5_excluding_236 wPX5_105v wIX5_ask wSX5_ask iX5_ask oX5_ask rfl hok (sX5_ask Sc Γ n o ml (th) (s) hB hml (by omega) (a1) (by omega) (a2) (by omega) (z1063)) (Nat.le_of_ble_eq_true rfl) (Nat.le_of_ble_eq_true rfl) (Nat.le_of_ble_eq_true rfl) rfl (fun _ _ _ q => by obtain ⟨q, _⟩ := q; cases q) (fun v1064 h thv1064 sv1064 qv1064 hok => ?_)
            obtain ⟨qv1064, etv1064, hsv1064⟩ := qv1064
            rw [etv1064] at hok
            obtain rfl := Sum.inl.inj qv1064
            exact q_vret dX5_excluding_239 rfl ⟨th, sv1064, ⟨rfl, rfl, by omega⟩, hok, rfl⟩
      ·
        refine q_aload_n dX5_excluding_194 rfl ?_
        refine q_iload_n dX5_excluding_195 rfl ?_
        refine q_iload_n dX5_excluding_196 rfl ?_
        refine q_iload dX5_excluding_197 rfl ?_
        refine q_iload dX5_excluding_199 rfl ?_
        refine q_iconst (v := -1) dX5_excluding_201 rfl ?_
        refine q_ixor dX5_excluding_202 ?_
        generalize (a4) ^^^ (-1) = z1065
        refine q_iand dX5_excluding_203 ?_
        generalize (x1019) &&& (z1065) = z1066
        refine t_callM (M' := mX5_ask) [.int (nI a1), .int (nI a2), .int (z1066)] [] dX5_excluding_204 wPX5_105v wIX5_ask wSX5_ask iX5_ask oX5_ask rfl hok (sX5_ask Sc Γ n o ml (th) (s) hB hml (by omega) (a1) (by omega) (a2) (by omega) (z1066)) (Nat.le_of_ble_eq_true rfl) (Nat.le_of_ble_eq_true rfl) (Nat.le_of_ble_eq_true rfl) rfl (fun _ _ _ q => by obtain ⟨q, _⟩ := q; cases q) (fun v1067 h thv1067 sv1067 qv1067 hok => ?_)
        obtain ⟨qv1067, etv1067, hsv1067⟩ := qv1067
        rw [etv1067] at hok
        obtain rfl := Sum.inl.inj qv1067
        refine q_aload_n dX5_excluding_207 rfl ?_
        refine q_iload_n dX5_excluding_208 rfl ?_
        refine q_iload_n dX5_excluding_209 rfl ?_
        refine t_callM (M' := mX5_askGroup) [.int (nI a1), .int (nI a2)] [] dX5_excluding_210 wPX5_108v wIX5_askGroup wSX5_askGroup iX5_askGroup oX5_askGroup rfl hok (sX5_askGroup Sc Γ n o ml (th) (sv1067) hB hml (by omega) (a1) (by omega) (a2) (by omega)) (Nat.le_of_ble_eq_true rfl) (Nat.le_of_ble_eq_true rfl) (Nat.le_of_ble_eq_true rfl) rfl (fun _ _ _ q => by obtain ⟨q, _⟩ := q; cases q) (fun v1068 h thv1068 sv1068 qv1068 hok => ?_)
        obtain ⟨qv1068, etv1068, hsv1068⟩ := qv1068
        rw [etv1068] at hok
        obtain rfl := Sum.inl.inj qv1068
        refine q_goto (tgt := 239) dX5_excluding_213 (by decide) ?_
        exact q_vret dX5_excluding_239 rfl ⟨th, sv1068, ⟨rfl, rfl, by omega⟩, hok, rfl⟩
    ·
      refine q_iload_n dX5_excluding_58 rfl ?_
      refine q_iconst (v := nI 2) dX5_excluding_59 rfl ?_
      refine q_icmp_ne (tgt := 98) dX5_excluding_60 (by decide) (fun c1069 => ?_) (fun c1069 => ?_)
      ·
        refine q_iload_n dX5_excluding_98 rfl ?_
        refine q_iconst (v := nI 5) dX5_excluding_99 rfl ?_
        refine q_icmp_ne (tgt := 135) dX5_excluding_100 (by decide) (fun c1070 => ?_) (fun c1070 => ?_)
        ·
          refine q_aload_n dX5_excluding_135 rfl ?_
          refine q_iload dX5_excluding_136 rfl ?_
          refine q_iconst (v := nI 1) dX5_excluding_138 rfl ?_
          refine q_iload dX5_excluding_139 rfl ?_
          refine q_iload dX5_excluding_141 rfl ?_
          refine q_iconst (v := -1) dX5_excluding_143 rfl ?_
          refine q_ixor dX5_excluding_144 ?_
          generalize (x1021) ^^^ (-1) = z1071
          refine q_iand dX5_excluding_145 ?_
          generalize (a4) &&& (z1071) = z1072
          refine q_iload dX5_excluding_146 rfl ?_
          refine q_iload dX5_excluding_148 rfl ?_
          refine q_iand dX5_excluding_150 ?_
          generalize (x1021) &&& (a4) = z1073
          refine t_callM (M' := mX5_become) [.int (nI ((8 * a1) + (a2))), .int (nI 1), .int (z1072), .int (z1073)] [] dX5_excluding_151 wPX5_94v wIX5_become wSX5_become iX5_become oX5_become rfl hok (sX5_become Sc Γ n o ml (th) (s) hB hml ((8 * a1) + (a2)) (by omega) (nI 1) (z1072) (z1073)) (Nat.le_of_ble_eq_true rfl) (Nat.le_of_ble_eq_true rfl) (Nat.le_of_ble_eq_true rfl) rfl (fun _ _ _ q => by obtain ⟨q, _⟩ := q; cases q) (fun v1074 h thv1074 sv1074 qv1074 hok => ?_)
          obtain ⟨qv1074, etv1074, esv1074⟩ := qv1074
          rw [etv1074, esv1074] at hok
          obtain rfl := Sum.inl.inj qv1074
          refine q_aload_n dX5_excluding_154 rfl ?_
          refine q_iload dX5_excluding_155 rfl ?_
          refine q_iload dX5_excluding_157 rfl ?_
          refine q_iload_n dX5_excluding_159 rfl ?_
          refine q_iconst (v := nI 1) dX5_excluding_160 rfl ?_
          refine q_icmp_ne (tgt := 172) dX5_excluding_161 (by decide) (fun c1075 => ?_) (fun c1075 => ?_)
          ·
            refine q_iload dX5_excluding_172 rfl ?_
            refine t_callM (M' := mX5_setTimers) [.int (nI ((8 * a1) + (a2))), .int (z1025), .int (x1026)] [] dX5_excluding_174 wPX5_102v wIX5_setTimers wSX5_setTimers iX5_setTimers oX5_setTimers rfl hok (sX5_setTimers Sc Γ n o ml (th) (s) hB hml ((8 * a1) + (a2)) (by omega) (z1025) (x1026)) (Nat.le_of_ble_eq_true rfl) (Nat.le_of_ble_eq_true rfl) (Nat.le_of_ble_eq_true rfl) rfl (fun _ _ _ q => by obtain ⟨q, _⟩ := q; cases q) (fun v1076 h thv1076 sv1076 qv1076 hok => ?_)
            obtain ⟨qv1076, etv1076, esv1076⟩ := qv1076
            rw [etv1076, esv1076] at hok
            obtain rfl := Sum.inl.inj qv1076
            refine q_aload_n dX5_excluding_177 rfl ?_
            refine t_getr 9 kX5 (by decide) wPX5_31 dX5_excluding_178 hok mG_o rfl ?_
            refine q_iload dX5_excluding_181 rfl ?_
            refine q_aload_n dX5_excluding_183 rfl ?_
            refine q_iload_n dX5_excluding_184 rfl ?_
            refine t_callM (M' := mX5_grace) [.int (nI a1)] [.int (nI ((8 * a1) + (a2))), .ref ((o + 8))] dX5_excluding_185 wPX5_98v wIX5_grace wSX5_grace iX5_grace oX5_grace rfl hok (sX5_grace Sc Γ n o ml (th) (s) hB hml (a1) (by omega)) (Nat.le_of_ble_eq_true rfl) (Nat.le_of_ble_eq_true rfl) (Nat.le_of_ble_eq_true rfl) rfl (fun _ _ _ q => by obtain ⟨q, _⟩ := q; obtain ⟨_, q⟩ := q; cases q) (fun v1077 h thv1077 sv1077 qv1077 hok => ?_)
            obtain ⟨qv1077, etv1077, esv1077⟩ := qv1077
            rw [etv1077, esv1077] at hok
            obtain ⟨x1078, qx1078⟩ := qv1077
            obtain rfl := Sum.inl.inj qx1078
            refine t_iast dX5_excluding_188 hok (mG_a7 (ml := ml) (th := th) (s := s) hB) (by exact vp_in_nI (by omega) (by omega)) (fun h hok => ?_)
            refine q_iload_n dX5_excluding_189 rfl ?_
            refine q_iconst (v := nI 2) dX5_excluding_190 rfl ?_
            refine q_icmp_ne (tgt := 216) dX5_excluding_191 (by decide) (fun c1079 => ?_) (fun c1079 => ?_)
            rotate_left
            · exact absurd c1079 c1069
            refine q_iload_n dX5_excluding_216 rfl ?_
            refine q_iconst (v := nI 3) dX5_excluding_217 rfl ?_
            refine q_icmp_eq (tgt := 226) dX5_excluding_218 (by decide) (fun c1080 => ?_) (fun c1080 => ?_)
            ·
              refine q_aload_n dX5_excluding_226 rfl ?_
              refine q_iload_n dX5_excluding_227 rfl ?_
              refine q_iload_n dX5_excluding_228 rfl ?_
              refine q_iload dX5_excluding_229 rfl ?_
              refine q_iload dX5_excluding_231 rfl ?_
              refine q_iconst (v := -1) dX5_excluding_233 rfl ?_
              refine q_ixor dX5_excluding_234 ?_
              generalize (x1021) ^^^ (-1) = z1081
              refine q_iand dX5_excluding_235 ?_
              generalize (a4) &&& (z1081) = z1082
              refine t_callM (M' := mX5_ask) [.int (nI a1), .int (nI a2), .int (z1082)] [] dX5_excluding_236 wPX5_105v wIX5_ask wSX5_ask iX5_ask oX5_ask rfl hok (sX5_ask Sc Γ n o ml (th) (s) hB hml (by omega) (a1) (by omega) (a2) (by omega) (z1082)) (Nat.le_of_ble_eq_true rfl) (Nat.le_of_ble_eq_true rfl) (Nat.le_of_ble_eq_true rfl) rfl (fun _ _ _ q => by obtain ⟨q, _⟩ := q; cases q) (fun v1083 h thv1083 sv1083 qv1083 hok => ?_)
              obtain ⟨qv1083, etv1083, hsv1083⟩ := qv1083
              rw [etv1083] at hok
              obtain rfl := Sum.inl.inj qv1083
              exact q_vret dX5_excluding_239 rfl ⟨th, sv1083, ⟨rfl, rfl, by omega⟩, hok, rfl⟩
            ·
              refine q_iload_n dX5_excluding_221 rfl ?_
              refine q_iconst (v := nI 5) dX5_excluding_222 rfl ?_
              refine q_icmp_ne (tgt := 239) dX5_excluding_223 (by decide) (fun c1084 => ?_) (fun c1084 => ?_)
              rotate_left
              · exact absurd c1084 c1070
              exact q_vret dX5_excluding_239 rfl ⟨th, s, ⟨rfl, rfl, by omega⟩, hok, rfl⟩
          ·
            refine q_aload_n dX5_excluding_164 rfl ?_
            refine q_iload_n dX5_excluding_165 rfl ?_
            refine t_callM (M' := mX5_grace) [.int (nI a1)] [.int (z1025), .int (nI ((8 * a1) + (a2))), .ref o] dX5_excluding_166 wPX5_98v wIX5_grace wSX5_grace iX5_grace oX5_grace rfl hok (sX5_grace Sc Γ n o ml (th) (s) hB hml (a1) (by omega)) (Nat.le_of_ble_eq_true rfl) (Nat.le_of_ble_eq_true rfl) (Nat.le_of_ble_eq_true rfl) rfl (fun _ _ _ q => by obtain ⟨q, _⟩ := q; obtain ⟨_, q⟩ := q; cases q) (fun v1085 h thv1085 sv1085 qv1085 hok => ?_)
            obtain ⟨qv1085, etv1085, esv1085⟩ := qv1085
            rw [etv1085, esv1085] at hok
            obtain ⟨x1086, qx1086⟩ := qv1085
            obtain rfl := Sum.inl.inj qx1086
            refine q_goto (tgt := 174) dX5_excluding_169 (by decide) ?_
            refine t_callM (M' := mX5_setTimers) [.int (nI ((8 * a1) + (a2))), .int (z1025), .int (x1086)] [] dX5_excluding_174 wPX5_102v wIX5_setTimers wSX5_setTimers iX5_setTimers oX5_setTimers rfl hok (sX5_setTimers Sc Γ n o ml (th) (s) hB hml ((8 * a1) + (a2)) (by omega) (z1025) (x1086)) (Nat.le_of_ble_eq_true rfl) (Nat.le_of_ble_eq_true rfl) (Nat.le_of_ble_eq_true rfl) rfl (fun _ _ _ q => by obtain ⟨q, _⟩ := q; cases q) (fun v1087 h thv1087 sv1087 qv1087 hok => ?_)
            obtain ⟨qv1087, etv1087, esv1087⟩ := qv1087
            rw [etv1087, esv1087] at hok
            obtain rfl := Sum.inl.inj qv1087
            refine q_aload_n dX5_excluding_177 rfl ?_
            refine t_getr 9 kX5 (by decide) wPX5_31 dX5_excluding_178 hok mG_o rfl ?_
            refine q_iload dX5_excluding_181 rfl ?_
            refine q_aload_n dX5_excluding_183 rfl ?_
            refine q_iload_n dX5_excluding_184 rfl ?_
            refine t_callM (M' := mX5_grace) [.int (nI a1)] [.int (nI ((8 * a1) + (a2))), .ref ((o + 8))] dX5_excluding_185 wPX5_98v wIX5_grace wSX5_grace iX5_grace oX5_grace rfl hok (sX5_grace Sc Γ n o ml (th) (s) hB hml (a1) (by omega)) (Nat.le_of_ble_eq_true rfl) (Nat.le_of_ble_eq_true rfl) (Nat.le_of_ble_eq_true rfl) rfl (fun _ _ _ q => by obtain ⟨q, _⟩ := q; obtain ⟨_, q⟩ := q; cases q) (fun v1088 h thv1088 sv1088 qv1088 hok => ?_)
            obtain ⟨qv1088, etv1088, esv1088⟩ := qv1088
            rw [etv1088, esv1088] at hok
            obtain ⟨x1089, qx1089⟩ := qv1088
            obtain rfl := Sum.inl.inj qx1089
            refine t_iast dX5_excluding_188 hok (mG_a7 (ml := ml) (th := th) (s := s) hB) (by exact vp_in_nI (by omega) (by omega)) (fun h hok => ?_)
            refine q_iload_n dX5_excluding_189 rfl ?_
            refine q_iconst (v := nI 2) dX5_excluding_190 rfl ?_
            refine q_icmp_ne (tgt := 216) dX5_excluding_191 (by decide) (fun c1090 => ?_) (fun c1090 => ?_)
            rotate_left
            · exact absurd c1090 c1069
            refine q_iload_n dX5_excluding_216 rfl ?_
            refine q_iconst (v := nI 3) dX5_excluding_217 rfl ?_
            refine q_icmp_eq (tgt := 226) dX5_excluding_218 (by decide) (fun c1091 => ?_) (fun c1091 => ?_)
            ·
              refine q_aload_n dX5_excluding_226 rfl ?_
              refine q_iload_n dX5_excluding_227 rfl ?_
              refine q_iload_n dX5_excluding_228 rfl ?_
              refine q_iload dX5_excluding_229 rfl ?_
              refine q_iload dX5_excluding_231 rfl ?_
              refine q_iconst (v := -1) dX5_excluding_233 rfl ?_
              refine q_ixor dX5_excluding_234 ?_
              generalize (x1021) ^^^ (-1) = z1092
              refine q_iand dX5_excluding_235 ?_
              generalize (a4) &&& (z1092) = z1093
              refine t_callM (M' := mX5_ask) [.int (nI a1), .int (nI a2), .int (z1093)] [] dX5_excluding_236 wPX5_105v wIX5_ask wSX5_ask iX5_ask oX5_ask rfl hok (sX5_ask Sc Γ n o ml (th) (s) hB hml (by omega) (a1) (by omega) (a2) (by omega) (z1093)) (Nat.le_of_ble_eq_true rfl) (Nat.le_of_ble_eq_true rfl) (Nat.le_of_ble_eq_true rfl) rfl (fun _ _ _ q => by obtain ⟨q, _⟩ := q; cases q) (fun v1094 h thv1094 sv1094 qv1094 hok => ?_)
              obtain ⟨qv1094, etv1094, hsv1094⟩ := qv1094
              rw [etv1094] at hok
              obtain rfl := Sum.inl.inj qv1094
              exact q_vret dX5_excluding_239 rfl ⟨th, sv1094, ⟨rfl, rfl, by omega⟩, hok, rfl⟩
            ·
              refine q_iload_n dX5_excluding_221 rfl ?_
              refine q_iconst (v := nI 5) dX5_excluding_222 rfl ?_
              refine q_icmp_ne (tgt := 239) dX5_excluding_223 (by decide) (fun c1095 => ?_) (fun c1095 => ?_)
              rotate_left
              · exact absurd c1095 c1070
              exact q_vret dX5_excluding_239 rfl ⟨th, s, ⟨rfl, rfl, by omega⟩, hok, rfl⟩
        ·
          refine q_aload_n dX5_excluding_103 rfl ?_
          refine q_iload dX5_excluding_104 rfl ?_
          refine q_iconst (v := nI 1) dX5_excluding_106 rfl ?_
          refine q_iload dX5_excluding_107 rfl ?_
          refine q_iload dX5_excluding_109 rfl ?_
          refine q_iload dX5_excluding_111 rfl ?_
          refine q_iconst (v := -1) dX5_excluding_113 rfl ?_
          refine q_ixor dX5_excluding_114 ?_
          generalize (x1021) ^^^ (-1) = z1096
          refine q_iand dX5_excluding_115 ?_
          generalize (a4) &&& (z1096) = z1097
          refine q_ior dX5_excluding_116 ?_
          generalize (x1019) ||| (z1097) = z1098
          refine q_iload dX5_excluding_117 rfl ?_
          refine t_callM (M' := mX5_become) [.int (nI ((8 * a1) + (a2))), .int (nI 1), .int (z1098), .int (x1021)] [] dX5_excluding_119 wPX5_94v wIX5_become wSX5_become iX5_become oX5_become rfl hok (sX5_become Sc Γ n o ml (th) (s) hB hml ((8 * a1) + (a2)) (by omega) (nI 1) (z1098) (x1021)) (Nat.le_of_ble_eq_true rfl) (Nat.le_of_ble_eq_true rfl) (Nat.le_of_ble_eq_true rfl) rfl (fun _ _ _ q => by obtain ⟨q, _⟩ := q; cases q) (fun v1099 h thv1099 sv1099 qv1099 hok => ?_)
          obtain ⟨qv1099, etv1099, esv1099⟩ := qv1099
          rw [etv1099, esv1099] at hok
          obtain rfl := Sum.inl.inj qv1099
          refine q_aload_n dX5_excluding_122 rfl ?_
          refine q_iload dX5_excluding_123 rfl ?_
          refine q_iload dX5_excluding_125 rfl ?_
          refine q_iload dX5_excluding_127 rfl ?_
          refine t_callM (M' := mX5_setTimers) [.int (nI ((8 * a1) + (a2))), .int (z1025), .int (x1026)] [] dX5_excluding_129 wPX5_102v wIX5_setTimers wSX5_setTimers iX5_setTimers oX5_setTimers rfl hok (sX5_setTimers Sc Γ n o ml (th) (s) hB hml ((8 * a1) + (a2)) (by omega) (z1025) (x1026)) (Nat.le_of_ble_eq_true rfl) (Nat.le_of_ble_eq_true rfl) (Nat.le_of_ble_eq_true rfl) rfl (fun _ _ _ q => by obtain ⟨q, _⟩ := q; cases q) (fun v1100 h thv1100 sv1100 qv1100 hok => ?_)
          obtain ⟨qv1100, etv1100, esv1100⟩ := qv1100
          rw [etv1100, esv1100] at hok
          obtain rfl := Sum.inl.inj qv1100
          refine q_goto (tgt := 189) dX5_excluding_132 (by decide) ?_
          refine q_iload_n dX5_excluding_189 rfl ?_
          refine q_iconst (v := nI 2) dX5_excluding_190 rfl ?_
          refine q_icmp_ne (tgt := 216) dX5_excluding_191 (by decide) (fun c1101 => ?_) (fun c1101 => ?_)
          rotate_left
          · exact absurd c1101 c1069
          refine q_iload_n dX5_excluding_216 rfl ?_
          refine q_iconst (v := nI 3) dX5_excluding_217 rfl ?_
          refine q_icmp_eq (tgt := 226) dX5_excluding_218 (by decide) (fun c1102 => ?_) (fun c1102 => ?_)
          ·
            refine q_aload_n dX5_excluding_226 rfl ?_
            refine q_iload_n dX5_excluding_227 rfl ?_
            refine q_iload_n dX5_excluding_228 rfl ?_
            refine q_iload dX5_excluding_229 rfl ?_
            refine q_iload dX5_excluding_231 rfl ?_
            refine q_iconst (v := -1) dX5_excluding_233 rfl ?_
            refine q_ixor dX5_excluding_234 ?_
            generalize (x1021) ^^^ (-1) = z1103
            refine q_iand dX5_excluding_235 ?_
            generalize (a4) &&& (z1103) = z1104
            refine t_callM (M' := mX5_ask) [.int (nI a1), .int (nI a2), .int (z1104)] [] dX5_excluding_236 wPX5_105v wIX5_ask wSX5_ask iX5_ask oX5_ask rfl hok (sX5_ask Sc Γ n o ml (th) (s) hB hml (by omega) (a1) (by omega) (a2) (by omega) (z1104)) (Nat.le_of_ble_eq_true rfl) (Nat.le_of_ble_eq_true rfl) (Nat.le_of_ble_eq_true rfl) rfl (fun _ _ _ q => by obtain ⟨q, _⟩ := q; cases q) (fun v1105 h thv1105 sv1105 qv1105 hok => ?_)
            obtain ⟨qv1105, etv1105, hsv1105⟩ := qv1105
            rw [etv1105] at hok
            obtain rfl := Sum.inl.inj qv1105
            exact q_vret dX5_excluding_239 rfl ⟨th, sv1105, ⟨rfl, rfl, by omega⟩, hok, rfl⟩
          ·
            refine q_iload_n dX5_excluding_221 rfl ?_
            refine q_iconst (v := nI 5) dX5_excluding_222 rfl ?_
            refine q_icmp_ne (tgt := 239) dX5_excluding_223 (by decide) (fun c1106 => ?_) (fun c1106 => ?_)
            · exact absurd c1070 c1106
            refine q_aload_n dX5_excluding_226 rfl ?_
            refine q_iload_n dX5_excluding_227 rfl ?_
            refine q_iload_n dX5_excluding_228 rfl ?_
            refine q_iload dX5_excluding_229 rfl ?_
            refine q_iload dX5_excluding_231 rfl ?_
            refine q_iconst (v := -1) dX5_excluding_233 rfl ?_
            refine q_ixor dX5_excluding_234 ?_
            generalize (x1021) ^^^ (-1) = z1107
            refine q_iand dX5_excluding_235 ?_
            generalize (a4) &&& (z1107) = z1108
            refine t_callM (M' := mX5_ask) [.int (nI a1), .int (nI a2), .int (z1108)] [] dX5_excluding_236 wPX5_105v wIX5_ask wSX5_ask iX5_ask oX5_ask rfl hok (sX5_ask Sc Γ n o ml (th) (s) hB hml (by omega) (a1) (by omega) (a2) (by omega) (z1108)) (Nat.le_of_ble_eq_true rfl) (Nat.le_of_ble_eq_true rfl) (Nat.le_of_ble_eq_true rfl) rfl (fun _ _ _ q => by obtain ⟨q, _⟩ := q; cases q) (fun v1109 h thv1109 sv1109 qv1109 hok => ?_)
            obtain ⟨qv1109, etv1109, hsv1109⟩ := qv1109
            rw [etv1109] at hok
            obtain rfl := Sum.inl.inj qv1109
            exact q_vret dX5_excluding_239 rfl ⟨th, sv1109, ⟨rfl, rfl, by omega⟩, hok, rfl⟩
      ·
        refine q_aload_n dX5_excluding_63 rfl ?_
        refine q_iload dX5_excluding_64 rfl ?_
        refine q_iconst (v := nI 1) dX5_excluding_66 rfl ?_
        refine q_iload dX5_excluding_67 rfl ?_
        refine q_iload dX5_excluding_69 rfl ?_
        refine q_ior dX5_excluding_71 ?_
        generalize (x1019) ||| (a4) = z1110
        refine q_iload dX5_excluding_72 rfl ?_
        refine q_iload dX5_excluding_74 rfl ?_
        refine q_iconst (v := -1) dX5_excluding_76 rfl ?_
        refine q_ixor dX5_excluding_77 ?_
        generalize (a4) ^^^ (-1) = z1111
        refine q_iand dX5_excluding_78 ?_
        generalize (x1021) &&& (z1111) = z1112
        refine t_callM (M' := mX5_become) [.int (nI ((8 * a1) + (a2))), .int (nI 1), .int (z1110), .int (z1112)] [] dX5_excluding_79 wPX5_94v wIX5_become wSX5_become iX5_become oX5_become rfl hok (sX5_become Sc Γ n o ml (th) (s) hB hml ((8 * a1) + (a2)) (by omega) (nI 1) (z1110) (z1112)) (Nat.le_of_ble_eq_true rfl) (Nat.le_of_ble_eq_true rfl) (Nat.le_of_ble_eq_true rfl) rfl (fun _ _ _ q => by obtain ⟨q, _⟩ := q; cases q) (fun v1113 h thv1113 sv1113 qv1113 hok => ?_)
        obtain ⟨qv1113, etv1113, esv1113⟩ := qv1113
        rw [etv1113, esv1113] at hok
        obtain rfl := Sum.inl.inj qv1113
        refine q_aload_n dX5_excluding_82 rfl ?_
        refine q_iload dX5_excluding_83 rfl ?_
        refine q_iload dX5_excluding_85 rfl ?_
        refine q_aload_n dX5_excluding_87 rfl ?_
        refine q_iload_n dX5_excluding_88 rfl ?_
        refine t_callM (M' := mX5_grace) [.int (nI a1)] [.int (a4), .int (nI ((8 * a1) + (a2))), .ref o] dX5_excluding_89 wPX5_98v wIX5_grace wSX5_grace iX5_grace oX5_grace rfl hok (sX5_grace Sc Γ n o ml (th) (s) hB hml (a1) (by omega)) (Nat.le_of_ble_eq_true rfl) (Nat.le_of_ble_eq_true rfl) (Nat.le_of_ble_eq_true rfl) rfl (fun _ _ _ q => by obtain ⟨q, _⟩ := q; obtain ⟨_, q⟩ := q; cases q) (fun v1114 h thv1114 sv1114 qv1114 hok => ?_)
        obtain ⟨qv1114, etv1114, esv1114⟩ := qv1114
        rw [etv1114, esv1114] at hok
        obtain ⟨x1115, qx1115⟩ := qv1114
        obtain rfl := Sum.inl.inj qx1115
        refine t_callM (M' := mX5_setTimers) [.int (nI ((8 * a1) + (a2))), .int (a4), .int (x1115)] [] dX5_excluding_92 wPX5_102v wIX5_setTimers wSX5_setTimers iX5_setTimers oX5_setTimers rfl hok (sX5_setTimers Sc Γ n o ml (th) (s) hB hml ((8 * a1) + (a2)) (by omega) (a4) (x1115)) (Nat.le_of_ble_eq_true rfl) (Nat.le_of_ble_eq_true rfl) (Nat.le_of_ble_eq_true rfl) rfl (fun _ _ _ q => by obtain ⟨q, _⟩ := q; cases q) (fun v1116 h thv1116 sv1116 qv1116 hok => ?_)
        obtain ⟨qv1116, etv1116, esv1116⟩ := qv1116
        rw [etv1116, esv1116] at hok
        obtain rfl := Sum.inl.inj qv1116
        refine q_goto (tgt := 189) dX5_excluding_95 (by decide) ?_
        refine q_iload_n dX5_excluding_189 rfl ?_
        refine q_iconst (v := nI 2) dX5_excluding_190 rfl ?_
        refine q_icmp_ne (tgt := 216) dX5_excluding_191 (by decide) (fun c1117 => ?_) (fun c1117 => ?_)
        · exact absurd c1069 c1117
        refine q_aload_n dX5_excluding_194 rfl ?_
        refine q_iload_n dX5_excluding_195 rfl ?_
        refine q_iload_n dX5_excluding_196 rfl ?_
        refine q_iload dX5_excluding_197 rfl ?_
        refine q_iload dX5_excluding_199 rfl ?_
        refine q_iconst (v := -1) dX5_excluding_201 rfl ?_
        refine q_ixor dX5_excluding_202 ?_
        generalize (a4) ^^^ (-1) = z1118
        refine q_iand dX5_excluding_203 ?_
        generalize (x1019) &&& (z1118) = z1119
        refine t_callM (M' := mX5_ask) [.int (nI a1), .int (nI a2), .int (z1119)] [] dX5_excluding_204 wPX5_105v wIX5_ask wSX5_ask iX5_ask oX5_ask rfl hok (sX5_ask Sc Γ n o ml (th) (s) hB hml (by omega) (a1) (by omega) (a2) (by omega) (z1119)) (Nat.le_of_ble_eq_true rfl) (Nat.le_of_ble_eq_true rfl) (Nat.le_of_ble_eq_true rfl) rfl (fun _ _ _ q => by obtain ⟨q, _⟩ := q; cases q) (fun v1120 h thv1120 sv1120 qv1120 hok => ?_)
        obtain ⟨qv1120, etv1120, hsv1120⟩ := qv1120
        rw [etv1120] at hok
        obtain rfl := Sum.inl.inj qv1120
        refine q_aload_n dX5_excluding_207 rfl ?_
        refine q_iload_n dX5_excluding_208 rfl ?_
        refine q_iload_n dX5_excluding_209 rfl ?_
        refine t_callM (M' := mX5_askGroup) [.int (nI a1), .int (nI a2)] [] dX5_excluding_210 wPX5_108v wIX5_askGroup wSX5_askGroup iX5_askGroup oX5_askGroup rfl hok (sX5_askGroup Sc Γ n o ml (th) (sv1120) hB hml (by omega) (a1) (by omega) (a2) (by omega)) (Nat.le_of_ble_eq_true rfl) (Nat.le_of_ble_eq_true rfl) (Nat.le_of_ble_eq_true rfl) rfl (fun _ _ _ q => by obtain ⟨q, _⟩ := q; cases q) (fun v1121 h thv1121 sv1121 qv1121 hok => ?_)
        obtain ⟨qv1121, etv1121, hsv1121⟩ := qv1121
        rw [etv1121] at hok
        obtain rfl := Sum.inl.inj qv1121
        refine q_goto (tgt := 239) dX5_excluding_213 (by decide) ?_
        exact q_vret dX5_excluding_239 rfl ⟨th, sv1121, ⟨rfl, rfl, by omega⟩, hok, rfl⟩
set_option maxRecDepth 20000 in
set_option maxHeartbeats 4000000 in
theorem sX5_reported (Sc : q_S) (Γ : Nat → q_K) (n o ml th s : Nat) (hB : mB Γ o) (hml : ml ≤ 4) (hs : s ≤ 1700000000) (a1 : Nat) (b1 : a1 < 4) (a2 : Nat) (b2 : a2 < 8) (a3 : Int32) (a4 : Int32) : q_mod Sc Γ o ml mX5_reported [.ref o, .int (nI a1), .int (nI a2), .int (a3), .int (a4)] n th s (fun O th' s' => q_RI O ∧ th' = th ∧ s' ≤ s + 2) := by
  intro h hok
  show q_A Sc mX5_reported 0 [.ref o, .int (nI a1), .int (nI a2), .int (a3), .int (a4), .retAddr 0] [] h n 0 0 (fun O h' n' => ∃ th' s', (fun O th' s' => q_RI O ∧ th' = th ∧ s' ≤ s + 2) O th' s' ∧ q_ok (mG Γ o ml th' s') h' ∧ n' = n)
  refine q_aload_n dX5_reported_0 rfl ?_
  refine t_getc 15 kX5 (by decide) wPX5_72 dX5_reported_1 hok mG_o rfl ?_
  refine t_istore [.ref o, .int (nI a1), .int (nI a2), .int (a3), .int (a4), .int (nI s)] (Or.inr ⟨rfl, dX5_reported_4⟩) (by decide) rfl ?_
  refine q_aload_n dX5_reported_6 rfl ?_
  refine t_getr 8 kX5 (by decide) wPX5_28 dX5_reported_7 hok mG_o rfl ?_
  refine q_bipush (v := nI 8) dX5_reported_10 rfl ?_
  refine q_iload_n dX5_reported_12 rfl ?_
  refine t_imul_n dX5_reported_13 ?_
  refine q_iload_n dX5_reported_14 rfl ?_
  refine t_iadd_n dX5_reported_15 ?_
  refine t_iald dX5_reported_16 hok (mG_a6 (ml := ml) (th := th) (s := s) hB) (by exact vp_in_nI (by omega) (by omega)) (fun x1123 => ?_)
  refine q_iconst (v := nI 1) dX5_reported_17 rfl ?_
  refine q_icmp_ne (tgt := 33) dX5_reported_18 (by decide) (fun c1124 => ?_) (fun c1124 => ?_)
  ·
    refine q_aload_n dX5_reported_33 rfl ?_
    refine q_iload_n dX5_reported_34 rfl ?_
    refine q_iload_n dX5_reported_35 rfl ?_
    refine q_iload_n dX5_reported_36 rfl ?_
    refine q_iload dX5_reported_37 rfl ?_
    refine t_callM (M' := mX5_including) [.int (nI a1), .int (nI a2), .int (a3), .int (a4)] [] dX5_reported_39 wPX5_114v wIX5_including wSX5_including iX5_including oX5_including rfl hok (sX5_including Sc Γ n o ml (th) (s) hB hml (by omega) (a1) (by omega) (a2) (by omega) (a3) (a4)) (Nat.le_of_ble_eq_true rfl) (Nat.le_of_ble_eq_true rfl) (Nat.le_of_ble_eq_true rfl) rfl (fun _ _ _ q => by obtain ⟨q, _⟩ := q; cases q) (fun v1125 h thv1125 sv1125 qv1125 hok => ?_)
    obtain ⟨qv1125, etv1125, hsv1125⟩ := qv1125
    rw [etv1125] at hok
    obtain rfl := Sum.inl.inj qv1125
    refine q_aload_n dX5_reported_42 rfl ?_
    refine t_getc 15 kX5 (by decide) wPX5_72 dX5_reported_43 hok mG_o rfl ?_
    refine q_iload dX5_reported_46 rfl ?_
    refine q_isub dX5_reported_48 ?_
    generalize (nI sv1125) - (nI s) = z1126
    exact q_iret dX5_reported_49 rfl (rfl) ⟨th, sv1125, ⟨⟨_, rfl⟩, rfl, by omega⟩, hok, rfl⟩
  ·
    refine q_aload_n dX5_reported_21 rfl ?_
    refine q_iload_n dX5_reported_22 rfl ?_
    refine q_iload_n dX5_reported_23 rfl ?_
    refine q_iload_n dX5_reported_24 rfl ?_
    refine q_iload dX5_reported_25 rfl ?_
    refine t_callM (M' := mX5_excluding) [.int (nI a1), .int (nI a2), .int (a3), .int (a4)] [] dX5_reported_27 wPX5_111v wIX5_excluding wSX5_excluding iX5_excluding oX5_excluding rfl hok (sX5_excluding Sc Γ n o ml (th) (s) hB hml (by omega) (a1) (by omega) (a2) (by omega) (a3) (a4)) (Nat.le_of_ble_eq_true rfl) (Nat.le_of_ble_eq_true rfl) (Nat.le_of_ble_eq_true rfl) rfl (fun _ _ _ q => by obtain ⟨q, _⟩ := q; cases q) (fun v1127 h thv1127 sv1127 qv1127 hok => ?_)
    obtain ⟨qv1127, etv1127, hsv1127⟩ := qv1127
    rw [etv1127] at hok
    obtain rfl := Sum.inl.inj qv1127
    refine q_goto (tgt := 42) dX5_reported_30 (by decide) ?_
    refine q_aload_n dX5_reported_42 rfl ?_
    refine t_getc 15 kX5 (by decide) wPX5_72 dX5_reported_43 hok mG_o rfl ?_
    refine q_iload dX5_reported_46 rfl ?_
    refine q_isub dX5_reported_48 ?_
    generalize (nI sv1127) - (nI s) = z1128
    exact q_iret dX5_reported_49 rfl (rfl) ⟨th, sv1127, ⟨⟨_, rfl⟩, rfl, by omega⟩, hok, rfl⟩
