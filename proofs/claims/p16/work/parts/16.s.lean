set_option maxRecDepth 20000 in
set_option maxHeartbeats 4000000 in
theorem pX5_settings (Sc : q_S) (Γ : Nat → q_K) (n : Nat) (V : q_V) (o ml : Nat) (H : sM Γ o ml) (hm1 : 1 ≤ ml) (hml : ml ≤ 4) (a1 : Int32) (a2 : Int32) (a3 : Int32) (a4 : Int32) : q_fp Sc Γ mX5_settings [.ref o, .int (a1), .int (a2), .int (a3), .int (a4)] n 0 0 V (q_mub (inZ a1 0 ((ml : Int))) (inZ a2 1 8 ∧ inZ a3 1 201 ∧ inZ a4 1 (a3.toInt + 1)) V o (vX5_settings o ml (nn a1) a2 a3 a4 (vset V o 0 (nI 0))) (fX5_settings o ml (nn a1) a2 a3 a4 (vset V o 0 (nI 0)))) := by
  intro h hok
  show q_A Sc mX5_settings 0 [.ref o, .int (a1), .int (a2), .int (a3), .int (a4)] [] h n 0 0 (fun O h' n' => ∃ F, (q_mub (inZ a1 0 ((ml : Int))) (inZ a2 1 8 ∧ inZ a3 1 201 ∧ inZ a4 1 (a3.toInt + 1)) V o (vX5_settings o ml (nn a1) a2 a3 a4 (vset V o 0 (nI 0))) (fX5_settings o ml (nn a1) a2 a3 a4 (vset V o 0 (nI 0)))) O F ∧ q_ok (gX Γ F) h' ∧ n' = n)
  refine q_aload_n dX5_settings_0 rfl ?_
  refine q_aload_n dX5_settings_1 rfl ?_
  refine q_iload_n dX5_settings_2 rfl ?_
  refine w_callV (M' := mX5_isLink) [.int (a1)] [.ref o] kX5 dX5_settings_3 wPX5_117v wIX5_isLink wSX5_isLink iX5_isLink oX5_isLink rfl hok H.1 (uX5_isLink Sc Γ n V o ml H hm1 hml a1) (Nat.zero_le _) (Nat.zero_le _) (Nat.le_of_ble_eq_true rfl) (Nat.le_of_ble_eq_true rfl) (Nat.le_of_ble_eq_true rfl) rfl (fun v h F hp hok => ?_) (fun x h F hp hok => by obtain ⟨-, y, e, -⟩ := hp; cases e)
  obtain ⟨rfl, y, e, ⟨rfl, g0⟩ | ⟨rfl, g0⟩⟩ := hp
  ·
    obtain rfl := Sum.inl.inj e
    obtain ⟨j581, hj581, rfl⟩ := inZ.nat g0 (by first | decide | omega)
    refine q_if_ne (tgt := 13) dX5_settings_6 (by decide) (fun _ => ?_) (fun q => absurd q (by decide))
    refine q_iload_n dX5_settings_13 rfl ?_
    refine q_iconst (v := nI 1) dX5_settings_14 rfl ?_
    refine q_bipush (v := nI 7) dX5_settings_15 rfl ?_
    refine w_callS (M' := mX5_in) [.int (a2), .int (nI 1), .int (nI 7)] [.ref o] dX5_settings_17 wPX5_120 wTX5_in wNX5 iX5_in oX5_in rfl hok (uX5_in Sc Γ n V a2 (nI 1) (nI 7) 1 8 (by decide) (by decide)) (Nat.zero_le _) (Nat.zero_le _) (Nat.le_of_ble_eq_true rfl) (Nat.le_of_ble_eq_true rfl) (Nat.le_of_ble_eq_true rfl) rfl (fun v h F hp hok => ?_) (fun x h F hp hok => by obtain ⟨-, y, e, -⟩ := hp; cases e)
    obtain ⟨rfl, y, e, ⟨rfl, g1⟩ | ⟨rfl, g1⟩⟩ := hp
    ·
      obtain rfl := Sum.inl.inj e
      refine q_if_eq (tgt := 48) dX5_settings_20 (by decide) (fun q => absurd q (by decide)) (fun _ => ?_)
      refine q_iload_n dX5_settings_23 rfl ?_
      refine q_iconst (v := nI 1) dX5_settings_24 rfl ?_
      refine q_sipush (v := nI 200) dX5_settings_25 rfl ?_
      refine w_callS (M' := mX5_in) [.int (a3), .int (nI 1), .int (nI 200)] [.ref o] dX5_settings_28 wPX5_120 wTX5_in wNX5 iX5_in oX5_in rfl hok (uX5_in Sc Γ n V a3 (nI 1) (nI 200) 1 201 (by decide) (by decide)) (Nat.zero_le _) (Nat.zero_le _) (Nat.le_of_ble_eq_true rfl) (Nat.le_of_ble_eq_true rfl) (Nat.le_of_ble_eq_true rfl) rfl (fun v h F hp hok => ?_) (fun x h F hp hok => by obtain ⟨-, y, e, -⟩ := hp; cases e)
      obtain ⟨rfl, y, e, ⟨rfl, g2⟩ | ⟨rfl, g2⟩⟩ := hp
      ·
        obtain rfl := Sum.inl.inj e
        refine q_if_eq (tgt := 48) dX5_settings_31 (by decide) (fun q => absurd q (by decide)) (fun _ => ?_)
        refine q_iload dX5_settings_34 rfl ?_
        refine q_iconst (v := nI 1) dX5_settings_36 rfl ?_
        refine q_iload_n dX5_settings_37 rfl ?_
        refine w_callS (M' := mX5_in) [.int (a4), .int (nI 1), .int (a3)] [.ref o] dX5_settings_38 wPX5_120 wTX5_in wNX5 iX5_in oX5_in rfl hok (uX5_in Sc Γ n V a4 (nI 1) a3 1 (a3.toInt + 1) (by decide) rfl) (Nat.zero_le _) (Nat.zero_le _) (Nat.le_of_ble_eq_true rfl) (Nat.le_of_ble_eq_true rfl) (Nat.le_of_ble_eq_true rfl) rfl (fun v h F hp hok => ?_) (fun x h F hp hok => by obtain ⟨-, y, e, -⟩ := hp; cases e)
        obtain ⟨rfl, y, e, ⟨rfl, g3⟩ | ⟨rfl, g3⟩⟩ := hp
        ·
          obtain rfl := Sum.inl.inj e
          refine q_if_eq (tgt := 48) dX5_settings_41 (by decide) (fun q => absurd q (by decide)) (fun _ => ?_)
          refine q_iconst (v := nI 0) dX5_settings_44 rfl ?_
          refine q_goto (tgt := 49) dX5_settings_45 (by decide) ?_
          refine v_puti 0 kX5 (by decide) wPX5_66 rfl dX5_settings_49 hok H.1 rfl ⟨rfl, rfl⟩ (fun h hok => ?_)
          refine q_aload_n dX5_settings_52 rfl ?_
          refine v_getv 0 (x := nI 0) vs_at kX5 (by decide) wPX5_66 dX5_settings_53 hok H.1 rfl ?_
          refine q_if_le (tgt := 61) dX5_settings_56 (by decide) (fun _ => ?_) (fun q => absurd q (by decide))
          refine kX5_settings Sc Γ n ((vset V o 0 (nI 0))) o ml H hm1 hml j581 (by omega) a2 a3 a4 (fun O h' eO hk => ?_) hok
          simp only [nn_nI (show j581 < 2 ^ 31 by omega)]
          exact ⟨_, Or.inr (Or.inr ⟨g0, ⟨g1, g2, g3⟩, eO, rfl⟩), hk, by trivial⟩
        ·
          obtain rfl := Sum.inl.inj e
          refine q_if_eq (tgt := 48) dX5_settings_41 (by decide) (fun _ => ?_) (fun q => absurd q (by decide))
          refine q_iconst (v := nI 2) dX5_settings_48 rfl ?_
          refine v_puti 0 kX5 (by decide) wPX5_66 rfl dX5_settings_49 hok H.1 rfl ⟨rfl, rfl⟩ (fun h hok => ?_)
          refine q_aload_n dX5_settings_52 rfl ?_
          refine v_getv 0 (x := nI 2) vs_at kX5 (by decide) wPX5_66 dX5_settings_53 hok H.1 rfl ?_
          refine q_if_le (tgt := 61) dX5_settings_56 (by decide) (fun q => absurd q (by decide)) (fun _ => ?_)
          refine q_iconst (v := nI 0) dX5_settings_59 rfl ?_
          exact q_iret dX5_settings_60 rfl (rfl) ⟨_, Or.inr (Or.inl ⟨g0, (fun q => g3 q.2.2), rfl, rfl⟩), hok, rfl⟩
      ·
        obtain rfl := Sum.inl.inj e
        refine q_if_eq (tgt := 48) dX5_settings_31 (by decide) (fun _ => ?_) (fun q => absurd q (by decide))
        refine q_iconst (v := nI 2) dX5_settings_48 rfl ?_
        refine v_puti 0 kX5 (by decide) wPX5_66 rfl dX5_settings_49 hok H.1 rfl ⟨rfl, rfl⟩ (fun h hok => ?_)
        refine q_aload_n dX5_settings_52 rfl ?_
        refine v_getv 0 (x := nI 2) vs_at kX5 (by decide) wPX5_66 dX5_settings_53 hok H.1 rfl ?_
        refine q_if_le (tgt := 61) dX5_settings_56 (by decide) (fun q => absurd q (by decide)) (fun _ => ?_)
        refine q_iconst (v := nI 0) dX5_settings_59 rfl ?_
        exact q_iret dX5_settings_60 rfl (rfl) ⟨_, Or.inr (Or.inl ⟨g0, (fun q => g2 q.2.1), rfl, rfl⟩), hok, rfl⟩
    ·
      obtain rfl := Sum.inl.inj e
      refine q_if_eq (tgt := 48) dX5_settings_20 (by decide) (fun _ => ?_) (fun q => absurd q (by decide))
      refine q_iconst (v := nI 2) dX5_settings_48 rfl ?_
      refine v_puti 0 kX5 (by decide) wPX5_66 rfl dX5_settings_49 hok H.1 rfl ⟨rfl, rfl⟩ (fun h hok => ?_)
      refine q_aload_n dX5_settings_52 rfl ?_
      refine v_getv 0 (x := nI 2) vs_at kX5 (by decide) wPX5_66 dX5_settings_53 hok H.1 rfl ?_
      refine q_if_le (tgt := 61) dX5_settings_56 (by decide) (fun q => absurd q (by decide)) (fun _ => ?_)
      refine q_iconst (v := nI 0) dX5_settings_59 rfl ?_
      exact q_iret dX5_settings_60 rfl (rfl) ⟨_, Or.inr (Or.inl ⟨g0, (fun q => g1 q.1), rfl, rfl⟩), hok, rfl⟩
  ·
    obtain rfl := Sum.inl.inj e
    refine q_if_ne (tgt := 13) dX5_settings_6 (by decide) (fun q => absurd q (by decide)) (fun _ => ?_)
    refine q_iconst (v := nI 1) dX5_settings_9 rfl ?_
    refine q_goto (tgt := 49) dX5_settings_10 (by decide) ?_
    refine v_puti 0 kX5 (by decide) wPX5_66 rfl dX5_settings_49 hok H.1 rfl ⟨rfl, rfl⟩ (fun h hok => ?_)
    refine q_aload_n dX5_settings_52 rfl ?_
    refine v_getv 0 (x := nI 1) vs_at kX5 (by decide) wPX5_66 dX5_settings_53 hok H.1 rfl ?_
    refine q_if_le (tgt := 61) dX5_settings_56 (by decide) (fun q => absurd q (by decide)) (fun _ => ?_)
    refine q_iconst (v := nI 0) dX5_settings_59 rfl ?_
    exact q_iret dX5_settings_60 rfl (rfl) ⟨_, Or.inl ⟨(fun q => g0 q), rfl, rfl⟩, hok, rfl⟩
set_option maxRecDepth 20000 in
set_option maxHeartbeats 4000000 in
theorem pX5_report (Sc : q_S) (Γ : Nat → q_K) (n : Nat) (V : q_V) (o ml : Nat) (H : sM Γ o ml) (hm1 : 1 ≤ ml) (hml : ml ≤ 4) (a1 : Int32) (a2 : Int32) (a3 : Int32) (a4 : Int32) (b : Nat) (hb : b + 2 ≤ 2000000000) (hS : SB V o b) : q_fp Sc Γ mX5_report [.ref o, .int (a1), .int (a2), .int (a3), .int (a4)] n 0 0 V (q_mub (inZ a1 0 ((ml : Int)) ∧ inZ a2 0 8) (inZ a3 0 6 ∧ inZ a4 0 65536) V o (vX5_report o ml (nn a1) (nn a2) a4 (nn a3) (vset V o 0 (nI 0))) (fX5_report o ml (nn a1) (nn a2) a4 (nn a3) (vset V o 0 (nI 0)))) := by
  intro h hok
  show q_A Sc mX5_report 0 [.ref o, .int (a1), .int (a2), .int (a3), .int (a4)] [] h n 0 0 (fun O h' n' => ∃ F, (q_mub (inZ a1 0 ((ml : Int)) ∧ inZ a2 0 8) (inZ a3 0 6 ∧ inZ a4 0 65536) V o (vX5_report o ml (nn a1) (nn a2) a4 (nn a3) (vset V o 0 (nI 0))) (fX5_report o ml (nn a1) (nn a2) a4 (nn a3) (vset V o 0 (nI 0)))) O F ∧ q_ok (gX Γ F) h' ∧ n' = n)
  refine q_aload_n dX5_report_0 rfl ?_
  refine q_aload_n dX5_report_1 rfl ?_
  refine q_iload_n dX5_report_2 rfl ?_
  refine w_callV (M' := mX5_isLink) [.int (a1)] [.ref o] kX5 dX5_report_3 wPX5_117v wIX5_isLink wSX5_isLink iX5_isLink oX5_isLink rfl hok H.1 (uX5_isLink Sc Γ n V o ml H hm1 hml a1) (Nat.zero_le _) (Nat.zero_le _) (Nat.le_of_ble_eq_true rfl) (Nat.le_of_ble_eq_true rfl) (Nat.le_of_ble_eq_true rfl) rfl (fun v h F hp hok => ?_) (fun x h F hp hok => by obtain ⟨-, y, e, -⟩ := hp; cases e)
  obtain ⟨rfl, y, e, ⟨rfl, g0⟩ | ⟨rfl, g0⟩⟩ := hp
  ·
    obtain rfl := Sum.inl.inj e
    obtain ⟨j587, hj587, rfl⟩ := inZ.nat g0 (by first | decide | omega)
    refine q_if_eq (tgt := 19) dX5_report_6 (by decide) (fun q => absurd q (by decide)) (fun _ => ?_)
    refine q_iload_n dX5_report_9 rfl ?_
    refine q_iconst (v := nI 0) dX5_report_10 rfl ?_
    refine q_bipush (v := nI 7) dX5_report_11 rfl ?_
    refine w_callS (M' := mX5_in) [.int (a2), .int (nI 0), .int (nI 7)] [.ref o] dX5_report_13 wPX5_120 wTX5_in wNX5 iX5_in oX5_in rfl hok (uX5_in Sc Γ n V a2 (nI 0) (nI 7) 0 8 (by decide) (by decide)) (Nat.zero_le _) (Nat.zero_le _) (Nat.le_of_ble_eq_true rfl) (Nat.le_of_ble_eq_true rfl) (Nat.le_of_ble_eq_true rfl) rfl (fun v h F hp hok => ?_) (fun x h F hp hok => by obtain ⟨-, y, e, -⟩ := hp; cases e)
    obtain ⟨rfl, y, e, ⟨rfl, g1⟩ | ⟨rfl, g1⟩⟩ := hp
    ·
      obtain rfl := Sum.inl.inj e
      obtain ⟨j588, hj588, rfl⟩ := inZ.nat g1 (by first | decide | omega)
      refine q_if_ne (tgt := 23) dX5_report_16 (by decide) (fun _ => ?_) (fun q => absurd q (by decide))
      refine q_iload_n dX5_report_23 rfl ?_
      refine q_iconst (v := nI 0) dX5_report_24 rfl ?_
      refine q_iconst (v := nI 5) dX5_report_25 rfl ?_
      refine w_callS (M' := mX5_in) [.int (a3), .int (nI 0), .int (nI 5)] [.ref o] dX5_report_26 wPX5_120 wTX5_in wNX5 iX5_in oX5_in rfl hok (uX5_in Sc Γ n V a3 (nI 0) (nI 5) 0 6 (by decide) (by decide)) (Nat.zero_le _) (Nat.zero_le _) (Nat.le_of_ble_eq_true rfl) (Nat.le_of_ble_eq_true rfl) (Nat.le_of_ble_eq_true rfl) rfl (fun v h F hp hok => ?_) (fun x h F hp hok => by obtain ⟨-, y, e, -⟩ := hp; cases e)
      obtain ⟨rfl, y, e, ⟨rfl, g2⟩ | ⟨rfl, g2⟩⟩ := hp
      ·
        obtain rfl := Sum.inl.inj e
        obtain ⟨j589, hj589, rfl⟩ := inZ.nat g2 (by first | decide | omega)
        refine q_if_eq (tgt := 47) dX5_report_29 (by decide) (fun q => absurd q (by decide)) (fun _ => ?_)
        refine q_iload dX5_report_32 rfl ?_
        refine q_iconst (v := nI 0) dX5_report_34 rfl ?_
        refine q_ldc dX5_report_35 wPX5_124 ?_
        refine w_callS (M' := mX5_in) [.int (a4), .int (nI 0), .int (65535)] [.ref o] dX5_report_37 wPX5_120 wTX5_in wNX5 iX5_in oX5_in rfl hok (uX5_in Sc Γ n V a4 (nI 0) 65535 0 65536 (by decide) (by decide)) (Nat.zero_le _) (Nat.zero_le _) (Nat.le_of_ble_eq_true rfl) (Nat.le_of_ble_eq_true rfl) (Nat.le_of_ble_eq_true rfl) rfl (fun v h F hp hok => ?_) (fun x h F hp hok => by obtain ⟨-, y, e, -⟩ := hp; cases e)
        obtain ⟨rfl, y, e, ⟨rfl, g3⟩ | ⟨rfl, g3⟩⟩ := hp
        ·
          obtain rfl := Sum.inl.inj e
          refine q_if_eq (tgt := 47) dX5_report_40 (by decide) (fun q => absurd q (by decide)) (fun _ => ?_)
          refine q_iconst (v := nI 0) dX5_report_43 rfl ?_
          refine q_goto (tgt := 48) dX5_report_44 (by decide) ?_
          refine v_puti 0 kX5 (by decide) wPX5_66 rfl dX5_report_48 hok H.1 rfl ⟨rfl, rfl⟩ (fun h hok => ?_)
          refine q_aload_n dX5_report_51 rfl ?_
          refine v_getv 0 (x := nI 0) vs_at kX5 (by decide) wPX5_66 dX5_report_52 hok H.1 rfl ?_
          refine q_if_le (tgt := 62) dX5_report_55 (by decide) (fun _ => ?_) (fun q => absurd q (by decide))
          rcases (show j589 = 0 ∨ j589 = 1 ∨ j589 = 2 ∨ j589 = 3 ∨ j589 = 4 ∨ j589 = 5 by omega) with rfl | rfl | rfl | rfl | rfl | rfl
          ·
            refine kX5_report_0 Sc Γ n ((vset V o 0 (nI 0))) o ml H hm1 hml j587 (by omega) j588 (by omega) a4 b hb (hS.vs (Or.inr (by decide))) (fun O h' eO hk => ?_) hok
            simp only [nn_nI (show j587 < 2 ^ 31 by omega), nn_nI (show j588 < 2 ^ 31 by omega), show nn (nI 0) = 0 from rfl]
            exact ⟨_, Or.inr (Or.inr ⟨⟨g0, g1⟩, ⟨g2, g3⟩, eO, rfl⟩), hk, by trivial⟩
          ·
            refine kX5_report_1 Sc Γ n ((vset V o 0 (nI 0))) o ml H hm1 hml j587 (by omega) j588 (by omega) a4 b hb (hS.vs (Or.inr (by decide))) (fun O h' eO hk => ?_) hok
            simp only [nn_nI (show j587 < 2 ^ 31 by omega), nn_nI (show j588 < 2 ^ 31 by omega), show nn (nI 1) = 1 from rfl]
            exact ⟨_, Or.inr (Or.inr ⟨⟨g0, g1⟩, ⟨g2, g3⟩, eO, rfl⟩), hk, by trivial⟩
          ·
            refine kX5_report_2 Sc Γ n ((vset V o 0 (nI 0))) o ml H hm1 hml j587 (by omega) j588 (by omega) a4 b hb (hS.vs (Or.inr (by decide))) (fun O h' eO hk => ?_) hok
            simp only [nn_nI (show j587 < 2 ^ 31 by omega), nn_nI (show j588 < 2 ^ 31 by omega), show nn (nI 2) = 2 from rfl]
            exact ⟨_, Or.inr (Or.inr ⟨⟨g0, g1⟩, ⟨g2, g3⟩, eO, rfl⟩), hk, by trivial⟩
          ·
            refine kX5_report_3 Sc Γ n ((vset V o 0 (nI 0))) o ml H hm1 hml j587 (by omega) j588 (by omega) a4 b hb (hS.vs (Or.inr (by decide))) (fun O h' eO hk => ?_) hok
            simp only [nn_nI (show j587 < 2 ^ 31 by omega), nn_nI (show j588 < 2 ^ 31 by omega), show nn (nI 3) = 3 from rfl]
            exact ⟨_, Or.inr (Or.inr ⟨⟨g0, g1⟩, ⟨g2, g3⟩, eO, rfl⟩), hk, by trivial⟩
          ·
            refine kX5_report_4 Sc Γ n ((vset V o 0 (nI 0))) o ml H hm1 hml j587 (by omega) j588 (by omega) a4 b hb (hS.vs (Or.inr (by decide))) (fun O h' eO hk => ?_) hok
            simp only [nn_nI (show j587 < 2 ^ 31 by omega), nn_nI (show j588 < 2 ^ 31 by omega), show nn (nI 4) = 4 from rfl]
            exact ⟨_, Or.inr (Or.inr ⟨⟨g0, g1⟩, ⟨g2, g3⟩, eO, rfl⟩), hk, by trivial⟩
          ·
            refine kX5_report_5 Sc Γ n ((vset V o 0 (nI 0))) o ml H hm1 hml j587 (by omega) j588 (by omega) a4 b hb (hS.vs (Or.inr (by decide))) (fun O h' eO hk => ?_) hok
            simp only [nn_nI (show j587 < 2 ^ 31 by omega), nn_nI (show j588 < 2 ^ 31 by omega), show nn (nI 5) = 5 from rfl]
            exact ⟨_, Or.inr (Or.inr ⟨⟨g0, g1⟩, ⟨g2, g3⟩, eO, rfl⟩), hk, by trivial⟩
        ·
          obtain rfl := Sum.inl.inj e
          refine q_if_eq (tgt := 47) dX5_report_40 (by decide) (fun _ => ?_) (fun q => absurd q (by decide))
          refine q_iconst (v := nI 2) dX5_report_47 rfl ?_
          refine v_puti 0 kX5 (by decide) wPX5_66 rfl dX5_report_48 hok H.1 rfl ⟨rfl, rfl⟩ (fun h hok => ?_)
          refine q_aload_n dX5_report_51 rfl ?_
          refine v_getv 0 (x := nI 2) vs_at kX5 (by decide) wPX5_66 dX5_report_52 hok H.1 rfl ?_
          refine q_if_le (tgt := 62) dX5_report_55 (by decide) (fun q => absurd q (by decide)) (fun _ => ?_)
          refine q_iconst (v := nI 0) dX5_report_58 rfl ?_
          refine q_goto (tgt := 71) dX5_report_59 (by decide) ?_
          exact q_iret dX5_report_71 rfl (rfl) ⟨_, Or.inr (Or.inl ⟨⟨g0, g1⟩, (fun q => g3 q.2), rfl, rfl⟩), hok, rfl⟩
      ·
        obtain rfl := Sum.inl.inj e
        refine q_if_eq (tgt := 47) dX5_report_29 (by decide) (fun _ => ?_) (fun q => absurd q (by decide))
        refine q_iconst (v := nI 2) dX5_report_47 rfl ?_
        refine v_puti 0 kX5 (by decide) wPX5_66 rfl dX5_report_48 hok H.1 rfl ⟨rfl, rfl⟩ (fun h hok => ?_)
        refine q_aload_n dX5_report_51 rfl ?_
        refine v_getv 0 (x := nI 2) vs_at kX5 (by decide) wPX5_66 dX5_report_52 hok H.1 rfl ?_
        refine q_if_le (tgt := 62) dX5_report_55 (by decide) (fun q => absurd q (by decide)) (fun _ => ?_)
        refine q_iconst (v := nI 0) dX5_report_58 rfl ?_
        refine q_goto (tgt := 71) dX5_report_59 (by decide) ?_
        exact q_iret dX5_report_71 rfl (rfl) ⟨_, Or.inr (Or.inl ⟨⟨g0, g1⟩, (fun q => g2 q.1), rfl, rfl⟩), hok, rfl⟩
    ·
      obtain rfl := Sum.inl.inj e
      refine q_if_ne (tgt := 23) dX5_report_16 (by decide) (fun q => absurd q (by decide)) (fun _ => ?_)
      refine q_iconst (v := nI 1) dX5_report_19 rfl ?_
      refine q_goto (tgt := 48) dX5_report_20 (by decide) ?_
      refine v_puti 0 kX5 (by decide) wPX5_66 rfl dX5_report_48 hok H.1 rfl ⟨rfl, rfl⟩ (fun h hok => ?_)
      refine q_aload_n dX5_report_51 rfl ?_
      refine v_getv 0 (x := nI 1) vs_at kX5 (by decide) wPX5_66 dX5_report_52 hok H.1 rfl ?_
      refine q_if_le (tgt := 62) dX5_report_55 (by decide) (fun q => absurd q (by decide)) (fun _ => ?_)
      refine q_iconst (v := nI 0) dX5_report_58 rfl ?_
      refine q_goto (tgt := 71) dX5_report_59 (by decide) ?_
      exact q_iret dX5_report_71 rfl (rfl) ⟨_, Or.inl ⟨(fun q => g1 q.2), rfl, rfl⟩, hok, rfl⟩
  ·
    obtain rfl := Sum.inl.inj e
    refine q_if_eq (tgt := 19) dX5_report_6 (by decide) (fun _ => ?_) (fun q => absurd q (by decide))
    refine q_iconst (v := nI 1) dX5_report_19 rfl ?_
    refine q_goto (tgt := 48) dX5_report_20 (by decide) ?_
    refine v_puti 0 kX5 (by decide) wPX5_66 rfl dX5_report_48 hok H.1 rfl ⟨rfl, rfl⟩ (fun h hok => ?_)
    refine q_aload_n dX5_report_51 rfl ?_
    refine v_getv 0 (x := nI 1) vs_at kX5 (by decide) wPX5_66 dX5_report_52 hok H.1 rfl ?_
    refine q_if_le (tgt := 62) dX5_report_55 (by decide) (fun q => absurd q (by decide)) (fun _ => ?_)
    refine q_iconst (v := nI 0) dX5_report_58 rfl ?_
    refine q_goto (tgt := 71) dX5_report_59 (by decide) ?_
    exact q_iret dX5_report_71 rfl (rfl) ⟨_, Or.inl ⟨(fun q => g0 q.1), rfl, rfl⟩, hok, rfl⟩
set_option maxRecDepth 20000 in
set_option maxHeartbeats 4000000 in
theorem pX5_tick (Sc : q_S) (Γ : Nat → q_K) (n : Nat) (V : q_V) (o ml : Nat) (H : sM Γ o ml) (hm1 : 1 ≤ ml) (hml : ml ≤ 4) (a1 : Int32) (b : Nat) (hb : b + 8004 ≤ 2000000000) (hS : SB V o b) : q_fp Sc Γ mX5_tick [.ref o, .int (a1)] n 0 0 V (q_mub (inZ a1 0 2001) (True) V o (vX5_tick o ml (nn a1) (vset V o 0 (nI 0))) (fX5_tick o ml (nn a1) (vset V o 0 (nI 0)))) := by
  intro h hok
  show q_A Sc mX5_tick 0 [.ref o, .int (a1), .retAddr 0, .retAddr 0, .retAddr 0] [] h n 0 0 (fun O h' n' => ∃ F, (q_mub (inZ a1 0 2001) (True) V o (vX5_tick o ml (nn a1) (vset V o 0 (nI 0))) (fX5_tick o ml (nn a1) (vset V o 0 (nI 0)))) O F ∧ q_ok (gX Γ F) h' ∧ n' = n)
  refine q_aload_n dX5_tick_0 rfl ?_
  refine q_iload_n dX5_tick_1 rfl ?_
  refine q_iconst (v := nI 0) dX5_tick_2 rfl ?_
  refine q_sipush (v := nI 2000) dX5_tick_3 rfl ?_
  refine w_callS (M' := mX5_in) [.int (a1), .int (nI 0), .int (nI 2000)] [.ref o] dX5_tick_6 wPX5_120 wTX5_in wNX5 iX5_in oX5_in rfl hok (uX5_in Sc Γ n V a1 (nI 0) (nI 2000) 0 2001 (by decide) (by decide)) (Nat.zero_le _) (Nat.zero_le _) (Nat.le_of_ble_eq_true rfl) (Nat.le_of_ble_eq_true rfl) (Nat.le_of_ble_eq_true rfl) rfl (fun v h F hp hok => ?_) (fun x h F hp hok => by obtain ⟨-, y, e, -⟩ := hp; cases e)
  obtain ⟨rfl, y, e, ⟨rfl, g0⟩ | ⟨rfl, g0⟩⟩ := hp
  ·
    obtain rfl := Sum.inl.inj e
    obtain ⟨j595, hj595, rfl⟩ := inZ.nat g0 (by first | decide | omega)
    refine q_if_eq (tgt := 16) dX5_tick_9 (by decide) (fun q => absurd q (by decide)) (fun _ => ?_)
    refine q_iconst (v := nI 0) dX5_tick_12 rfl ?_
    refine q_goto (tgt := 17) dX5_tick_13 (by decide) ?_
    refine v_puti 0 kX5 (by decide) wPX5_66 rfl dX5_tick_17 hok H.1 rfl ⟨rfl, rfl⟩ (fun h hok => ?_)
    refine q_aload_n dX5_tick_20 rfl ?_
    refine v_getv 0 (x := nI 0) vs_at kX5 (by decide) wPX5_66 dX5_tick_21 hok H.1 rfl ?_
    refine q_if_le (tgt := 29) dX5_tick_24 (by decide) (fun _ => ?_) (fun q => absurd q (by decide))
    refine kX5_tick Sc Γ n ((vset V o 0 (nI 0))) o ml H hm1 hml j595 (by omega) b hb (hS.vs (Or.inr (by decide))) (fun O h' eO hk => ?_) hok
    simp only [nn_nI (show j595 < 2 ^ 31 by omega)]
    exact ⟨_, Or.inr (Or.inr ⟨g0, trivial, eO, rfl⟩), hk, by trivial⟩
  ·
    obtain rfl := Sum.inl.inj e
    refine q_if_eq (tgt := 16) dX5_tick_9 (by decide) (fun _ => ?_) (fun q => absurd q (by decide))
    refine q_iconst (v := nI 1) dX5_tick_16 rfl ?_
    refine v_puti 0 kX5 (by decide) wPX5_66 rfl dX5_tick_17 hok H.1 rfl ⟨rfl, rfl⟩ (fun h hok => ?_)
    refine q_aload_n dX5_tick_20 rfl ?_
    refine v_getv 0 (x := nI 1) vs_at kX5 (by decide) wPX5_66 dX5_tick_21 hok H.1 rfl ?_
    refine q_if_le (tgt := 29) dX5_tick_24 (by decide) (fun q => absurd q (by decide)) (fun _ => ?_)
    refine q_iconst (v := nI 0) dX5_tick_27 rfl ?_
    exact q_iret dX5_tick_28 rfl (rfl) ⟨_, Or.inl ⟨(fun q => g0 q), rfl, rfl⟩, hok, rfl⟩
set_option maxRecDepth 20000 in
set_option maxHeartbeats 4000000 in
theorem pX5_member (Sc : q_S) (Γ : Nat → q_K) (n : Nat) (V : q_V) (o ml : Nat) (H : sM Γ o ml) (hm1 : 1 ≤ ml) (hml : ml ≤ 4) (a1 : Int32) (a2 : Int32) (a3 : Int32) (a4 : Int32) (b4 : q_bl a4) (a5 : Int32) (b : Nat) (hb : b + 4 ≤ 2000000000) (hS : SB V o b) : q_fp Sc Γ mX5_member [.ref o, .int (a1), .int (a2), .int (a3), .int (a4), .int (a5)] n 0 0 V (q_mub (inZ a1 0 ((ml : Int)) ∧ inZ a2 0 6 ∧ inZ a3 0 8) (inZ a5 0 65536) V o (vX5_member o ml (nn a1) (nn a2) (nn a3) a4 a5 (vset V o 0 (nI 0))) (fX5_member o ml (nn a1) (nn a2) (nn a3) a4 a5 (vset V o 0 (nI 0)))) := by
  intro h hok
  show q_A Sc mX5_member 0 [.ref o, .int (a1), .int (a2), .int (a3), .int (a4), .int (a5), .retAddr 0, .retAddr 0, .retAddr 0, .retAddr 0, .retAddr 0, .retAddr 0, .retAddr 0] [] h n 0 0 (fun O h' n' => ∃ F, (q_mub (inZ a1 0 ((ml : Int)) ∧ inZ a2 0 6 ∧ inZ a3 0 8) (inZ a5 0 65536) V o (vX5_member o ml (nn a1) (nn a2) (nn a3) a4 a5 (vset V o 0 (nI 0))) (fX5_member o ml (nn a1) (nn a2) (nn a3) a4 a5 (vset V o 0 (nI 0)))) O F ∧ q_ok (gX Γ F) h' ∧ n' = n)
  refine q_aload_n dX5_member_0 rfl ?_
  refine q_aload_n dX5_member_1 rfl ?_
  refine q_iload_n dX5_member_2 rfl ?_
  refine w_callV (M' := mX5_isLink) [.int (a1)] [.ref o] kX5 dX5_member_3 wPX5_117v wIX5_isLink wSX5_isLink iX5_isLink oX5_isLink rfl hok H.1 (uX5_isLink Sc Γ n V o ml H hm1 hml a1) (Nat.zero_le _) (Nat.zero_le _) (Nat.le_of_ble_eq_true rfl) (Nat.le_of_ble_eq_true rfl) (Nat.le_of_ble_eq_true rfl) rfl (fun v h F hp hok => ?_) (fun x h F hp hok => by obtain ⟨-, y, e, -⟩ := hp; cases e)
  obtain ⟨rfl, y, e, ⟨rfl, g0⟩ | ⟨rfl, g0⟩⟩ := hp
  ·
    obtain rfl := Sum.inl.inj e
    obtain ⟨j598, hj598, rfl⟩ := inZ.nat g0 (by first | decide | omega)
    refine q_if_eq (tgt := 28) dX5_member_6 (by decide) (fun q => absurd q (by decide)) (fun _ => ?_)
    refine q_iload_n dX5_member_9 rfl ?_
    refine q_iconst (v := nI 0) dX5_member_10 rfl ?_
    refine q_iconst (v := nI 5) dX5_member_11 rfl ?_
    refine w_callS (M' := mX5_in) [.int (a2), .int (nI 0), .int (nI 5)] [.ref o] dX5_member_12 wPX5_120 wTX5_in wNX5 iX5_in oX5_in rfl hok (uX5_in Sc Γ n V a2 (nI 0) (nI 5) 0 6 (by decide) (by decide)) (Nat.zero_le _) (Nat.zero_le _) (Nat.le_of_ble_eq_true rfl) (Nat.le_of_ble_eq_true rfl) (Nat.le_of_ble_eq_true rfl) rfl (fun v h F hp hok => ?_) (fun x h F hp hok => by obtain ⟨-, y, e, -⟩ := hp; cases e)
    obtain ⟨rfl, y, e, ⟨rfl, g1⟩ | ⟨rfl, g1⟩⟩ := hp
    ·
      obtain rfl := Sum.inl.inj e
      obtain ⟨j599, hj599, rfl⟩ := inZ.nat g1 (by first | decide | omega)
      refine q_if_eq (tgt := 28) dX5_member_15 (by decide) (fun q => absurd q (by decide)) (fun _ => ?_)
      refine q_iload_n dX5_member_18 rfl ?_
      refine q_iconst (v := nI 0) dX5_member_19 rfl ?_
      refine q_bipush (v := nI 7) dX5_member_20 rfl ?_
      refine w_callS (M' := mX5_in) [.int (a3), .int (nI 0), .int (nI 7)] [.ref o] dX5_member_22 wPX5_120 wTX5_in wNX5 iX5_in oX5_in rfl hok (uX5_in Sc Γ n V a3 (nI 0) (nI 7) 0 8 (by decide) (by decide)) (Nat.zero_le _) (Nat.zero_le _) (Nat.le_of_ble_eq_true rfl) (Nat.le_of_ble_eq_true rfl) (Nat.le_of_ble_eq_true rfl) rfl (fun v h F hp hok => ?_) (fun x h F hp hok => by obtain ⟨-, y, e, -⟩ := hp; cases e)
      obtain ⟨rfl, y, e, ⟨rfl, g2⟩ | ⟨rfl, g2⟩⟩ := hp
      ·
        obtain rfl := Sum.inl.inj e
        obtain ⟨j600, hj600, rfl⟩ := inZ.nat g2 (by first | decide | omega)
        refine q_if_ne (tgt := 32) dX5_member_25 (by decide) (fun _ => ?_) (fun q => absurd q (by decide))
        refine q_iload dX5_member_32 rfl ?_
        refine q_iconst (v := nI 0) dX5_member_34 rfl ?_
        refine q_ldc dX5_member_35 wPX5_124 ?_
        refine w_callS (M' := mX5_in) [.int (a5), .int (nI 0), .int (65535)] [.ref o] dX5_member_37 wPX5_120 wTX5_in wNX5 iX5_in oX5_in rfl hok (uX5_in Sc Γ n V a5 (nI 0) 65535 0 65536 (by decide) (by decide)) (Nat.zero_le _) (Nat.zero_le _) (Nat.le_of_ble_eq_true rfl) (Nat.le_of_ble_eq_true rfl) (Nat.le_of_ble_eq_true rfl) rfl (fun v h F hp hok => ?_) (fun x h F hp hok => by obtain ⟨-, y, e, -⟩ := hp; cases e)
        obtain ⟨rfl, y, e, ⟨rfl, g3⟩ | ⟨rfl, g3⟩⟩ := hp
        ·
          obtain rfl := Sum.inl.inj e
          refine q_if_eq (tgt := 47) dX5_member_40 (by decide) (fun q => absurd q (by decide)) (fun _ => ?_)
          refine q_iconst (v := nI 0) dX5_member_43 rfl ?_
          refine q_goto (tgt := 48) dX5_member_44 (by decide) ?_
          refine v_puti 0 kX5 (by decide) wPX5_66 rfl dX5_member_48 hok H.1 rfl ⟨rfl, rfl⟩ (fun h hok => ?_)
          refine q_aload_n dX5_member_51 rfl ?_
          refine v_getv 0 (x := nI 0) vs_at kX5 (by decide) wPX5_66 dX5_member_52 hok H.1 rfl ?_
          refine q_if_le (tgt := 60) dX5_member_55 (by decide) (fun _ => ?_) (fun q => absurd q (by decide))
          refine kX5_member Sc Γ n ((vset V o 0 (nI 0))) o ml H hm1 hml j598 (by omega) j599 (by omega) j600 (by omega) a4 (b4) a5 b hb (hS.vs (Or.inr (by decide))) (fun O h' eO hk => ?_) hok
          simp only [nn_nI (show j598 < 2 ^ 31 by omega), nn_nI (show j599 < 2 ^ 31 by omega), nn_nI (show j600 < 2 ^ 31 by omega)]
          exact ⟨_, Or.inr (Or.inr ⟨⟨g0, g1, g2⟩, g3, eO, rfl⟩), hk, by trivial⟩
        ·
          obtain rfl := Sum.inl.inj e
          refine q_if_eq (tgt := 47) dX5_member_40 (by decide) (fun _ => ?_) (fun q => absurd q (by decide))
          refine q_iconst (v := nI 2) dX5_member_47 rfl ?_
          refine v_puti 0 kX5 (by decide) wPX5_66 rfl dX5_member_48 hok H.1 rfl ⟨rfl, rfl⟩ (fun h hok => ?_)
          refine q_aload_n dX5_member_51 rfl ?_
          refine v_getv 0 (x := nI 2) vs_at kX5 (by decide) wPX5_66 dX5_member_52 hok H.1 rfl ?_
          refine q_if_le (tgt := 60) dX5_member_55 (by decide) (fun q => absurd q (by decide)) (fun _ => ?_)
          refine q_iconst (v := nI 0) dX5_member_58 rfl ?_
          exact q_iret dX5_member_59 rfl (rfl) ⟨_, Or.inr (Or.inl ⟨⟨g0, g1, g2⟩, (fun q => g3 q), rfl, rfl⟩), hok, rfl⟩
      ·
        obtain rfl := Sum.inl.inj e
        refine q_if_ne (tgt := 32) dX5_member_25 (by decide) (fun q => absurd q (by decide)) (fun _ => ?_)
        refine q_iconst (v := nI 1) dX5_member_28 rfl ?_
        refine q_goto (tgt := 48) dX5_member_29 (by decide) ?_
        refine v_puti 0 kX5 (by decide) wPX5_66 rfl dX5_member_48 hok H.1 rfl ⟨rfl, rfl⟩ (fun h hok => ?_)
        refine q_aload_n dX5_member_51 rfl ?_
        refine v_getv 0 (x := nI 1) vs_at kX5 (by decide) wPX5_66 dX5_member_52 hok H.1 rfl ?_
        refine q_if_le (tgt := 60) dX5_member_55 (by decide) (fun q => absurd q (by decide)) (fun _ => ?_)
        refine q_iconst (v := nI 0) dX5_member_58 rfl ?_
        exact q_iret dX5_member_59 rfl (rfl) ⟨_, Or.inl ⟨(fun q => g2 q.2.2), rfl, rfl⟩, hok, rfl⟩
    ·
      obtain rfl := Sum.inl.inj e
      refine q_if_eq (tgt := 28) dX5_member_15 (by decide) (fun _ => ?_) (fun q => absurd q (by decide))
      refine q_iconst (v := nI 1) dX5_member_28 rfl ?_
      refine q_goto (tgt := 48) dX5_member_29 (by decide) ?_
      refine v_puti 0 kX5 (by decide) wPX5_66 rfl dX5_member_48 hok H.1 rfl ⟨rfl, rfl⟩ (fun h hok => ?_)
      refine q_aload_n dX5_member_51 rfl ?_
      refine v_getv 0 (x := nI 1) vs_at kX5 (by decide) wPX5_66 dX5_member_52 hok H.1 rfl ?_
      refine q_if_le (tgt := 60) dX5_member_55 (by decide) (fun q => absurd q (by decide)) (fun _ => ?_)
      refine q_iconst (v := nI 0) dX5_member_58 rfl ?_
      exact q_iret dX5_member_59 rfl (rfl) ⟨_, Or.inl ⟨(fun q => g1 q.2.1), rfl, rfl⟩, hok, rfl⟩
  ·
    obtain rfl := Sum.inl.inj e
    refine q_if_eq (tgt := 28) dX5_member_6 (by decide) (fun _ => ?_) (fun q => absurd q (by decide))
    refine q_iconst (v := nI 1) dX5_member_28 rfl ?_
    refine q_goto (tgt := 48) dX5_member_29 (by decide) ?_
    refine v_puti 0 kX5 (by decide) wPX5_66 rfl dX5_member_48 hok H.1 rfl ⟨rfl, rfl⟩ (fun h hok => ?_)
    refine q_aload_n dX5_member_51 rfl ?_
    refine v_getv 0 (x := nI 1) vs_at kX5 (by decide) wPX5_66 dX5_member_52 hok H.1 rfl ?_
    refine q_if_le (tgt := 60) dX5_member_55 (by decide) (fun q => absurd q (by decide)) (fun _ => ?_)
    refine q_iconst (v := nI 0) dX5_member_58 rfl ?_
    exact q_iret dX5_member_59 rfl (rfl) ⟨_, Or.inl ⟨(fun q => g0 q.1), rfl, rfl⟩, hok, rfl⟩
set_option maxRecDepth 20000 in
set_option maxHeartbeats 4000000 in
theorem pX5_answer (Sc : q_S) (Γ : Nat → q_K) (n : Nat) (V : q_V) (o ml : Nat) (H : sM Γ o ml) (hm1 : 1 ≤ ml) (hml : ml ≤ 4) (a1 : Int32) (a2 : Int32) (b : Nat) (hb : b + 16 ≤ 2000000000) (hS : SB V o b) : q_fp Sc Γ mX5_answer [.ref o, .int (a1), .int (a2)] n 0 0 V (q_mub (inZ a1 0 ((ml : Int)) ∧ inZ a2 0 6) (True) V o (vX5_answer o ml (nn a1) (nn a2) (vset V o 0 (nI 0))) (fX5_answer o ml (nn a1) (nn a2) (vset V o 0 (nI 0)))) := by
  intro h hok
  show q_A Sc mX5_answer 0 [.ref o, .int (a1), .int (a2), .retAddr 0, .retAddr 0, .retAddr 0, .retAddr 0] [] h n 0 0 (fun O h' n' => ∃ F, (q_mub (inZ a1 0 ((ml : Int)) ∧ inZ a2 0 6) (True) V o (vX5_answer o ml (nn a1) (nn a2) (vset V o 0 (nI 0))) (fX5_answer o ml (nn a1) (nn a2) (vset V o 0 (nI 0)))) O F ∧ q_ok (gX Γ F) h' ∧ n' = n)
  refine q_aload_n dX5_answer_0 rfl ?_
  refine q_aload_n dX5_answer_1 rfl ?_
  refine q_iload_n dX5_answer_2 rfl ?_
  refine w_callV (M' := mX5_isLink) [.int (a1)] [.ref o] kX5 dX5_answer_3 wPX5_117v wIX5_isLink wSX5_isLink iX5_isLink oX5_isLink rfl hok H.1 (uX5_isLink Sc Γ n V o ml H hm1 hml a1) (Nat.zero_le _) (Nat.zero_le _) (Nat.le_of_ble_eq_true rfl) (Nat.le_of_ble_eq_true rfl) (Nat.le_of_ble_eq_true rfl) rfl (fun v h F hp hok => ?_) (fun x h F hp hok => by obtain ⟨-, y, e, -⟩ := hp; cases e)
  obtain ⟨rfl, y, e, ⟨rfl, g0⟩ | ⟨rfl, g0⟩⟩ := hp
  ·
    obtain rfl := Sum.inl.inj e
    obtain ⟨j606, hj606, rfl⟩ := inZ.nat g0 (by first | decide | omega)
    refine q_if_eq (tgt := 22) dX5_answer_6 (by decide) (fun q => absurd q (by decide)) (fun _ => ?_)
    refine q_iload_n dX5_answer_9 rfl ?_
    refine q_iconst (v := nI 0) dX5_answer_10 rfl ?_
    refine q_iconst (v := nI 5) dX5_answer_11 rfl ?_
    refine w_callS (M' := mX5_in) [.int (a2), .int (nI 0), .int (nI 5)] [.ref o] dX5_answer_12 wPX5_120 wTX5_in wNX5 iX5_in oX5_in rfl hok (uX5_in Sc Γ n V a2 (nI 0) (nI 5) 0 6 (by decide) (by decide)) (Nat.zero_le _) (Nat.zero_le _) (Nat.le_of_ble_eq_true rfl) (Nat.le_of_ble_eq_true rfl) (Nat.le_of_ble_eq_true rfl) rfl (fun v h F hp hok => ?_) (fun x h F hp hok => by obtain ⟨-, y, e, -⟩ := hp; cases e)
    obtain ⟨rfl, y, e, ⟨rfl, g1⟩ | ⟨rfl, g1⟩⟩ := hp
    ·
      obtain rfl := Sum.inl.inj e
      obtain ⟨j607, hj607, rfl⟩ := inZ.nat g1 (by first | decide | omega)
      refine q_if_eq (tgt := 22) dX5_answer_15 (by decide) (fun q => absurd q (by decide)) (fun _ => ?_)
      refine q_iconst (v := nI 0) dX5_answer_18 rfl ?_
      refine q_goto (tgt := 23) dX5_answer_19 (by decide) ?_
      refine v_puti 0 kX5 (by decide) wPX5_66 rfl dX5_answer_23 hok H.1 rfl ⟨rfl, rfl⟩ (fun h hok => ?_)
      refine q_aload_n dX5_answer_26 rfl ?_
      refine v_getv 0 (x := nI 0) vs_at kX5 (by decide) wPX5_66 dX5_answer_27 hok H.1 rfl ?_
      refine q_if_le (tgt := 35) dX5_answer_30 (by decide) (fun _ => ?_) (fun q => absurd q (by decide))
      refine kX5_answer Sc Γ n ((vset V o 0 (nI 0))) o ml H hm1 hml j606 (by omega) j607 (by omega) b hb (hS.vs (Or.inr (by decide))) (fun O h' eO hk => ?_) hok
      simp only [nn_nI (show j606 < 2 ^ 31 by omega), nn_nI (show j607 < 2 ^ 31 by omega)]
      exact ⟨_, Or.inr (Or.inr ⟨⟨g0, g1⟩, trivial, eO, rfl⟩), hk, by trivial⟩
    ·
      obtain rfl := Sum.inl.inj e
      refine q_if_eq (tgt := 22) dX5_answer_15 (by decide) (fun _ => ?_) (fun q => absurd q (by decide))
      refine q_iconst (v := nI 1) dX5_answer_22 rfl ?_
      refine v_puti 0 kX5 (by decide) wPX5_66 rfl dX5_answer_23 hok H.1 rfl ⟨rfl, rfl⟩ (fun h hok => ?_)
      refine q_aload_n dX5_answer_26 rfl ?_
      refine v_getv 0 (x := nI 1) vs_at kX5 (by decide) wPX5_66 dX5_answer_27 hok H.1 rfl ?_
      refine q_if_le (tgt := 35) dX5_answer_30 (by decide) (fun q => absurd q (by decide)) (fun _ => ?_)
      refine q_iconst (v := nI 0) dX5_answer_33 rfl ?_
      exact q_iret dX5_answer_34 rfl (rfl) ⟨_, Or.inl ⟨(fun q => g1 q.2), rfl, rfl⟩, hok, rfl⟩
  ·
    obtain rfl := Sum.inl.inj e
    refine q_if_eq (tgt := 22) dX5_answer_6 (by decide) (fun _ => ?_) (fun q => absurd q (by decide))
    refine q_iconst (v := nI 1) dX5_answer_22 rfl ?_
    refine v_puti 0 kX5 (by decide) wPX5_66 rfl dX5_answer_23 hok H.1 rfl ⟨rfl, rfl⟩ (fun h hok => ?_)
    refine q_aload_n dX5_answer_26 rfl ?_
    refine v_getv 0 (x := nI 1) vs_at kX5 (by decide) wPX5_66 dX5_answer_27 hok H.1 rfl ?_
    refine q_if_le (tgt := 35) dX5_answer_30 (by decide) (fun q => absurd q (by decide)) (fun _ => ?_)
    refine q_iconst (v := nI 0) dX5_answer_33 rfl ?_
    exact q_iret dX5_answer_34 rfl (rfl) ⟨_, Or.inl ⟨(fun q => g0 q.1), rfl, rfl⟩, hok, rfl⟩
set_option maxRecDepth 20000 in
set_option maxHeartbeats 4000000 in
theorem pX5_told (Sc : q_S) (Γ : Nat → q_K) (n : Nat) (V : q_V) (o ml : Nat) (H : sM Γ o ml) (hm1 : 1 ≤ ml) (hml : ml ≤ 4) (a1 : Int32) (a2 : Int32) : q_fp Sc Γ mX5_told [.ref o, .int (a1), .int (a2)] n 0 0 V (q_mub (inZ a1 0 ((ml : Int))) (inZ a2 0 6) V o (vX5_told o ml (nn a1) (nn a2) (vset V o 0 (nI 0))) ((vset V o 0 (nI 0)))) := by
  intro h hok
  show q_A Sc mX5_told 0 [.ref o, .int (a1), .int (a2), .retAddr 0, .retAddr 0] [] h n 0 0 (fun O h' n' => ∃ F, (q_mub (inZ a1 0 ((ml : Int))) (inZ a2 0 6) V o (vX5_told o ml (nn a1) (nn a2) (vset V o 0 (nI 0))) ((vset V o 0 (nI 0)))) O F ∧ q_ok (gX Γ F) h' ∧ n' = n)
  refine q_aload_n dX5_told_0 rfl ?_
  refine q_aload_n dX5_told_1 rfl ?_
  refine q_iload_n dX5_told_2 rfl ?_
  refine w_callV (M' := mX5_isLink) [.int (a1)] [.ref o] kX5 dX5_told_3 wPX5_117v wIX5_isLink wSX5_isLink iX5_isLink oX5_isLink rfl hok H.1 (uX5_isLink Sc Γ n V o ml H hm1 hml a1) (Nat.zero_le _) (Nat.zero_le _) (Nat.le_of_ble_eq_true rfl) (Nat.le_of_ble_eq_true rfl) (Nat.le_of_ble_eq_true rfl) rfl (fun v h F hp hok => ?_) (fun x h F hp hok => by obtain ⟨-, y, e, -⟩ := hp; cases e)
  obtain ⟨rfl, y, e, ⟨rfl, g0⟩ | ⟨rfl, g0⟩⟩ := hp
  ·
    obtain rfl := Sum.inl.inj e
    obtain ⟨j611, hj611, rfl⟩ := inZ.nat g0 (by first | decide | omega)
    refine q_if_ne (tgt := 13) dX5_told_6 (by decide) (fun _ => ?_) (fun q => absurd q (by decide))
    refine q_iload_n dX5_told_13 rfl ?_
    refine q_iconst (v := nI 0) dX5_told_14 rfl ?_
    refine q_iconst (v := nI 5) dX5_told_15 rfl ?_
    refine w_callS (M' := mX5_in) [.int (a2), .int (nI 0), .int (nI 5)] [.ref o] dX5_told_16 wPX5_120 wTX5_in wNX5 iX5_in oX5_in rfl hok (uX5_in Sc Γ n V a2 (nI 0) (nI 5) 0 6 (by decide) (by decide)) (Nat.zero_le _) (Nat.zero_le _) (Nat.le_of_ble_eq_true rfl) (Nat.le_of_ble_eq_true rfl) (Nat.le_of_ble_eq_true rfl) rfl (fun v h F hp hok => ?_) (fun x h F hp hok => by obtain ⟨-, y, e, -⟩ := hp; cases e)
    obtain ⟨rfl, y, e, ⟨rfl, g1⟩ | ⟨rfl, g1⟩⟩ := hp
    ·
      obtain rfl := Sum.inl.inj e
      obtain ⟨j612, hj612, rfl⟩ := inZ.nat g1 (by first | decide | omega)
      refine q_if_eq (tgt := 26) dX5_told_19 (by decide) (fun q => absurd q (by decide)) (fun _ => ?_)
      refine q_iconst (v := nI 0) dX5_told_22 rfl ?_
      refine q_goto (tgt := 27) dX5_told_23 (by decide) ?_
      refine v_puti 0 kX5 (by decide) wPX5_66 rfl dX5_told_27 hok H.1 rfl ⟨rfl, rfl⟩ (fun h hok => ?_)
      refine q_aload_n dX5_told_30 rfl ?_
      refine v_getv 0 (x := nI 0) vs_at kX5 (by decide) wPX5_66 dX5_told_31 hok H.1 rfl ?_
      refine q_if_le (tgt := 39) dX5_told_34 (by decide) (fun _ => ?_) (fun q => absurd q (by decide))
      rcases (show j612 = 0 ∨ j612 = 1 ∨ j612 = 2 ∨ j612 = 3 ∨ j612 = 4 ∨ j612 = 5 by omega) with rfl | rfl | rfl | rfl | rfl | rfl
      ·
        refine kX5_told_0 Sc Γ n ((vset V o 0 (nI 0))) o ml H hm1 hml j611 (by omega) (fun O h' eO hk => ?_) hok
        simp only [nn_nI (show j611 < 2 ^ 31 by omega), show nn (nI 0) = 0 from rfl]
        exact ⟨_, Or.inr (Or.inr ⟨g0, g1, eO, rfl⟩), hk, by trivial⟩
      ·
        refine kX5_told_1 Sc Γ n ((vset V o 0 (nI 0))) o ml H hm1 hml j611 (by omega) (fun O h' eO hk => ?_) hok
        simp only [nn_nI (show j611 < 2 ^ 31 by omega), show nn (nI 1) = 1 from rfl]
        exact ⟨_, Or.inr (Or.inr ⟨g0, g1, eO, rfl⟩), hk, by trivial⟩
      ·
        refine kX5_told_2 Sc Γ n ((vset V o 0 (nI 0))) o ml H hm1 hml j611 (by omega) (fun O h' eO hk => ?_) hok
        simp only [nn_nI (show j611 < 2 ^ 31 by omega), show nn (nI 2) = 2 from rfl]
        exact ⟨_, Or.inr (Or.inr ⟨g0, g1, eO, rfl⟩), hk, by trivial⟩
      ·
        refine kX5_told_3 Sc Γ n ((vset V o 0 (nI 0))) o ml H hm1 hml j611 (by omega) (fun O h' eO hk => ?_) hok
        simp only [nn_nI (show j611 < 2 ^ 31 by omega), show nn (nI 3) = 3 from rfl]
        exact ⟨_, Or.inr (Or.inr ⟨g0, g1, eO, rfl⟩), hk, by trivial⟩
      ·
        refine kX5_told_4 Sc Γ n ((vset V o 0 (nI 0))) o ml H hm1 hml j611 (by omega) (fun O h' eO hk => ?_) hok
        simp only [nn_nI (show j611 < 2 ^ 31 by omega), show nn (nI 4) = 4 from rfl]
        exact ⟨_, Or.inr (Or.inr ⟨g0, g1, eO, rfl⟩), hk, by trivial⟩
      ·
        refine kX5_told_5 Sc Γ n ((vset V o 0 (nI 0))) o ml H hm1 hml j611 (by omega) (fun O h' eO hk => ?_) hok
        simp only [nn_nI (show j611 < 2 ^ 31 by omega), show nn (nI 5) = 5 from rfl]
        exact ⟨_, Or.inr (Or.inr ⟨g0, g1, eO, rfl⟩), hk, by trivial⟩
    ·
      obtain rfl := Sum.inl.inj e
      refine q_if_eq (tgt := 26) dX5_told_19 (by decide) (fun _ => ?_) (fun q => absurd q (by decide))
      refine q_iconst (v := nI 2) dX5_told_26 rfl ?_
      refine v_puti 0 kX5 (by decide) wPX5_66 rfl dX5_told_27 hok H.1 rfl ⟨rfl, rfl⟩ (fun h hok => ?_)
      refine q_aload_n dX5_told_30 rfl ?_
      refine v_getv 0 (x := nI 2) vs_at kX5 (by decide) wPX5_66 dX5_told_31 hok H.1 rfl ?_
      refine q_if_le (tgt := 39) dX5_told_34 (by decide) (fun q => absurd q (by decide)) (fun _ => ?_)
      refine q_iconst (v := nI 0) dX5_told_37 rfl ?_
      exact q_iret dX5_told_38 rfl (rfl) ⟨_, Or.inr (Or.inl ⟨g0, (fun q => g1 q), rfl, rfl⟩), hok, rfl⟩
  ·
    obtain rfl := Sum.inl.inj e
    refine q_if_ne (tgt := 13) dX5_told_6 (by decide) (fun q => absurd q (by decide)) (fun _ => ?_)
    refine q_iconst (v := nI 1) dX5_told_9 rfl ?_
    refine q_goto (tgt := 27) dX5_told_10 (by decide) ?_
    refine v_puti 0 kX5 (by decide) wPX5_66 rfl dX5_told_27 hok H.1 rfl ⟨rfl, rfl⟩ (fun h hok => ?_)
    refine q_aload_n dX5_told_30 rfl ?_
    refine v_getv 0 (x := nI 1) vs_at kX5 (by decide) wPX5_66 dX5_told_31 hok H.1 rfl ?_
    refine q_if_le (tgt := 39) dX5_told_34 (by decide) (fun q => absurd q (by decide)) (fun _ => ?_)
    refine q_iconst (v := nI 0) dX5_told_37 rfl ?_
    exact q_iret dX5_told_38 rfl (rfl) ⟨_, Or.inl ⟨(fun q => g0 q), rfl, rfl⟩, hok, rfl⟩
set_option maxRecDepth 20000 in
set_option maxHeartbeats 4000000 in
theorem pX5_query (Sc : q_S) (Γ : Nat → q_K) (n : Nat) (V : q_V) (o ml : Nat) (H : sM Γ o ml) (hm1 : 1 ≤ ml) (hml : ml ≤ 4) (a1 : Int32) (a2 : Int32) (a3 : Int32) (a4 : Int32) (a5 : Int32) (b5 : q_bl a5) : q_fp Sc Γ mX5_query [.ref o, .int (a1), .int (a2), .int (a3), .int (a4), .int (a5)] n 0 0 V (q_muq (inZ a1 0 ((ml : Int)) ∧ inZ a3 (-1) 8 ∧ inZ a2 0 1000 ∧ inZ a4 0 65536) V o (if a3 = -1 then vX5_query_n o ml (nn a1) a2 a4 a5 (vset V o 0 (nI 0)) else vX5_query_g o ml (nn a1) a2 (nn a3) a4 a5 (vset V o 0 (nI 0))) (if a3 = -1 then fX5_query_n o ml (nn a1) a2 a4 a5 (vset V o 0 (nI 0)) else fX5_query_g o ml (nn a1) a2 (nn a3) a4 a5 (vset V o 0 (nI 0)))) := by
  intro h hok
  show q_A Sc mX5_query 0 [.ref o, .int (a1), .int (a2), .int (a3), .int (a4), .int (a5)] [] h n 0 0 (fun O h' n' => ∃ F, (q_muq (inZ a1 0 ((ml : Int)) ∧ inZ a3 (-1) 8 ∧ inZ a2 0 1000 ∧ inZ a4 0 65536) V o (if a3 = -1 then vX5_query_n o ml (nn a1) a2 a4 a5 (vset V o 0 (nI 0)) else vX5_query_g o ml (nn a1) a2 (nn a3) a4 a5 (vset V o 0 (nI 0))) (if a3 = -1 then fX5_query_n o ml (nn a1) a2 a4 a5 (vset V o 0 (nI 0)) else fX5_query_g o ml (nn a1) a2 (nn a3) a4 a5 (vset V o 0 (nI 0)))) O F ∧ q_ok (gX Γ F) h' ∧ n' = n)
  refine q_aload_n dX5_query_0 rfl ?_
  refine q_aload_n dX5_query_1 rfl ?_
  refine q_iload_n dX5_query_2 rfl ?_
  refine w_callV (M' := mX5_isLink) [.int (a1)] [.ref o] kX5 dX5_query_3 wPX5_117v wIX5_isLink wSX5_isLink iX5_isLink oX5_isLink rfl hok H.1 (uX5_isLink Sc Γ n V o ml H hm1 hml a1) (Nat.zero_le _) (Nat.zero_le _) (Nat.le_of_ble_eq_true rfl) (Nat.le_of_ble_eq_true rfl) (Nat.le_of_ble_eq_true rfl) rfl (fun v h F hp hok => ?_) (fun x h F hp hok => by obtain ⟨-, y, e, -⟩ := hp; cases e)
  obtain ⟨rfl, y, e, ⟨rfl, g0⟩ | ⟨rfl, g0⟩⟩ := hp
  ·
    obtain rfl := Sum.inl.inj e
    obtain ⟨j616, hj616, rfl⟩ := inZ.nat g0 (by first | decide | omega)
    refine q_if_eq (tgt := 19) dX5_query_6 (by decide) (fun q => absurd q (by decide)) (fun _ => ?_)
    refine q_iload_n dX5_query_9 rfl ?_
    refine q_iconst (v := -1) dX5_query_10 rfl ?_
    refine q_bipush (v := nI 7) dX5_query_11 rfl ?_
    refine w_callS (M' := mX5_in) [.int (a3), .int (-1), .int (nI 7)] [.ref o] dX5_query_13 wPX5_120 wTX5_in wNX5 iX5_in oX5_in rfl hok (uX5_in Sc Γ n V a3 (-1) (nI 7) (-1) 8 (by decide) (by decide)) (Nat.zero_le _) (Nat.zero_le _) (Nat.le_of_ble_eq_true rfl) (Nat.le_of_ble_eq_true rfl) (Nat.le_of_ble_eq_true rfl) rfl (fun v h F hp hok => ?_) (fun x h F hp hok => by obtain ⟨-, y, e, -⟩ := hp; cases e)
    obtain ⟨rfl, y, e, ⟨rfl, g1⟩ | ⟨rfl, g1⟩⟩ := hp
    ·
      obtain rfl := Sum.inl.inj e
      rcases inZ.m g1 with rfl | ⟨j617, hj617, rfl⟩
      ·
        refine q_if_ne (tgt := 23) dX5_query_16 (by decide) (fun _ => ?_) (fun q => absurd q (by decide))
        refine q_iload_n dX5_query_23 rfl ?_
        refine q_iconst (v := nI 0) dX5_query_24 rfl ?_
        refine q_sipush (v := nI 999) dX5_query_25 rfl ?_
        refine w_callS (M' := mX5_in) [.int (a2), .int (nI 0), .int (nI 999)] [.ref o] dX5_query_28 wPX5_120 wTX5_in wNX5 iX5_in oX5_in rfl hok (uX5_in Sc Γ n V a2 (nI 0) (nI 999) 0 1000 (by decide) (by decide)) (Nat.zero_le _) (Nat.zero_le _) (Nat.le_of_ble_eq_true rfl) (Nat.le_of_ble_eq_true rfl) (Nat.le_of_ble_eq_true rfl) rfl (fun v h F hp hok => ?_) (fun x h F hp hok => by obtain ⟨-, y, e, -⟩ := hp; cases e)
        obtain ⟨rfl, y, e, ⟨rfl, g2⟩ | ⟨rfl, g2⟩⟩ := hp
        ·
          obtain rfl := Sum.inl.inj e
          refine q_if_eq (tgt := 49) dX5_query_31 (by decide) (fun q => absurd q (by decide)) (fun _ => ?_)
          refine q_iload dX5_query_34 rfl ?_
          refine q_iconst (v := nI 0) dX5_query_36 rfl ?_
          refine q_ldc dX5_query_37 wPX5_124 ?_
          refine w_callS (M' := mX5_in) [.int (a4), .int (nI 0), .int (65535)] [.ref o] dX5_query_39 wPX5_120 wTX5_in wNX5 iX5_in oX5_in rfl hok (uX5_in Sc Γ n V a4 (nI 0) 65535 0 65536 (by decide) (by decide)) (Nat.zero_le _) (Nat.zero_le _) (Nat.le_of_ble_eq_true rfl) (Nat.le_of_ble_eq_true rfl) (Nat.le_of_ble_eq_true rfl) rfl (fun v h F hp hok => ?_) (fun x h F hp hok => by obtain ⟨-, y, e, -⟩ := hp; cases e)
          obtain ⟨rfl, y, e, ⟨rfl, g3⟩ | ⟨rfl, g3⟩⟩ := hp
          ·
            obtain rfl := Sum.inl.inj e
            refine q_if_eq (tgt := 49) dX5_query_42 (by decide) (fun q => absurd q (by decide)) (fun _ => ?_)
            refine q_iconst (v := nI 0) dX5_query_45 rfl ?_
            refine q_goto (tgt := 50) dX5_query_46 (by decide) ?_
            refine v_puti 0 kX5 (by decide) wPX5_66 rfl dX5_query_50 hok H.1 rfl ⟨rfl, rfl⟩ (fun h hok => ?_)
            refine q_aload_n dX5_query_53 rfl ?_
            refine v_getv 0 (x := nI 0) vs_at kX5 (by decide) wPX5_66 dX5_query_54 hok H.1 rfl ?_
            refine q_if_le (tgt := 62) dX5_query_57 (by decide) (fun _ => ?_) (fun q => absurd q (by decide))
            refine kX5_query_n Sc Γ n ((vset V o 0 (nI 0))) o ml H hm1 hml j616 (by omega) a2 a4 a5 (b5) (fun O h' eO hk => ?_) hok
            simp only [nn_nI (show j616 < 2 ^ 31 by omega), if_pos (show (-1 : Int32) = -1 from rfl)]
            exact ⟨_, Or.inr ⟨⟨g0, g1, g2, g3⟩, eO, rfl⟩, hk, by trivial⟩
          ·
            obtain rfl := Sum.inl.inj e
            refine q_if_eq (tgt := 49) dX5_query_42 (by decide) (fun _ => ?_) (fun q => absurd q (by decide))
            refine q_iconst (v := nI 2) dX5_query_49 rfl ?_
            refine v_puti 0 kX5 (by decide) wPX5_66 rfl dX5_query_50 hok H.1 rfl ⟨rfl, rfl⟩ (fun h hok => ?_)
            refine q_aload_n dX5_query_53 rfl ?_
            refine v_getv 0 (x := nI 2) vs_at kX5 (by decide) wPX5_66 dX5_query_54 hok H.1 rfl ?_
            refine q_if_le (tgt := 62) dX5_query_57 (by decide) (fun q => absurd q (by decide)) (fun _ => ?_)
            refine q_iconst (v := nI 0) dX5_query_60 rfl ?_
            exact q_iret dX5_query_61 rfl (rfl) ⟨_, Or.inl ⟨(fun q => g3 q.2.2.2), rfl, Or.inr rfl⟩, hok, rfl⟩
        ·
          obtain rfl := Sum.inl.inj e
          refine q_if_eq (tgt := 49) dX5_query_31 (by decide) (fun _ => ?_) (fun q => absurd q (by decide))
          refine q_iconst (v := nI 2) dX5_query_49 rfl ?_
          refine v_puti 0 kX5 (by decide) wPX5_66 rfl dX5_query_50 hok H.1 rfl ⟨rfl, rfl⟩ (fun h hok => ?_)
          refine q_aload_n dX5_query_53 rfl ?_
          refine v_getv 0 (x := nI 2) vs_at kX5 (by decide) wPX5_66 dX5_query_54 hok H.1 rfl ?_
          refine q_if_le (tgt := 62) dX5_query_57 (by decide) (fun q => absurd q (by decide)) (fun _ => ?_)
          refine q_iconst (v := nI 0) dX5_query_60 rfl ?_
          exact q_iret dX5_query_61 rfl (rfl) ⟨_, Or.inl ⟨(fun q => g2 q.2.2.1), rfl, Or.inr rfl⟩, hok, rfl⟩
      ·
        refine q_if_ne (tgt := 23) dX5_query_16 (by decide) (fun _ => ?_) (fun q => absurd q (by decide))
        refine q_iload_n dX5_query_23 rfl ?_
        refine q_iconst (v := nI 0) dX5_query_24 rfl ?_
        refine q_sipush (v := nI 999) dX5_query_25 rfl ?_
        refine w_callS (M' := mX5_in) [.int (a2), .int (nI 0), .int (nI 999)] [.ref o] dX5_query_28 wPX5_120 wTX5_in wNX5 iX5_in oX5_in rfl hok (uX5_in Sc Γ n V a2 (nI 0) (nI 999) 0 1000 (by decide) (by decide)) (Nat.zero_le _) (Nat.zero_le _) (Nat.le_of_ble_eq_true rfl) (Nat.le_of_ble_eq_true rfl) (Nat.le_of_ble_eq_true rfl) rfl (fun v h F hp hok => ?_) (fun x h F hp hok => by obtain ⟨-, y, e, -⟩ := hp; cases e)
        obtain ⟨rfl, y, e, ⟨rfl, g2⟩ | ⟨rfl, g2⟩⟩ := hp
        ·
          obtain rfl := Sum.inl.inj e
          refine q_if_eq (tgt := 49) dX5_query_31 (by decide) (fun q => absurd q (by decide)) (fun _ => ?_)
          refine q_iload dX5_query_34 rfl ?_
          refine q_iconst (v := nI 0) dX5_query_36 rfl ?_
          refine q_ldc dX5_query_37 wPX5_124 ?_
          refine w_callS (M' := mX5_in) [.int (a4), .int (nI 0), .int (65535)] [.ref o] dX5_query_39 wPX5_120 wTX5_in wNX5 iX5_in oX5_in rfl hok (uX5_in Sc Γ n V a4 (nI 0) 65535 0 65536 (by decide) (by decide)) (Nat.zero_le _) (Nat.zero_le _) (Nat.le_of_ble_eq_true rfl) (Nat.le_of_ble_eq_true rfl) (Nat.le_of_ble_eq_true rfl) rfl (fun v h F hp hok => ?_) (fun x h F hp hok => by obtain ⟨-, y, e, -⟩ := hp; cases e)
          obtain ⟨rfl, y, e, ⟨rfl, g3⟩ | ⟨rfl, g3⟩⟩ := hp
          ·
            obtain rfl := Sum.inl.inj e
            refine q_if_eq (tgt := 49) dX5_query_42 (by decide) (fun q => absurd q (by decide)) (fun _ => ?_)
            refine q_iconst (v := nI 0) dX5_query_45 rfl ?_
            refine q_goto (tgt := 50) dX5_query_46 (by decide) ?_
            refine v_puti 0 kX5 (by decide) wPX5_66 rfl dX5_query_50 hok H.1 rfl ⟨rfl, rfl⟩ (fun h hok => ?_)
            refine q_aload_n dX5_query_53 rfl ?_
            refine v_getv 0 (x := nI 0) vs_at kX5 (by decide) wPX5_66 dX5_query_54 hok H.1 rfl ?_
            refine q_if_le (tgt := 62) dX5_query_57 (by decide) (fun _ => ?_) (fun q => absurd q (by decide))
            refine kX5_query_g Sc Γ n ((vset V o 0 (nI 0))) o ml H hm1 hml j616 (by omega) a2 j617 (by omega) a4 a5 (b5) (fun O h' eO hk => ?_) hok
            simp only [nn_nI (show j616 < 2 ^ 31 by omega), nn_nI (show j617 < 2 ^ 31 by omega), if_neg (nI_nm (show j617 < 2 ^ 31 by omega))]
            exact ⟨_, Or.inr ⟨⟨g0, g1, g2, g3⟩, eO, rfl⟩, hk, by trivial⟩
          ·
            obtain rfl := Sum.inl.inj e
            refine q_if_eq (tgt := 49) dX5_query_42 (by decide) (fun _ => ?_) (fun q => absurd q (by decide))
            refine q_iconst (v := nI 2) dX5_query_49 rfl ?_
            refine v_puti 0 kX5 (by decide) wPX5_66 rfl dX5_query_50 hok H.1 rfl ⟨rfl, rfl⟩ (fun h hok => ?_)
            refine q_aload_n dX5_query_53 rfl ?_
            refine v_getv 0 (x := nI 2) vs_at kX5 (by decide) wPX5_66 dX5_query_54 hok H.1 rfl ?_
            refine q_if_le (tgt := 62) dX5_query_57 (by decide) (fun q => absurd q (by decide)) (fun _ => ?_)
            refine q_iconst (v := nI 0) dX5_query_60 rfl ?_
            exact q_iret dX5_query_61 rfl (rfl) ⟨_, Or.inl ⟨(fun q => g3 q.2.2.2), rfl, Or.inr rfl⟩, hok, rfl⟩
        ·
          obtain rfl := Sum.inl.inj e
          refine q_if_eq (tgt := 49) dX5_query_31 (by decide) (fun _ => ?_) (fun q => absurd q (by decide))
          refine q_iconst (v := nI 2) dX5_query_49 rfl ?_
          refine v_puti 0 kX5 (by decide) wPX5_66 rfl dX5_query_50 hok H.1 rfl ⟨rfl, rfl⟩ (fun h hok => ?_)
          refine q_aload_n dX5_query_53 rfl ?_
          refine v_getv 0 (x := nI 2) vs_at kX5 (by decide) wPX5_66 dX5_query_54 hok H.1 rfl ?_
          refine q_if_le (tgt := 62) dX5_query_57 (by decide) (fun q => absurd q (by decide)) (fun _ => ?_)
          refine q_iconst (v := nI 0) dX5_query_60 rfl ?_
          exact q_iret dX5_query_61 rfl (rfl) ⟨_, Or.inl ⟨(fun q => g2 q.2.2.1), rfl, Or.inr rfl⟩, hok, rfl⟩
    ·
      obtain rfl := Sum.inl.inj e
      refine q_if_ne (tgt := 23) dX5_query_16 (by decide) (fun q => absurd q (by decide)) (fun _ => ?_)
      refine q_iconst (v := nI 1) dX5_query_19 rfl ?_
      refine q_goto (tgt := 50) dX5_query_20 (by decide) ?_
      refine v_puti 0 kX5 (by decide) wPX5_66 rfl dX5_query_50 hok H.1 rfl ⟨rfl, rfl⟩ (fun h hok => ?_)
      refine q_aload_n dX5_query_53 rfl ?_
      refine v_getv 0 (x := nI 1) vs_at kX5 (by decide) wPX5_66 dX5_query_54 hok H.1 rfl ?_
      refine q_if_le (tgt := 62) dX5_query_57 (by decide) (fun q => absurd q (by decide)) (fun _ => ?_)
      refine q_iconst (v := nI 0) dX5_query_60 rfl ?_
      exact q_iret dX5_query_61 rfl (rfl) ⟨_, Or.inl ⟨(fun q => g1 q.2.1), rfl, Or.inl rfl⟩, hok, rfl⟩
  ·
    obtain rfl := Sum.inl.inj e
    refine q_if_eq (tgt := 19) dX5_query_6 (by decide) (fun _ => ?_) (fun q => absurd q (by decide))
    refine q_iconst (v := nI 1) dX5_query_19 rfl ?_
    refine q_goto (tgt := 50) dX5_query_20 (by decide) ?_
    refine v_puti 0 kX5 (by decide) wPX5_66 rfl dX5_query_50 hok H.1 rfl ⟨rfl, rfl⟩ (fun h hok => ?_)
    refine q_aload_n dX5_query_53 rfl ?_
    refine v_getv 0 (x := nI 1) vs_at kX5 (by decide) wPX5_66 dX5_query_54 hok H.1 rfl ?_
    refine q_if_le (tgt := 62) dX5_query_57 (by decide) (fun q => absurd q (by decide)) (fun _ => ?_)
    refine q_iconst (v := nI 0) dX5_query_60 rfl ?_
    exact q_iret dX5_query_61 rfl (rfl) ⟨_, Or.inl ⟨(fun q => g0 q.1), rfl, Or.inl rfl⟩, hok, rfl⟩
set_option maxRecDepth 20000 in
set_option maxHeartbeats 4000000 in
theorem pX5_knows (Sc : q_S) (Γ : Nat → q_K) (n : Nat) (V : q_V) (o ml : Nat) (H : sM Γ o ml) (hm1 : 1 ≤ ml) (hml : ml ≤ 4) (a1 : Int32) (a2 : Int32) : q_fp Sc Γ mX5_knows [.ref o, .int (a1), .int (a2)] n 0 0 V (q_mub (inZ a1 0 ((ml : Int)) ∧ inZ a2 0 8) (True) V o (nI 1) (vset V o 0 (nI 0))) := by
  intro h hok
  show q_A Sc mX5_knows 0 [.ref o, .int (a1), .int (a2)] [] h n 0 0 (fun O h' n' => ∃ F, (q_mub (inZ a1 0 ((ml : Int)) ∧ inZ a2 0 8) (True) V o (nI 1) (vset V o 0 (nI 0))) O F ∧ q_ok (gX Γ F) h' ∧ n' = n)
  refine q_aload_n dX5_knows_0 rfl ?_
  refine q_aload_n dX5_knows_1 rfl ?_
  refine q_iload_n dX5_knows_2 rfl ?_
  refine w_callV (M' := mX5_isLink) [.int (a1)] [.ref o] kX5 dX5_knows_3 wPX5_117v wIX5_isLink wSX5_isLink iX5_isLink oX5_isLink rfl hok H.1 (uX5_isLink Sc Γ n V o ml H hm1 hml a1) (Nat.zero_le _) (Nat.zero_le _) (Nat.le_of_ble_eq_true rfl) (Nat.le_of_ble_eq_true rfl) (Nat.le_of_ble_eq_true rfl) rfl (fun v h F hp hok => ?_) (fun x h F hp hok => by obtain ⟨-, y, e, -⟩ := hp; cases e)
  obtain ⟨rfl, y, e, ⟨rfl, g0⟩ | ⟨rfl, g0⟩⟩ := hp
  ·
    obtain rfl := Sum.inl.inj e
    obtain ⟨j626, hj626, rfl⟩ := inZ.nat g0 (by first | decide | omega)
    refine q_if_eq (tgt := 23) dX5_knows_6 (by decide) (fun q => absurd q (by decide)) (fun _ => ?_)
    refine q_iload_n dX5_knows_9 rfl ?_
    refine q_iconst (v := nI 0) dX5_knows_10 rfl ?_
    refine q_bipush (v := nI 7) dX5_knows_11 rfl ?_
    refine w_callS (M' := mX5_in) [.int (a2), .int (nI 0), .int (nI 7)] [.ref o] dX5_knows_13 wPX5_120 wTX5_in wNX5 iX5_in oX5_in rfl hok (uX5_in Sc Γ n V a2 (nI 0) (nI 7) 0 8 (by decide) (by decide)) (Nat.zero_le _) (Nat.zero_le _) (Nat.le_of_ble_eq_true rfl) (Nat.le_of_ble_eq_true rfl) (Nat.le_of_ble_eq_true rfl) rfl (fun v h F hp hok => ?_) (fun x h F hp hok => by obtain ⟨-, y, e, -⟩ := hp; cases e)
    obtain ⟨rfl, y, e, ⟨rfl, g1⟩ | ⟨rfl, g1⟩⟩ := hp
    ·
      obtain rfl := Sum.inl.inj e
      obtain ⟨j627, hj627, rfl⟩ := inZ.nat g1 (by first | decide | omega)
      refine q_if_eq (tgt := 23) dX5_knows_16 (by decide) (fun q => absurd q (by decide)) (fun _ => ?_)
      refine q_iconst (v := nI 0) dX5_knows_19 rfl ?_
      refine q_goto (tgt := 24) dX5_knows_20 (by decide) ?_
      refine v_puti 0 kX5 (by decide) wPX5_66 rfl dX5_knows_24 hok H.1 rfl ⟨rfl, rfl⟩ (fun h hok => ?_)
      refine q_aload_n dX5_knows_27 rfl ?_
      refine v_getv 0 (x := nI 0) vs_at kX5 (by decide) wPX5_66 dX5_knows_28 hok H.1 rfl ?_
      refine q_if_ne (tgt := 38) dX5_knows_31 (by decide) (fun q => absurd q (by decide)) (fun _ => ?_)
      refine q_iconst (v := nI 1) dX5_knows_34 rfl ?_
      refine q_goto (tgt := 39) dX5_knows_35 (by decide) ?_
      refine q_iret dX5_knows_39 rfl (rfl) ?_
      simp only [nn_nI (show j626 < 2 ^ 31 by omega), nn_nI (show j627 < 2 ^ 31 by omega)]
      exact ⟨_, Or.inr (Or.inr ⟨⟨g0, g1⟩, trivial, rfl, rfl⟩), hok, by trivial⟩
    ·
      obtain rfl := Sum.inl.inj e
      refine q_if_eq (tgt := 23) dX5_knows_16 (by decide) (fun _ => ?_) (fun q => absurd q (by decide))
      refine q_iconst (v := nI 1) dX5_knows_23 rfl ?_
      refine v_puti 0 kX5 (by decide) wPX5_66 rfl dX5_knows_24 hok H.1 rfl ⟨rfl, rfl⟩ (fun h hok => ?_)
      refine q_aload_n dX5_knows_27 rfl ?_
      refine v_getv 0 (x := nI 1) vs_at kX5 (by decide) wPX5_66 dX5_knows_28 hok H.1 rfl ?_
      refine q_if_ne (tgt := 38) dX5_knows_31 (by decide) (fun _ => ?_) (fun q => absurd q (by decide))
      refine q_iconst (v := nI 0) dX5_knows_38 rfl ?_
      exact q_iret dX5_knows_39 rfl (rfl) ⟨_, Or.inl ⟨(fun q => g1 q.2), rfl, rfl⟩, hok, rfl⟩
  ·
    obtain rfl := Sum.inl.inj e
    refine q_if_eq (tgt := 23) dX5_knows_6 (by decide) (fun _ => ?_) (fun q => absurd q (by decide))
    refine q_iconst (v := nI 1) dX5_knows_23 rfl ?_
    refine v_puti 0 kX5 (by decide) wPX5_66 rfl dX5_knows_24 hok H.1 rfl ⟨rfl, rfl⟩ (fun h hok => ?_)
    refine q_aload_n dX5_knows_27 rfl ?_
    refine v_getv 0 (x := nI 1) vs_at kX5 (by decide) wPX5_66 dX5_knows_28 hok H.1 rfl ?_
    refine q_if_ne (tgt := 38) dX5_knows_31 (by decide) (fun _ => ?_) (fun q => absurd q (by decide))
    refine q_iconst (v := nI 0) dX5_knows_38 rfl ?_
    exact q_iret dX5_knows_39 rfl (rfl) ⟨_, Or.inl ⟨(fun q => g0 q.1), rfl, rfl⟩, hok, rfl⟩
set_option maxRecDepth 20000 in
set_option maxHeartbeats 4000000 in
theorem pX5_mode (Sc : q_S) (Γ : Nat → q_K) (n : Nat) (V : q_V) (o ml : Nat) (H : sM Γ o ml) (hm1 : 1 ≤ ml) (hml : ml ≤ 4) (a1 : Int32) (a2 : Int32) : q_fp Sc Γ mX5_mode [.ref o, .int (a1), .int (a2)] n 0 0 V (q_mub (inZ a1 0 ((ml : Int)) ∧ inZ a2 0 8) (True) V o ((vset V o 0 (nI 0)) (o + 7) (8 * nn a1 + nn a2)) (vset V o 0 (nI 0))) := by
  intro h hok
  show q_A Sc mX5_mode 0 [.ref o, .int (a1), .int (a2)] [] h n 0 0 (fun O h' n' => ∃ F, (q_mub (inZ a1 0 ((ml : Int)) ∧ inZ a2 0 8) (True) V o ((vset V o 0 (nI 0)) (o + 7) (8 * nn a1 + nn a2)) (vset V o 0 (nI 0))) O F ∧ q_ok (gX Γ F) h' ∧ n' = n)
  refine q_aload_n dX5_mode_0 rfl ?_
  refine q_iload_n dX5_mode_1 rfl ?_
  refine q_iload_n dX5_mode_2 rfl ?_
  refine w_callV (M' := mX5_knows) [.int (a1), .int (a2)] [] kX5 dX5_mode_3 wPX5_136v wIX5_knows wSX5_knows iX5_knows oX5_knows rfl hok H.1 (pX5_knows Sc Γ n V o ml H hm1 hml a1 a2) (Nat.zero_le _) (Nat.zero_le _) (Nat.le_of_ble_eq_true rfl) (Nat.le_of_ble_eq_true rfl) (Nat.le_of_ble_eq_true rfl) rfl (fun v h F hp hok => ?_) (fun x h F hp hok => by rcases hp with ⟨-, e, -⟩ | ⟨-, -, e, -⟩ | ⟨-, -, e, -⟩ <;> cases e)
  rcases hp with ⟨gn0, e, rfl⟩ | ⟨-, hn, -⟩ | ⟨gg, -, e, rfl⟩
  ·
    obtain rfl := Sum.inl.inj e
    refine q_if_eq (tgt := 23) dX5_mode_6 (by decide) (fun _ => ?_) (fun q => absurd q (by decide))
    refine q_iconst (v := nI 0) dX5_mode_23 rfl ?_
    exact q_iret dX5_mode_24 rfl (rfl) ⟨_, Or.inl ⟨gn0, rfl, rfl⟩, hok, rfl⟩
  · exact absurd trivial hn
  ·
    obtain rfl := Sum.inl.inj e
    obtain ⟨g0, g1⟩ := id gg
    obtain ⟨j633, hj633, rfl⟩ := inZ.nat g0 (by first | decide | omega)
    obtain ⟨j634, hj634, rfl⟩ := inZ.nat g1 (by first | decide | omega)
    refine q_if_eq (tgt := 23) dX5_mode_6 (by decide) (fun q => absurd q (by decide)) (fun _ => ?_)
    refine q_aload_n dX5_mode_9 rfl ?_
    refine v_getr 8 kX5 (by decide) wPX5_28 dX5_mode_10 hok H.1 rfl ?_
    refine q_bipush (v := nI 8) dX5_mode_13 rfl ?_
    refine q_iload_n dX5_mode_15 rfl ?_
    refine t_imul_n dX5_mode_16 ?_
    refine q_iload_n dX5_mode_17 rfl ?_
    refine t_iadd_n dX5_mode_18 ?_
    refine v_iald (by decide) dX5_mode_19 hok H.2.2.2.2.2.2.2.1 (j := (8 * j633) + j634) (by omega) ?_
    refine q_goto (tgt := 24) dX5_mode_20 (by decide) ?_
    refine q_iret dX5_mode_24 rfl (rfl) ?_
    simp only [nn_nI (show j633 < 2 ^ 31 by omega), nn_nI (show j634 < 2 ^ 31 by omega)]
    exact ⟨_, Or.inr (Or.inr ⟨⟨g0, g1⟩, trivial, rfl, rfl⟩), hok, by trivial⟩
set_option maxRecDepth 20000 in
set_option maxHeartbeats 4000000 in
theorem pX5_groupTimer (Sc : q_S) (Γ : Nat → q_K) (n : Nat) (V : q_V) (o ml : Nat) (H : sM Γ o ml) (hm1 : 1 ≤ ml) (hml : ml ≤ 4) (a1 : Int32) (a2 : Int32) : q_fp Sc Γ mX5_groupTimer [.ref o, .int (a1), .int (a2)] n 0 0 V (q_mub (inZ a1 0 ((ml : Int)) ∧ inZ a2 0 8) (True) V o ((vset V o 0 (nI 0)) (o + 8) (8 * nn a1 + nn a2)) (vset V o 0 (nI 0))) := by
  intro h hok
  show q_A Sc mX5_groupTimer 0 [.ref o, .int (a1), .int (a2)] [] h n 0 0 (fun O h' n' => ∃ F, (q_mub (inZ a1 0 ((ml : Int)) ∧ inZ a2 0 8) (True) V o ((vset V o 0 (nI 0)) (o + 8) (8 * nn a1 + nn a2)) (vset V o 0 (nI 0))) O F ∧ q_ok (gX Γ F) h' ∧ n' = n)
  refine q_aload_n dX5_groupTimer_0 rfl ?_
  refine q_iload_n dX5_groupTimer_1 rfl ?_
  refine q_iload_n dX5_groupTimer_2 rfl ?_
  refine w_callV (M' := mX5_knows) [.int (a1), .int (a2)] [] kX5 dX5_groupTimer_3 wPX5_136v wIX5_knows wSX5_knows iX5_knows oX5_knows rfl hok H.1 (pX5_knows Sc Γ n V o ml H hm1 hml a1 a2) (Nat.zero_le _) (Nat.zero_le _) (Nat.le_of_ble_eq_true rfl) (Nat.le_of_ble_eq_true rfl) (Nat.le_of_ble_eq_true rfl) rfl (fun v h F hp hok => ?_) (fun x h F hp hok => by rcases hp with ⟨-, e, -⟩ | ⟨-, -, e, -⟩ | ⟨-, -, e, -⟩ <;> cases e)
  rcases hp with ⟨gn0, e, rfl⟩ | ⟨-, hn, -⟩ | ⟨gg, -, e, rfl⟩
  ·
    obtain rfl := Sum.inl.inj e
    refine q_if_eq (tgt := 23) dX5_groupTimer_6 (by decide) (fun _ => ?_) (fun q => absurd q (by decide))
    refine q_iconst (v := nI 0) dX5_groupTimer_23 rfl ?_
    exact q_iret dX5_groupTimer_24 rfl (rfl) ⟨_, Or.inl ⟨gn0, rfl, rfl⟩, hok, rfl⟩
  · exact absurd trivial hn
  ·
    obtain rfl := Sum.inl.inj e
    obtain ⟨g0, g1⟩ := id gg
    obtain ⟨j637, hj637, rfl⟩ := inZ.nat g0 (by first | decide | omega)
    obtain ⟨j638, hj638, rfl⟩ := inZ.nat g1 (by first | decide | omega)
    refine q_if_eq (tgt := 23) dX5_groupTimer_6 (by decide) (fun q => absurd q (by decide)) (fun _ => ?_)
    refine q_aload_n dX5_groupTimer_9 rfl ?_
    refine v_getr 9 kX5 (by decide) wPX5_31 dX5_groupTimer_10 hok H.1 rfl ?_
    refine q_bipush (v := nI 8) dX5_groupTimer_13 rfl ?_
    refine q_iload_n dX5_groupTimer_15 rfl ?_
    refine t_imul_n dX5_groupTimer_16 ?_
    refine q_iload_n dX5_groupTimer_17 rfl ?_
    refine t_iadd_n dX5_groupTimer_18 ?_
    refine v_iald (by decide) dX5_groupTimer_19 hok H.2.2.2.2.2.2.2.2.1 (j := (8 * j637) + j638) (by omega) ?_
    refine q_goto (tgt := 24) dX5_groupTimer_20 (by decide) ?_
    refine q_iret dX5_groupTimer_24 rfl (rfl) ?_
    simp only [nn_nI (show j637 < 2 ^ 31 by omega), nn_nI (show j638 < 2 ^ 31 by omega)]
    exact ⟨_, Or.inr (Or.inr ⟨⟨g0, g1⟩, trivial, rfl, rfl⟩), hok, by trivial⟩
set_option maxRecDepth 20000 in
set_option maxHeartbeats 4000000 in
theorem pX5_timer (Sc : q_S) (Γ : Nat → q_K) (n : Nat) (V : q_V) (o ml : Nat) (H : sM Γ o ml) (hm1 : 1 ≤ ml) (hml : ml ≤ 4) (a1 : Int32) (a2 : Int32) (a3 : Int32) : q_fp Sc Γ mX5_timer [.ref o, .int (a1), .int (a2), .int (a3)] n 0 0 V (q_mub (inZ a1 0 ((ml : Int)) ∧ inZ a2 0 8 ∧ inZ a3 0 16) (True) V o ((vset V o 0 (nI 0)) (o + 10) (16 * (8 * nn a1 + nn a2) + nn a3)) (vset V o 0 (nI 0))) := by
  intro h hok
  show q_A Sc mX5_timer 0 [.ref o, .int (a1), .int (a2), .int (a3)] [] h n 0 0 (fun O h' n' => ∃ F, (q_mub (inZ a1 0 ((ml : Int)) ∧ inZ a2 0 8 ∧ inZ a3 0 16) (True) V o ((vset V o 0 (nI 0)) (o + 10) (16 * (8 * nn a1 + nn a2) + nn a3)) (vset V o 0 (nI 0))) O F ∧ q_ok (gX Γ F) h' ∧ n' = n)
  refine q_aload_n dX5_timer_0 rfl ?_
  refine q_aload_n dX5_timer_1 rfl ?_
  refine q_iload_n dX5_timer_2 rfl ?_
  refine w_callV (M' := mX5_isLink) [.int (a1)] [.ref o] kX5 dX5_timer_3 wPX5_117v wIX5_isLink wSX5_isLink iX5_isLink oX5_isLink rfl hok H.1 (uX5_isLink Sc Γ n V o ml H hm1 hml a1) (Nat.zero_le _) (Nat.zero_le _) (Nat.le_of_ble_eq_true rfl) (Nat.le_of_ble_eq_true rfl) (Nat.le_of_ble_eq_true rfl) rfl (fun v h F hp hok => ?_) (fun x h F hp hok => by obtain ⟨-, y, e, -⟩ := hp; cases e)
  obtain ⟨rfl, y, e, ⟨rfl, g0⟩ | ⟨rfl, g0⟩⟩ := hp
  ·
    obtain rfl := Sum.inl.inj e
    obtain ⟨j639, hj639, rfl⟩ := inZ.nat g0 (by first | decide | omega)
    refine q_if_eq (tgt := 33) dX5_timer_6 (by decide) (fun q => absurd q (by decide)) (fun _ => ?_)
    refine q_iload_n dX5_timer_9 rfl ?_
    refine q_iconst (v := nI 0) dX5_timer_10 rfl ?_
    refine q_bipush (v := nI 7) dX5_timer_11 rfl ?_
    refine w_callS (M' := mX5_in) [.int (a2), .int (nI 0), .int (nI 7)] [.ref o] dX5_timer_13 wPX5_120 wTX5_in wNX5 iX5_in oX5_in rfl hok (uX5_in Sc Γ n V a2 (nI 0) (nI 7) 0 8 (by decide) (by decide)) (Nat.zero_le _) (Nat.zero_le _) (Nat.le_of_ble_eq_true rfl) (Nat.le_of_ble_eq_true rfl) (Nat.le_of_ble_eq_true rfl) rfl (fun v h F hp hok => ?_) (fun x h F hp hok => by obtain ⟨-, y, e, -⟩ := hp; cases e)
    obtain ⟨rfl, y, e, ⟨rfl, g1⟩ | ⟨rfl, g1⟩⟩ := hp
    ·
      obtain rfl := Sum.inl.inj e
      obtain ⟨j640, hj640, rfl⟩ := inZ.nat g1 (by first | decide | omega)
      refine q_if_eq (tgt := 33) dX5_timer_16 (by decide) (fun q => absurd q (by decide)) (fun _ => ?_)
      refine q_iload_n dX5_timer_19 rfl ?_
      refine q_iconst (v := nI 0) dX5_timer_20 rfl ?_
      refine q_bipush (v := nI 15) dX5_timer_21 rfl ?_
      refine w_callS (M' := mX5_in) [.int (a3), .int (nI 0), .int (nI 15)] [.ref o] dX5_timer_23 wPX5_120 wTX5_in wNX5 iX5_in oX5_in rfl hok (uX5_in Sc Γ n V a3 (nI 0) (nI 15) 0 16 (by decide) (by decide)) (Nat.zero_le _) (Nat.zero_le _) (Nat.le_of_ble_eq_true rfl) (Nat.le_of_ble_eq_true rfl) (Nat.le_of_ble_eq_true rfl) rfl (fun v h F hp hok => ?_) (fun x h F hp hok => by obtain ⟨-, y, e, -⟩ := hp; cases e)
      obtain ⟨rfl, y, e, ⟨rfl, g2⟩ | ⟨rfl, g2⟩⟩ := hp
      ·
        obtain rfl := Sum.inl.inj e
        obtain ⟨j641, hj641, rfl⟩ := inZ.nat g2 (by first | decide | omega)
        refine q_if_eq (tgt := 33) dX5_timer_26 (by decide) (fun q => absurd q (by decide)) (fun _ => ?_)
        refine q_iconst (v := nI 0) dX5_timer_29 rfl ?_
        refine q_goto (tgt := 34) dX5_timer_30 (by decide) ?_
        refine v_puti 0 kX5 (by decide) wPX5_66 rfl dX5_timer_34 hok H.1 rfl ⟨rfl, rfl⟩ (fun h hok => ?_)
        refine q_aload_n dX5_timer_37 rfl ?_
        refine v_getv 0 (x := nI 0) vs_at kX5 (by decide) wPX5_66 dX5_timer_38 hok H.1 rfl ?_
        refine q_if_le (tgt := 48) dX5_timer_41 (by decide) (fun _ => ?_) (fun q => absurd q (by decide))
        refine q_aload_n dX5_timer_48 rfl ?_
        refine v_getr 11 kX5 (by decide) wPX5_37 dX5_timer_49 hok H.1 rfl ?_
        refine q_bipush (v := nI 16) dX5_timer_52 rfl ?_
        refine q_bipush (v := nI 8) dX5_timer_54 rfl ?_
        refine q_iload_n dX5_timer_56 rfl ?_
        refine t_imul_n dX5_timer_57 ?_
        refine q_iload_n dX5_timer_58 rfl ?_
        refine t_iadd_n dX5_timer_59 ?_
        refine t_imul_n dX5_timer_60 ?_
        refine q_iload_n dX5_timer_61 rfl ?_
        refine t_iadd_n dX5_timer_62 ?_
        refine v_iald (by decide) dX5_timer_63 hok H.2.2.2.2.2.2.2.2.2.2.1 (j := (16 * ((8 * j639) + j640)) + j641) (by omega) ?_
        refine q_iret dX5_timer_64 rfl (rfl) ?_
        simp only [nn_nI (show j639 < 2 ^ 31 by omega), nn_nI (show j640 < 2 ^ 31 by omega), nn_nI (show j641 < 2 ^ 31 by omega)]
        exact ⟨_, Or.inr (Or.inr ⟨⟨g0, g1, g2⟩, trivial, rfl, rfl⟩), hok, by trivial⟩
      ·
        obtain rfl := Sum.inl.inj e
        refine q_if_eq (tgt := 33) dX5_timer_26 (by decide) (fun _ => ?_) (fun q => absurd q (by decide))
        refine q_iconst (v := nI 1) dX5_timer_33 rfl ?_
        refine v_puti 0 kX5 (by decide) wPX5_66 rfl dX5_timer_34 hok H.1 rfl ⟨rfl, rfl⟩ (fun h hok => ?_)
        refine q_aload_n dX5_timer_37 rfl ?_
        refine v_getv 0 (x := nI 1) vs_at kX5 (by decide) wPX5_66 dX5_timer_38 hok H.1 rfl ?_
        refine q_if_le (tgt := 48) dX5_timer_41 (by decide) (fun q => absurd q (by decide)) (fun _ => ?_)
        refine q_iconst (v := nI 0) dX5_timer_44 rfl ?_
        refine q_goto (tgt := 64) dX5_timer_45 (by decide) ?_
        exact q_iret dX5_timer_64 rfl (rfl) ⟨_, Or.inl ⟨(fun q => g2 q.2.2), rfl, rfl⟩, hok, rfl⟩
    ·
      obtain rfl := Sum.inl.inj e
      refine q_if_eq (tgt := 33) dX5_timer_16 (by decide) (fun _ => ?_) (fun q => absurd q (by decide))
      refine q_iconst (v := nI 1) dX5_timer_33 rfl ?_
      refine v_puti 0 kX5 (by decide) wPX5_66 rfl dX5_timer_34 hok H.1 rfl ⟨rfl, rfl⟩ (fun h hok => ?_)
      refine q_aload_n dX5_timer_37 rfl ?_
      refine v_getv 0 (x := nI 1) vs_at kX5 (by decide) wPX5_66 dX5_timer_38 hok H.1 rfl ?_
      refine q_if_le (tgt := 48) dX5_timer_41 (by decide) (fun q => absurd q (by decide)) (fun _ => ?_)
      refine q_iconst (v := nI 0) dX5_timer_44 rfl ?_
      refine q_goto (tgt := 64) dX5_timer_45 (by decide) ?_
      exact q_iret dX5_timer_64 rfl (rfl) ⟨_, Or.inl ⟨(fun q => g1 q.2.1), rfl, rfl⟩, hok, rfl⟩
  ·
    obtain rfl := Sum.inl.inj e
    refine q_if_eq (tgt := 33) dX5_timer_6 (by decide) (fun _ => ?_) (fun q => absurd q (by decide))
    refine q_iconst (v := nI 1) dX5_timer_33 rfl ?_
    refine v_puti 0 kX5 (by decide) wPX5_66 rfl dX5_timer_34 hok H.1 rfl ⟨rfl, rfl⟩ (fun h hok => ?_)
    refine q_aload_n dX5_timer_37 rfl ?_
    refine v_getv 0 (x := nI 1) vs_at kX5 (by decide) wPX5_66 dX5_timer_38 hok H.1 rfl ?_
    refine q_if_le (tgt := 48) dX5_timer_41 (by decide) (fun q => absurd q (by decide)) (fun _ => ?_)
    refine q_iconst (v := nI 0) dX5_timer_44 rfl ?_
    refine q_goto (tgt := 64) dX5_timer_45 (by decide) ?_
    exact q_iret dX5_timer_64 rfl (rfl) ⟨_, Or.inl ⟨(fun q => g0 q.1), rfl, rfl⟩, hok, rfl⟩
set_option maxRecDepth 20000 in
set_option maxHeartbeats 4000000 in
theorem pX5_sources (Sc : q_S) (Γ : Nat → q_K) (n : Nat) (V : q_V) (o ml : Nat) (H : sM Γ o ml) (hm1 : 1 ≤ ml) (hml : ml ≤ 4) (a1 : Int32) (a2 : Int32) (a3 : Int32) (b3 : q_bl a3) : q_fp Sc Γ mX5_sources [.ref o, .int (a1), .int (a2), .int (a3)] n 0 0 V (q_mub (inZ a1 0 ((ml : Int)) ∧ inZ a2 0 8) (True) V o (if a3 = nI 0 then vX5_setOf_2 o ml (8 * nn a1 + nn a2) (vset V o 0 (nI 0)) else vX5_setOf_1 o ml (8 * nn a1 + nn a2) (vset V o 0 (nI 0))) (vset V o 0 (nI 0))) := by
  intro h hok
  show q_A Sc mX5_sources 0 [.ref o, .int (a1), .int (a2), .int (a3)] [] h n 0 0 (fun O h' n' => ∃ F, (q_mub (inZ a1 0 ((ml : Int)) ∧ inZ a2 0 8) (True) V o (if a3 = nI 0 then vX5_setOf_2 o ml (8 * nn a1 + nn a2) (vset V o 0 (nI 0)) else vX5_setOf_1 o ml (8 * nn a1 + nn a2) (vset V o 0 (nI 0))) (vset V o 0 (nI 0))) O F ∧ q_ok (gX Γ F) h' ∧ n' = n)
  rcases b3 with rfl | rfl
  ·
    refine q_aload_n dX5_sources_0 rfl ?_
    refine q_iload_n dX5_sources_1 rfl ?_
    refine q_iload_n dX5_sources_2 rfl ?_
    refine w_callV (M' := mX5_knows) [.int (a1), .int (a2)] [] kX5 dX5_sources_3 wPX5_136v wIX5_knows wSX5_knows iX5_knows oX5_knows rfl hok H.1 (pX5_knows Sc Γ n V o ml H hm1 hml a1 a2) (Nat.zero_le _) (Nat.zero_le _) (Nat.le_of_ble_eq_true rfl) (Nat.le_of_ble_eq_true rfl) (Nat.le_of_ble_eq_true rfl) rfl (fun v h F hp hok => ?_) (fun x h F hp hok => by rcases hp with ⟨-, e, -⟩ | ⟨-, -, e, -⟩ | ⟨-, -, e, -⟩ <;> cases e)
    rcases hp with ⟨gn0, e, rfl⟩ | ⟨-, hn, -⟩ | ⟨gg, -, e, rfl⟩
    ·
      obtain rfl := Sum.inl.inj e
      refine q_if_eq (tgt := 31) dX5_sources_6 (by decide) (fun _ => ?_) (fun q => absurd q (by decide))
      refine q_iconst (v := nI 0) dX5_sources_31 rfl ?_
      exact q_iret dX5_sources_32 rfl (rfl) ⟨_, Or.inl ⟨gn0, rfl, rfl⟩, hok, rfl⟩
    · exact absurd trivial hn
    ·
      obtain rfl := Sum.inl.inj e
      obtain ⟨g0, g1⟩ := id gg
      obtain ⟨j648, hj648, rfl⟩ := inZ.nat g0 (by first | decide | omega)
      obtain ⟨j649, hj649, rfl⟩ := inZ.nat g1 (by first | decide | omega)
      refine q_if_eq (tgt := 31) dX5_sources_6 (by decide) (fun q => absurd q (by decide)) (fun _ => ?_)
      refine q_aload_n dX5_sources_9 rfl ?_
      refine q_bipush (v := nI 8) dX5_sources_10 rfl ?_
      refine q_iload_n dX5_sources_12 rfl ?_
      refine t_imul_n dX5_sources_13 ?_
      refine q_iload_n dX5_sources_14 rfl ?_
      refine t_iadd_n dX5_sources_15 ?_
      refine q_iload_n dX5_sources_16 rfl ?_
      refine q_if_eq (tgt := 24) dX5_sources_17 (by decide) (fun _ => ?_) (fun q => absurd q (by decide))
      refine q_iconst (v := nI 2) dX5_sources_24 rfl ?_
      refine v_callV (M' := mX5_setOf) [.int (nI ((8 * j648) + j649)), .int (nI 2)] [] kX5 dX5_sources_25 wPX5_90v wIX5_setOf wSX5_setOf iX5_setOf oX5_setOf rfl hok H.1 (eX5_setOf_2 Sc Γ n (vset V o 0 (nI 0)) o ml H hm1 hml ((8 * j648) + j649) (by omega)) (Nat.le_of_ble_eq_true rfl) (Nat.le_of_ble_eq_true rfl) (Nat.le_of_ble_eq_true rfl) rfl (fun h hok => ?_)
      refine q_goto (tgt := 32) dX5_sources_28 (by decide) ?_
      refine q_iret dX5_sources_32 rfl (rfl) ?_
      simp only [nn_nI (show j648 < 2 ^ 31 by omega), nn_nI (show j649 < 2 ^ 31 by omega), if_pos (show nI 0 = nI 0 from rfl)]
      exact ⟨_, Or.inr (Or.inr ⟨⟨g0, g1⟩, trivial, rfl, rfl⟩), hok, by trivial⟩
  ·
    refine q_aload_n dX5_sources_0 rfl ?_
    refine q_iload_n dX5_sources_1 rfl ?_
    refine q_iload_n dX5_sources_2 rfl ?_
    refine w_callV (M' := mX5_knows) [.int (a1), .int (a2)] [] kX5 dX5_sources_3 wPX5_136v wIX5_knows wSX5_knows iX5_knows oX5_knows rfl hok H.1 (pX5_knows Sc Γ n V o ml H hm1 hml a1 a2) (Nat.zero_le _) (Nat.zero_le _) (Nat.le_of_ble_eq_true rfl) (Nat.le_of_ble_eq_true rfl) (Nat.le_of_ble_eq_true rfl) rfl (fun v h F hp hok => ?_) (fun x h F hp hok => by rcases hp with ⟨-, e, -⟩ | ⟨-, -, e, -⟩ | ⟨-, -, e, -⟩ <;> cases e)
    rcases hp with ⟨gn0, e, rfl⟩ | ⟨-, hn, -⟩ | ⟨gg, -, e, rfl⟩
    ·
      obtain rfl := Sum.inl.inj e
      refine q_if_eq (tgt := 31) dX5_sources_6 (by decide) (fun _ => ?_) (fun q => absurd q (by decide))
      refine q_iconst (v := nI 0) dX5_sources_31 rfl ?_
      exact q_iret dX5_sources_32 rfl (rfl) ⟨_, Or.inl ⟨gn0, rfl, rfl⟩, hok, rfl⟩
    · exact absurd trivial hn
    ·
      obtain rfl := Sum.inl.inj e
      obtain ⟨g0, g1⟩ := id gg
      obtain ⟨j652, hj652, rfl⟩ := inZ.nat g0 (by first | decide | omega)
      obtain ⟨j653, hj653, rfl⟩ := inZ.nat g1 (by first | decide | omega)
      refine q_if_eq (tgt := 31) dX5_sources_6 (by decide) (fun q => absurd q (by decide)) (fun _ => ?_)
      refine q_aload_n dX5_sources_9 rfl ?_
      refine q_bipush (v := nI 8) dX5_sources_10 rfl ?_
      refine q_iload_n dX5_sources_12 rfl ?_
      refine t_imul_n dX5_sources_13 ?_
      refine q_iload_n dX5_sources_14 rfl ?_
      refine t_iadd_n dX5_sources_15 ?_
      refine q_iload_n dX5_sources_16 rfl ?_
      refine q_if_eq (tgt := 24) dX5_sources_17 (by decide) (fun q => absurd q (by decide)) (fun _ => ?_)
      refine q_iconst (v := nI 1) dX5_sources_20 rfl ?_
      refine q_goto (tgt := 25) dX5_sources_21 (by decide) ?_
      refine v_callV (M' := mX5_setOf) [.int (nI ((8 * j652) + j653)), .int (nI 1)] [] kX5 dX5_sources_25 wPX5_90v wIX5_setOf wSX5_setOf iX5_setOf oX5_setOf rfl hok H.1 (eX5_setOf_1 Sc Γ n (vset V o 0 (nI 0)) o ml H hm1 hml ((8 * j652) + j653) (by omega)) (Nat.le_of_ble_eq_true rfl) (Nat.le_of_ble_eq_true rfl) (Nat.le_of_ble_eq_true rfl) rfl (fun h hok => ?_)
      refine q_goto (tgt := 32) dX5_sources_28 (by decide) ?_
      refine q_iret dX5_sources_32 rfl (rfl) ?_
      simp only [nn_nI (show j652 < 2 ^ 31 by omega), nn_nI (show j653 < 2 ^ 31 by omega), if_neg (show ¬ nI 1 = nI 0 by decide)]
      exact ⟨_, Or.inr (Or.inr ⟨⟨g0, g1⟩, trivial, rfl, rfl⟩), hok, by trivial⟩
set_option maxRecDepth 20000 in
set_option maxHeartbeats 4000000 in
theorem pX5_passed (Sc : q_S) (Γ : Nat → q_K) (n : Nat) (V : q_V) (o ml : Nat) (H : sM Γ o ml) (hm1 : 1 ≤ ml) (hml : ml ≤ 4) (a1 : Int32) (a2 : Int32) (a3 : Int32) : q_fp Sc Γ mX5_passed [.ref o, .int (a1), .int (a2), .int (a3)] n 0 0 V (q_mub (inZ a1 0 ((ml : Int)) ∧ inZ a2 0 8 ∧ inZ a3 0 16) (True) V o (vX5_passed o ml (nn a1) (nn a2) (nn a3) (vset V o 0 (nI 0))) (vset V o 0 (nI 0))) := by
  intro h hok
  show q_A Sc mX5_passed 0 [.ref o, .int (a1), .int (a2), .int (a3), .retAddr 0, .retAddr 0, .retAddr 0, .retAddr 0, .retAddr 0] [] h n 0 0 (fun O h' n' => ∃ F, (q_mub (inZ a1 0 ((ml : Int)) ∧ inZ a2 0 8 ∧ inZ a3 0 16) (True) V o (vX5_passed o ml (nn a1) (nn a2) (nn a3) (vset V o 0 (nI 0))) (vset V o 0 (nI 0))) O F ∧ q_ok (gX Γ F) h' ∧ n' = n)
  refine q_aload_n dX5_passed_0 rfl ?_
  refine q_aload_n dX5_passed_1 rfl ?_
  refine q_iload_n dX5_passed_2 rfl ?_
  refine w_callV (M' := mX5_isLink) [.int (a1)] [.ref o] kX5 dX5_passed_3 wPX5_117v wIX5_isLink wSX5_isLink iX5_isLink oX5_isLink rfl hok H.1 (uX5_isLink Sc Γ n V o ml H hm1 hml a1) (Nat.zero_le _) (Nat.zero_le _) (Nat.le_of_ble_eq_true rfl) (Nat.le_of_ble_eq_true rfl) (Nat.le_of_ble_eq_true rfl) rfl (fun v h F hp hok => ?_) (fun x h F hp hok => by obtain ⟨-, y, e, -⟩ := hp; cases e)
  obtain ⟨rfl, y, e, ⟨rfl, g0⟩ | ⟨rfl, g0⟩⟩ := hp
  ·
    obtain rfl := Sum.inl.inj e
    obtain ⟨j654, hj654, rfl⟩ := inZ.nat g0 (by first | decide | omega)
    refine q_if_eq (tgt := 33) dX5_passed_6 (by decide) (fun q => absurd q (by decide)) (fun _ => ?_)
    refine q_iload_n dX5_passed_9 rfl ?_
    refine q_iconst (v := nI 0) dX5_passed_10 rfl ?_
    refine q_bipush (v := nI 7) dX5_passed_11 rfl ?_
    refine w_callS (M' := mX5_in) [.int (a2), .int (nI 0), .int (nI 7)] [.ref o] dX5_passed_13 wPX5_120 wTX5_in wNX5 iX5_in oX5_in rfl hok (uX5_in Sc Γ n V a2 (nI 0) (nI 7) 0 8 (by decide) (by decide)) (Nat.zero_le _) (Nat.zero_le _) (Nat.le_of_ble_eq_true rfl) (Nat.le_of_ble_eq_true rfl) (Nat.le_of_ble_eq_true rfl) rfl (fun v h F hp hok => ?_) (fun x h F hp hok => by obtain ⟨-, y, e, -⟩ := hp; cases e)
    obtain ⟨rfl, y, e, ⟨rfl, g1⟩ | ⟨rfl, g1⟩⟩ := hp
    ·
      obtain rfl := Sum.inl.inj e
      obtain ⟨j655, hj655, rfl⟩ := inZ.nat g1 (by first | decide | omega)
      refine q_if_eq (tgt := 33) dX5_passed_16 (by decide) (fun q => absurd q (by decide)) (fun _ => ?_)
      refine q_iload_n dX5_passed_19 rfl ?_
      refine q_iconst (v := nI 0) dX5_passed_20 rfl ?_
      refine q_bipush (v := nI 15) dX5_passed_21 rfl ?_
      refine w_callS (M' := mX5_in) [.int (a3), .int (nI 0), .int (nI 15)] [.ref o] dX5_passed_23 wPX5_120 wTX5_in wNX5 iX5_in oX5_in rfl hok (uX5_in Sc Γ n V a3 (nI 0) (nI 15) 0 16 (by decide) (by decide)) (Nat.zero_le _) (Nat.zero_le _) (Nat.le_of_ble_eq_true rfl) (Nat.le_of_ble_eq_true rfl) (Nat.le_of_ble_eq_true rfl) rfl (fun v h F hp hok => ?_) (fun x h F hp hok => by obtain ⟨-, y, e, -⟩ := hp; cases e)
      obtain ⟨rfl, y, e, ⟨rfl, g2⟩ | ⟨rfl, g2⟩⟩ := hp
      ·
        obtain rfl := Sum.inl.inj e
        obtain ⟨j656, hj656, rfl⟩ := inZ.nat g2 (by first | decide | omega)
        refine q_if_eq (tgt := 33) dX5_passed_26 (by decide) (fun q => absurd q (by decide)) (fun _ => ?_)
        refine q_iconst (v := nI 0) dX5_passed_29 rfl ?_
        refine q_goto (tgt := 34) dX5_passed_30 (by decide) ?_
        refine v_puti 0 kX5 (by decide) wPX5_66 rfl dX5_passed_34 hok H.1 rfl ⟨rfl, rfl⟩ (fun h hok => ?_)
        refine kX5_passed Sc Γ n ((vset V o 0 (nI 0))) o ml H hm1 hml j654 (by omega) j655 (by omega) j656 (by omega) vs_at (fun O h' eO hk => ?_) hok
        simp only [nn_nI (show j654 < 2 ^ 31 by omega), nn_nI (show j655 < 2 ^ 31 by omega), nn_nI (show j656 < 2 ^ 31 by omega)]
        exact ⟨_, Or.inr (Or.inr ⟨⟨g0, g1, g2⟩, trivial, eO, rfl⟩), hk, by trivial⟩
      ·
        obtain rfl := Sum.inl.inj e
        refine q_if_eq (tgt := 33) dX5_passed_26 (by decide) (fun _ => ?_) (fun q => absurd q (by decide))
        refine q_iconst (v := nI 1) dX5_passed_33 rfl ?_
        refine v_puti 0 kX5 (by decide) wPX5_66 rfl dX5_passed_34 hok H.1 rfl ⟨rfl, rfl⟩ (fun h hok => ?_)
        refine q_iconst (v := nI 0) dX5_passed_37 rfl ?_
        refine t_istore [.ref o, .int (nI j654), .int (nI j655), .int (a3), .int (nI 0), .retAddr 0, .retAddr 0, .retAddr 0, .retAddr 0] (Or.inr ⟨rfl, dX5_passed_38⟩) (by decide) rfl ?_
        refine q_iconst (v := nI 0) dX5_passed_40 rfl ?_
        refine t_istore [.ref o, .int (nI j654), .int (nI j655), .int (a3), .int (nI 0), .int (nI 0), .retAddr 0, .retAddr 0, .retAddr 0] (Or.inr ⟨rfl, dX5_passed_41⟩) (by decide) rfl ?_
        refine q_iload dX5_passed_43 rfl ?_
        refine q_aload_n dX5_passed_45 rfl ?_
        refine v_getc 1 kX5 (by decide) wPX5_59 dX5_passed_46 hok H.1 rfl ?_
        refine t_icmp_ge_n (tgt := 153) (by omega) (by omega) dX5_passed_49 (by decide) (fun c659 => ?_) (fun c659 => ?_)
        · exact absurd c659 (by omega)
        refine q_aload_n dX5_passed_52 rfl ?_
        refine v_getv 0 (x := nI 1) vs_at kX5 (by decide) wPX5_66 dX5_passed_53 hok H.1 rfl ?_
        refine q_if_ne (tgt := 153) dX5_passed_56 (by decide) (fun _ => ?_) (fun q => absurd q (by decide))
        refine q_iload dX5_passed_153 rfl ?_
        exact q_iret dX5_passed_155 rfl (rfl) ⟨_, Or.inl ⟨(fun q => g2 q.2.2), rfl, rfl⟩, hok, rfl⟩
    ·
      obtain rfl := Sum.inl.inj e
      refine q_if_eq (tgt := 33) dX5_passed_16 (by decide) (fun _ => ?_) (fun q => absurd q (by decide))
      refine q_iconst (v := nI 1) dX5_passed_33 rfl ?_
      refine v_puti 0 kX5 (by decide) wPX5_66 rfl dX5_passed_34 hok H.1 rfl ⟨rfl, rfl⟩ (fun h hok => ?_)
      refine q_iconst (v := nI 0) dX5_passed_37 rfl ?_
      refine t_istore [.ref o, .int (nI j654), .int (a2), .int (a3), .int (nI 0), .retAddr 0, .retAddr 0, .retAddr 0, .retAddr 0] (Or.inr ⟨rfl, dX5_passed_38⟩) (by decide) rfl ?_
      refine q_iconst (v := nI 0) dX5_passed_40 rfl ?_
      refine t_istore [.ref o, .int (nI j654), .int (a2), .int (a3), .int (nI 0), .int (nI 0), .retAddr 0, .retAddr 0, .retAddr 0] (Or.inr ⟨rfl, dX5_passed_41⟩) (by decide) rfl ?_
      refine q_iload dX5_passed_43 rfl ?_
      refine q_aload_n dX5_passed_45 rfl ?_
      refine v_getc 1 kX5 (by decide) wPX5_59 dX5_passed_46 hok H.1 rfl ?_
      refine t_icmp_ge_n (tgt := 153) (by omega) (by omega) dX5_passed_49 (by decide) (fun c661 => ?_) (fun c661 => ?_)
      · exact absurd c661 (by omega)
      refine q_aload_n dX5_passed_52 rfl ?_
      refine v_getv 0 (x := nI 1) vs_at kX5 (by decide) wPX5_66 dX5_passed_53 hok H.1 rfl ?_
      refine q_if_ne (tgt := 153) dX5_passed_56 (by decide) (fun _ => ?_) (fun q => absurd q (by decide))
      refine q_iload dX5_passed_153 rfl ?_
      exact q_iret dX5_passed_155 rfl (rfl) ⟨_, Or.inl ⟨(fun q => g1 q.2.1), rfl, rfl⟩, hok, rfl⟩
  ·
    obtain rfl := Sum.inl.inj e
    refine q_if_eq (tgt := 33) dX5_passed_6 (by decide) (fun _ => ?_) (fun q => absurd q (by decide))
    refine q_iconst (v := nI 1) dX5_passed_33 rfl ?_
    refine v_puti 0 kX5 (by decide) wPX5_66 rfl dX5_passed_34 hok H.1 rfl ⟨rfl, rfl⟩ (fun h hok => ?_)
    refine q_iconst (v := nI 0) dX5_passed_37 rfl ?_
    refine t_istore [.ref o, .int (a1), .int (a2), .int (a3), .int (nI 0), .retAddr 0, .retAddr 0, .retAddr 0, .retAddr 0] (Or.inr ⟨rfl, dX5_passed_38⟩) (by decide) rfl ?_
    refine q_iconst (v := nI 0) dX5_passed_40 rfl ?_
    refine t_istore [.ref o, .int (a1), .int (a2), .int (a3), .int (nI 0), .int (nI 0), .retAddr 0, .retAddr 0, .retAddr 0] (Or.inr ⟨rfl, dX5_passed_41⟩) (by decide) rfl ?_
    refine q_iload dX5_passed_43 rfl ?_
    refine q_aload_n dX5_passed_45 rfl ?_
    refine v_getc 1 kX5 (by decide) wPX5_59 dX5_passed_46 hok H.1 rfl ?_
    refine t_icmp_ge_n (tgt := 153) (by omega) (by omega) dX5_passed_49 (by decide) (fun c663 => ?_) (fun c663 => ?_)
    · exact absurd c663 (by omega)
    refine q_aload_n dX5_passed_52 rfl ?_
    refine v_getv 0 (x := nI 1) vs_at kX5 (by decide) wPX5_66 dX5_passed_53 hok H.1 rfl ?_
    refine q_if_ne (tgt := 153) dX5_passed_56 (by decide) (fun _ => ?_) (fun q => absurd q (by decide))
    refine q_iload dX5_passed_153 rfl ?_
    exact q_iret dX5_passed_155 rfl (rfl) ⟨_, Or.inl ⟨(fun q => g0 q.1), rfl, rfl⟩, hok, rfl⟩
set_option maxHeartbeats 4000000 in
theorem kX5_wanted (Sc : q_S) (Γ : Nat → q_K) (n : Nat) (V : q_V) (o ml : Nat) (H : sM Γ o ml) (hm1 : 1 ≤ ml) (hml : ml ≤ 4) (a1 : Nat) (b1 : a1 < ml) (a2 : Nat) (b2 : a2 < 8) (a3 : Nat) (b3 : a3 < 16) (ht : V o 0 = nI 0) {kc ks : Nat} {Q : q_O → q_H → Nat → Prop} {h : q_H} (hQ : ∀ (x : Int32) (h' : q_H), q_bl x → q_ok (gX Γ V) h' → Q (.inl (some (.int x))) h' n) (hok : q_ok (gX Γ V) h) : q_A Sc mX5_wanted 37 [.ref o, .int (nI a1), .int (nI a2), .int (nI a3), .retAddr 0, .retAddr 0, .retAddr 0] [] h n kc ks Q := by
  refine q_iconst (v := nI 0) dX5_wanted_37 rfl ?_
  refine t_istore [.ref o, .int (nI a1), .int (nI a2), .int (nI a3), .int (nI 0), .retAddr 0, .retAddr 0] (Or.inr ⟨rfl, dX5_wanted_38⟩) (by decide) rfl ?_
  refine q_iconst (v := nI 0) dX5_wanted_40 rfl ?_
  refine t_istore [.ref o, .int (nI a1), .int (nI a2), .int (nI a3), .int (nI 0), .int (nI 0), .retAddr 0] (Or.inr ⟨rfl, dX5_wanted_41⟩) (by decide) rfl ?_
  have hl664 : ∀ (d664 k664 : Nat) (g664a : Int32) (h : q_H), k664 + d664 = 6 → q_bl g664a → q_ok (gX Γ V) h → q_A Sc mX5_wanted 43 [.ref o, .int (nI a1), .int (nI a2), .int (nI a3), .int (g664a), .int (nI k664), .retAddr 0] [] h n kc ks Q := by
    intro d664
    induction d664 with
    | zero =>
      intro k664 g664a h e664 bg664a hok
      refine q_iload dX5_wanted_43 rfl ?_
      refine q_bipush (v := nI 6) dX5_wanted_45 rfl ?_
      refine t_icmp_ge_n (tgt := 119) (by omega) (by omega) dX5_wanted_47 (by decide) (fun c670 => ?_) (fun c670 => ?_)
      rotate_left
      · exact absurd c670 (by omega)
      refine q_iload dX5_wanted_119 rfl ?_
      exact q_iret dX5_wanted_121 rfl (q_bl.nar bg664a) (hQ _ _ (bg664a) hok)
    | succ d664 ih664 =>
      intro k664 g664a h e664 bg664a hok
      refine q_iload dX5_wanted_43 rfl ?_
      refine q_bipush (v := nI 6) dX5_wanted_45 rfl ?_
      refine t_icmp_ge_n (tgt := 119) (by omega) (by omega) dX5_wanted_47 (by decide) (fun c665 => ?_) (fun c665 => ?_)
      · exact absurd c665 (by omega)
      refine q_aload_n dX5_wanted_50 rfl ?_
      refine v_getv 0 (x := nI 0) ht kX5 (by decide) wPX5_66 dX5_wanted_51 hok H.1 rfl ?_
      refine q_if_ne (tgt := 119) dX5_wanted_54 (by decide) (fun q => absurd q (by decide)) (fun _ => ?_)
      refine q_bipush (v := nI 48) dX5_wanted_57 rfl ?_
      refine q_iload_n dX5_wanted_59 rfl ?_
      refine t_imul_n dX5_wanted_60 ?_
      refine q_bipush (v := nI 8) dX5_wanted_61 rfl ?_
      refine q_iload dX5_wanted_63 rfl ?_
      refine t_imul_n dX5_wanted_65 ?_
      refine t_iadd_n dX5_wanted_66 ?_
      refine q_iload_n dX5_wanted_67 rfl ?_
      refine t_iadd_n dX5_wanted_68 ?_
      refine t_istore [.ref o, .int (nI a1), .int (nI a2), .int (nI a3), .int (g664a), .int (nI k664), .int (nI (((48 * a1) + (8 * k664)) + a2))] (Or.inr ⟨rfl, dX5_wanted_69⟩) (by decide) rfl ?_
      refine q_iload dX5_wanted_71 rfl ?_
      refine q_if_ne (tgt := 106) dX5_wanted_73 (by decide) (fun c666 => ?_) (fun c666 => ?_)
      ·
        refine q_iconst (v := nI 1) dX5_wanted_106 rfl ?_
        refine q_goto (tgt := 111) dX5_wanted_107 (by decide) ?_
        refine t_istore [.ref o, .int (nI a1), .int (nI a2), .int (nI a3), .int (nI 1), .int (nI k664), .int (nI (((48 * a1) + (8 * k664)) + a2))] (Or.inr ⟨rfl, dX5_wanted_111⟩) (by decide) rfl ?_
        refine t_iinc_n [.ref o, .int (nI a1), .int (nI a2), .int (nI a3), .int (nI 1), .int (nI (k664 + 1)), .int (nI (((48 * a1) + (8 * k664)) + a2))] dX5_wanted_113 rfl (by decide) rfl ?_
        refine q_goto (tgt := 43) dX5_wanted_116 (by decide) ?_
        refine q_weak [.ref o, .int (nI a1), .int (nI a2), .int (nI a3), .int (nI 1), .int (nI (k664 + 1)), .retAddr 0] ⟨Or.inl rfl, Or.inl rfl, Or.inl rfl, Or.inl rfl, Or.inl rfl, Or.inl rfl, Or.inr ⟨0, rfl⟩, trivial⟩ ?_
        exact ih664 (k664 + 1) (nI 1) h (by omega) (Or.inr rfl) hok
      ·
        refine q_aload_n dX5_wanted_76 rfl ?_
        refine v_getr 13 kX5 (by decide) wPX5_44 dX5_wanted_77 hok H.1 rfl ?_
        refine q_iload dX5_wanted_80 rfl ?_
        refine v_iald (by decide) dX5_wanted_82 hok H.2.2.2.2.2.2.2.2.2.2.2.2.1 (j := ((48 * a1) + (8 * k664)) + a2) (by omega) ?_
        refine q_iload_n dX5_wanted_83 rfl ?_
        refine q_ishr dX5_wanted_84 ?_
        refine q_iconst (v := nI 1) dX5_wanted_85 rfl ?_
        refine q_iand dX5_wanted_86 ?_
        refine q_iconst (v := nI 1) dX5_wanted_87 rfl ?_
        refine q_icmp_ne (tgt := 95) dX5_wanted_88 (by decide) (fun c667 => ?_) (fun c667 => ?_)
        ·
          refine q_iconst (v := nI 0) dX5_wanted_95 rfl ?_
          refine q_aload_n dX5_wanted_96 rfl ?_
          refine v_getr 12 kX5 (by decide) wPX5_40 dX5_wanted_97 hok H.1 rfl ?_
          refine q_iload dX5_wanted_100 rfl ?_
          refine v_zald (by decide) dX5_wanted_102 hok H.2.2.2.2.2.2.2.2.2.2.2.1 (j := ((48 * a1) + (8 * k664)) + a2) (by omega) ?_
          refine q_icmp_eq (tgt := 110) dX5_wanted_103 (by decide) (fun c668 => ?_) (fun c668 => ?_)
          ·
            refine q_iconst (v := nI 0) dX5_wanted_110 rfl ?_
            refine t_istore [.ref o, .int (nI a1), .int (nI a2), .int (nI a3), .int (nI 0), .int (nI k664), .int (nI (((48 * a1) + (8 * k664)) + a2))] (Or.inr ⟨rfl, dX5_wanted_111⟩) (by decide) rfl ?_
            refine t_iinc_n [.ref o, .int (nI a1), .int (nI a2), .int (nI a3), .int (nI 0), .int (nI (k664 + 1)), .int (nI (((48 * a1) + (8 * k664)) + a2))] dX5_wanted_113 rfl (by decide) rfl ?_
            refine q_goto (tgt := 43) dX5_wanted_116 (by decide) ?_
            refine q_weak [.ref o, .int (nI a1), .int (nI a2), .int (nI a3), .int (nI 0), .int (nI (k664 + 1)), .retAddr 0] ⟨Or.inl rfl, Or.inl rfl, Or.inl rfl, Or.inl rfl, Or.inl rfl, Or.inl rfl, Or.inr ⟨0, rfl⟩, trivial⟩ ?_
            exact ih664 (k664 + 1) (nI 0) h (by omega) (Or.inl rfl) hok
          ·
            refine q_iconst (v := nI 1) dX5_wanted_106 rfl ?_
            refine q_goto (tgt := 111) dX5_wanted_107 (by decide) ?_
            refine t_istore [.ref o, .int (nI a1), .int (nI a2), .int (nI a3), .int (nI 1), .int (nI k664), .int (nI (((48 * a1) + (8 * k664)) + a2))] (Or.inr ⟨rfl, dX5_wanted_111⟩) (by decide) rfl ?_
            refine t_iinc_n [.ref o, .int (nI a1), .int (nI a2), .int (nI a3), .int (nI 1), .int (nI (k664 + 1)), .int (nI (((48 * a1) + (8 * k664)) + a2))] dX5_wanted_113 rfl (by decide) rfl ?_
            refine q_goto (tgt := 43) dX5_wanted_116 (by decide) ?_
            refine q_weak [.ref o, .int (nI a1), .int (nI a2), .int (nI a3), .int (nI 1), .int (nI (k664 + 1)), .retAddr 0] ⟨Or.inl rfl, Or.inl rfl, Or.inl rfl, Or.inl rfl, Or.inl rfl, Or.inl rfl, Or.inr ⟨0, rfl⟩, trivial⟩ ?_
            exact ih664 (k664 + 1) (nI 1) h (by omega) (Or.inr rfl) hok
        ·
          refine q_iconst (v := nI 1) dX5_wanted_91 rfl ?_
          refine q_goto (tgt := 96) dX5_wanted_92 (by decide) ?_
          refine q_aload_n dX5_wanted_96 rfl ?_
          refine v_getr 12 kX5 (by decide) wPX5_40 dX5_wanted_97 hok H.1 rfl ?_
          refine q_iload dX5_wanted_100 rfl ?_
          refine v_zald (by decide) dX5_wanted_102 hok H.2.2.2.2.2.2.2.2.2.2.2.1 (j := ((48 * a1) + (8 * k664)) + a2) (by omega) ?_
          refine q_icmp_eq (tgt := 110) dX5_wanted_103 (by decide) (fun c669 => ?_) (fun c669 => ?_)
          ·
            refine q_iconst (v := nI 0) dX5_wanted_110 rfl ?_
            refine t_istore [.ref o, .int (nI a1), .int (nI a2), .int (nI a3), .int (nI 0), .int (nI k664), .int (nI (((48 * a1) + (8 * k664)) + a2))] (Or.inr ⟨rfl, dX5_wanted_111⟩) (by decide) rfl ?_
            refine t_iinc_n [.ref o, .int (nI a1), .int (nI a2), .int (nI a3), .int (nI 0), .int (nI (k664 + 1)), .int (nI (((48 * a1) + (8 * k664)) + a2))] dX5_wanted_113 rfl (by decide) rfl ?_
            refine q_goto (tgt := 43) dX5_wanted_116 (by decide) ?_
            refine q_weak [.ref o, .int (nI a1), .int (nI a2), .int (nI a3), .int (nI 0), .int (nI (k664 + 1)), .retAddr 0] ⟨Or.inl rfl, Or.inl rfl, Or.inl rfl, Or.inl rfl, Or.inl rfl, Or.inl rfl, Or.inr ⟨0, rfl⟩, trivial⟩ ?_
            exact ih664 (k664 + 1) (nI 0) h (by omega) (Or.inl rfl) hok
          ·
            refine q_iconst (v := nI 1) dX5_wanted_106 rfl ?_
            refine q_goto (tgt := 111) dX5_wanted_107 (by decide) ?_
            refine t_istore [.ref o, .int (nI a1), .int (nI a2), .int (nI a3), .int (nI 1), .int (nI k664), .int (nI (((48 * a1) + (8 * k664)) + a2))] (Or.inr ⟨rfl, dX5_wanted_111⟩) (by decide) rfl ?_
            refine t_iinc_n [.ref o, .int (nI a1), .int (nI a2), .int (nI a3), .int (nI 1), .int (nI (k664 + 1)), .int (nI (((48 * a1) + (8 * k664)) + a2))] dX5_wanted_113 rfl (by decide) rfl ?_
            refine q_goto (tgt := 43) dX5_wanted_116 (by decide) ?_
            refine q_weak [.ref o, .int (nI a1), .int (nI a2), .int (nI a3), .int (nI 1), .int (nI (k664 + 1)), .retAddr 0] ⟨Or.inl rfl, Or.inl rfl, Or.inl rfl, Or.inl rfl, Or.inl rfl, Or.inl rfl, Or.inr ⟨0, rfl⟩, trivial⟩ ?_
            exact ih664 (k664 + 1) (nI 1) h (by omega) (Or.inr rfl) hok
  exact hl664 6 0 (nI 0) h (by omega) (Or.inl rfl) hok
set_option maxHeartbeats 4000000 in
theorem pX5_wanted (Sc : q_S) (Γ : Nat → q_K) (n : Nat) (V : q_V) (o ml : Nat) (H : sM Γ o ml) (hm1 : 1 ≤ ml) (hml : ml ≤ 4) (a1 : Int32) (a2 : Int32) (a3 : Int32) : q_fp Sc Γ mX5_wanted [.ref o, .int (a1), .int (a2), .int (a3)] n 0 0 V (fun O F => (¬ (inZ a1 0 (ml : Int) ∧ inZ a2 0 8 ∧ inZ a3 0 16) ∧ O = .inl (some (.int (nI 0))) ∧ vset V o 0 (nI 1) = F) ∨ ((inZ a1 0 (ml : Int) ∧ inZ a2 0 8 ∧ inZ a3 0 16) ∧ (∃ x, O = .inl (some (.int x))) ∧ (vset V o 0 (nI 0)) = F)) := by
  intro h hok
  show q_A Sc mX5_wanted 0 [.ref o, .int (a1), .int (a2), .int (a3), .retAddr 0, .retAddr 0, .retAddr 0] [] h n 0 0 (fun O h' n' => ∃ F, (fun O F => (¬ (inZ a1 0 (ml : Int) ∧ inZ a2 0 8 ∧ inZ a3 0 16) ∧ O = .inl (some (.int (nI 0))) ∧ vset V o 0 (nI 1) = F) ∨ ((inZ a1 0 (ml : Int) ∧ inZ a2 0 8 ∧ inZ a3 0 16) ∧ (∃ x, O = .inl (some (.int x))) ∧ (vset V o 0 (nI 0)) = F)) O F ∧ q_ok (gX Γ F) h' ∧ n' = n)
  refine q_aload_n dX5_wanted_0 rfl ?_
  refine q_aload_n dX5_wanted_1 rfl ?_
  refine q_iload_n dX5_wanted_2 rfl ?_
  refine w_callV (M' := mX5_isLink) [.int (a1)] [.ref o] kX5 dX5_wanted_3 wPX5_117v wIX5_isLink wSX5_isLink iX5_isLink oX5_isLink rfl hok H.1 (uX5_isLink Sc Γ n V o ml H hm1 hml a1) (Nat.zero_le _) (Nat.zero_le _) (Nat.le_of_ble_eq_true rfl) (Nat.le_of_ble_eq_true rfl) (Nat.le_of_ble_eq_true rfl) rfl (fun v h F hp hok => ?_) (fun x h F hp hok => by obtain ⟨-, y, e, -⟩ := hp; cases e)
  obtain ⟨rfl, y, e, ⟨rfl, g0⟩ | ⟨rfl, g0⟩⟩ := hp
  ·
    obtain rfl := Sum.inl.inj e
    obtain ⟨j671, hj671, rfl⟩ := inZ.nat g0 (by first | decide | omega)
    refine q_if_eq (tgt := 33) dX5_wanted_6 (by decide) (fun q => absurd q (by decide)) (fun _ => ?_)
    refine q_iload_n dX5_wanted_9 rfl ?_
    refine q_iconst (v := nI 0) dX5_wanted_10 rfl ?_
    refine q_bipush (v := nI 7) dX5_wanted_11 rfl ?_
    refine w_callS (M' := mX5_in) [.int (a2), .int (nI 0), .int (nI 7)] [.ref o] dX5_wanted_13 wPX5_120 wTX5_in wNX5 iX5_in oX5_in rfl hok (uX5_in Sc Γ n V a2 (nI 0) (nI 7) 0 8 (by decide) (by decide)) (Nat.zero_le _) (Nat.zero_le _) (Nat.le_of_ble_eq_true rfl) (Nat.le_of_ble_eq_true rfl) (Nat.le_of_ble_eq_true rfl) rfl (fun v h F hp hok => ?_) (fun x h F hp hok => by obtain ⟨-, y, e, -⟩ := hp; cases e)
    obtain ⟨rfl, y, e, ⟨rfl, g1⟩ | ⟨rfl, g1⟩⟩ := hp
    ·
      obtain rfl := Sum.inl.inj e
      obtain ⟨j672, hj672, rfl⟩ := inZ.nat g1 (by first | decide | omega)
      refine q_if_eq (tgt := 33) dX5_wanted_16 (by decide) (fun q => absurd q (by decide)) (fun _ => ?_)
      refine q_iload_n dX5_wanted_19 rfl ?_
      refine q_iconst (v := nI 0) dX5_wanted_20 rfl ?_
      refine q_bipush (v := nI 15) dX5_wanted_21 rfl ?_
      refine w_callS (M' := mX5_in) [.int (a3), .int (nI 0), .int (nI 15)] [.ref o] dX5_wanted_23 wPX5_120 wTX5_in wNX5 iX5_in oX5_in rfl hok (uX5_in Sc Γ n V a3 (nI 0) (nI 15) 0 16 (by decide) (by decide)) (Nat.zero_le _) (Nat.zero_le _) (Nat.le_of_ble_eq_true rfl) (Nat.le_of_ble_eq_true rfl) (Nat.le_of_ble_eq_true rfl) rfl (fun v h F hp hok => ?_) (fun x h F hp hok => by obtain ⟨-, y, e, -⟩ := hp; cases e)
      obtain ⟨rfl, y, e, ⟨rfl, g2⟩ | ⟨rfl, g2⟩⟩ := hp
      ·
        obtain rfl := Sum.inl.inj e
        obtain ⟨j673, hj673, rfl⟩ := inZ.nat g2 (by first | decide | omega)
        refine q_if_eq (tgt := 33) dX5_wanted_26 (by decide) (fun q => absurd q (by decide)) (fun _ => ?_)
        refine q_iconst (v := nI 0) dX5_wanted_29 rfl ?_
        refine q_goto (tgt := 34) dX5_wanted_30 (by decide) ?_
        refine v_puti 0 kX5 (by decide) wPX5_66 rfl dX5_wanted_34 hok H.1 rfl ⟨rfl, rfl⟩ (fun h hok => ?_)
        refine kX5_wanted Sc Γ n ((vset V o 0 (nI 0))) o ml H hm1 hml j671 (by omega) j672 (by omega) j673 (by omega) vs_at (fun x h' bx hk => ?_) hok
        exact ⟨_, Or.inr ⟨⟨g0, g1, g2⟩, ⟨_, rfl⟩, rfl⟩, hk, rfl⟩
      ·
        obtain rfl := Sum.inl.inj e
        refine q_if_eq (tgt := 33) dX5_wanted_26 (by decide) (fun _ => ?_) (fun q => absurd q (by decide))
        refine q_iconst (v := nI 1) dX5_wanted_33 rfl ?_
        refine v_puti 0 kX5 (by decide) wPX5_66 rfl dX5_wanted_34 hok H.1 rfl ⟨rfl, rfl⟩ (fun h hok => ?_)
        refine q_iconst (v := nI 0) dX5_wanted_37 rfl ?_
        refine t_istore [.ref o, .int (nI j671), .int (nI j672), .int (a3), .int (nI 0), .retAddr 0, .retAddr 0] (Or.inr ⟨rfl, dX5_wanted_38⟩) (by decide) rfl ?_
        refine q_iconst (v := nI 0) dX5_wanted_40 rfl ?_
        refine t_istore [.ref o, .int (nI j671), .int (nI j672), .int (a3), .int (nI 0), .int (nI 0), .retAddr 0] (Or.inr ⟨rfl, dX5_wanted_41⟩) (by decide) rfl ?_
        refine q_iload dX5_wanted_43 rfl ?_
        refine q_bipush (v := nI 6) dX5_wanted_45 rfl ?_
        refine q_icmp_ge (tgt := 119) dX5_wanted_47 (by decide) (fun q => absurd q (by decide)) (fun _ => ?_)
        refine q_aload_n dX5_wanted_50 rfl ?_
        refine v_getv 0 (x := nI 1) vs_at kX5 (by decide) wPX5_66 dX5_wanted_51 hok H.1 rfl ?_
        refine q_if_ne (tgt := 119) dX5_wanted_54 (by decide) (fun _ => ?_) (fun q => absurd q (by decide))
        refine q_iload dX5_wanted_119 rfl ?_
        exact q_iret dX5_wanted_121 rfl (rfl) ⟨_, Or.inl ⟨(fun q => g2 q.2.2), rfl, rfl⟩, hok, rfl⟩
    ·
      obtain rfl := Sum.inl.inj e
      refine q_if_eq (tgt := 33) dX5_wanted_16 (by decide) (fun _ => ?_) (fun q => absurd q (by decide))
      refine q_iconst (v := nI 1) dX5_wanted_33 rfl ?_
      refine v_puti 0 kX5 (by decide) wPX5_66 rfl dX5_wanted_34 hok H.1 rfl ⟨rfl, rfl⟩ (fun h hok => ?_)
      refine q_iconst (v := nI 0) dX5_wanted_37 rfl ?_
      refine t_istore [.ref o, .int (nI j671), .int (a2), .int (a3), .int (nI 0), .retAddr 0, .retAddr 0] (Or.inr ⟨rfl, dX5_wanted_38⟩) (by decide) rfl ?_
      refine q_iconst (v := nI 0) dX5_wanted_40 rfl ?_
      refine t_istore [.ref o, .int (nI j671), .int (a2), .int (a3), .int (nI 0), .int (nI 0), .retAddr 0] (Or.inr ⟨rfl, dX5_wanted_41⟩) (by decide) rfl ?_
      refine q_iload dX5_wanted_43 rfl ?_
      refine q_bipush (v := nI 6) dX5_wanted_45 rfl ?_
      refine q_icmp_ge (tgt := 119) dX5_wanted_47 (by decide) (fun q => absurd q (by decide)) (fun _ => ?_)
      refine q_aload_n dX5_wanted_50 rfl ?_
      refine v_getv 0 (x := nI 1) vs_at kX5 (by decide) wPX5_66 dX5_wanted_51 hok H.1 rfl ?_
      refine q_if_ne (tgt := 119) dX5_wanted_54 (by decide) (fun _ => ?_) (fun q => absurd q (by decide))
      refine q_iload dX5_wanted_119 rfl ?_
      exact q_iret dX5_wanted_121 rfl (rfl) ⟨_, Or.inl ⟨(fun q => g1 q.2.1), rfl, rfl⟩, hok, rfl⟩
  ·
    obtain rfl := Sum.inl.inj e
    refine q_if_eq (tgt := 33) dX5_wanted_6 (by decide) (fun _ => ?_) (fun q => absurd q (by decide))
    refine q_iconst (v := nI 1) dX5_wanted_33 rfl ?_
    refine v_puti 0 kX5 (by decide) wPX5_66 rfl dX5_wanted_34 hok H.1 rfl ⟨rfl, rfl⟩ (fun h hok => ?_)
    refine q_iconst (v := nI 0) dX5_wanted_37 rfl ?_
    refine t_istore [.ref o, .int (a1), .int (a2), .int (a3), .int (nI 0), .retAddr 0, .retAddr 0] (Or.inr ⟨rfl, dX5_wanted_38⟩) (by decide) rfl ?_
    refine q_iconst (v := nI 0) dX5_wanted_40 rfl ?_
    refine t_istore [.ref o, .int (a1), .int (a2), .int (a3), .int (nI 0), .int (nI 0), .retAddr 0] (Or.inr ⟨rfl, dX5_wanted_41⟩) (by decide) rfl ?_
    refine q_iload dX5_wanted_43 rfl ?_
    refine q_bipush (v := nI 6) dX5_wanted_45 rfl ?_
    refine q_icmp_ge (tgt := 119) dX5_wanted_47 (by decide) (fun q => absurd q (by decide)) (fun _ => ?_)
    refine q_aload_n dX5_wanted_50 rfl ?_
    refine v_getv 0 (x := nI 1) vs_at kX5 (by decide) wPX5_66 dX5_wanted_51 hok H.1 rfl ?_
    refine q_if_ne (tgt := 119) dX5_wanted_54 (by decide) (fun _ => ?_) (fun q => absurd q (by decide))
    refine q_iload dX5_wanted_119 rfl ?_
    exact q_iret dX5_wanted_121 rfl (rfl) ⟨_, Or.inl ⟨(fun q => g0 q.1), rfl, rfl⟩, hok, rfl⟩
theorem sb_back {V : q_V} {o b : Nat} {a : Int32} (hS : SB V o b) (h0 : ¬ a < 0) (h1 : a < V o 15) : 0 ≤ (vset V o 0 (nI 0) o 15 - nI 1 - a).toInt := by
  rw [vs_nk (by decide)]
  have h2 := hS.1
  rw [Int32.lt_iff_toInt_lt] at h0 h1
  rw [Int32.toInt_zero] at h0
  have h3 := Int32.toInt_lt (V o 15)
  rw [Int32.toInt_sub, Int32.toInt_sub, nI_toInt (by decide), Int.bmod_eq_of_le (n := (V o 15).toInt - (1 : Nat)) (by omega) (by omega), Int.bmod_eq_of_le (by omega) (by omega)]
  omega
set_option maxHeartbeats 4000000 in
theorem pX5_asked (Sc : q_S) (Γ : Nat → q_K) (n : Nat) (V : q_V) (o ml : Nat) (H : sM Γ o ml) (hm1 : 1 ≤ ml) (hml : ml ≤ 4) (a1 : Int32) (a2 : Int32) (b : Nat) (hS : SB V o b) : q_fp Sc Γ mX5_asked [.ref o, .int (a1), .int (a2)] n 0 0 V (q_mub (¬ (a1 < 0) ∧ ¬ (nI 39 < a1) ∧ a1 < V o 15) (inZ a2 0 4) V o (vX5_asked o ml a1 (nn a2) (vset V o 0 (nI 0))) (vset V o 0 (nI 0))) := by
  intro h hok
  show q_A Sc mX5_asked 0 [.ref o, .int (a1), .int (a2), .retAddr 0] [] h n 0 0 (fun O h' n' => ∃ F, (q_mub (¬ (a1 < 0) ∧ ¬ (nI 39 < a1) ∧ a1 < V o 15) (inZ a2 0 4) V o (vX5_asked o ml a1 (nn a2) (vset V o 0 (nI 0))) (vset V o 0 (nI 0))) O F ∧ q_ok (gX Γ F) h' ∧ n' = n)
  refine q_aload_n dX5_asked_0 rfl ?_
  refine q_iload_n dX5_asked_1 rfl ?_
  refine q_if_lt (tgt := 19) dX5_asked_2 (by decide) (fun c678 => ?_) (fun c678 => ?_)
  ·
    refine q_iconst (v := nI 1) dX5_asked_19 rfl ?_
    refine q_goto (tgt := 37) dX5_asked_20 (by decide) ?_
    refine v_puti 0 kX5 (by decide) wPX5_66 rfl dX5_asked_37 hok H.1 rfl ⟨rfl, rfl⟩ (fun h hok => ?_)
    refine q_aload_n dX5_asked_40 rfl ?_
    refine v_getv 0 (x := nI 1) vs_at kX5 (by decide) wPX5_66 dX5_asked_41 hok H.1 rfl ?_
    refine q_if_le (tgt := 49) dX5_asked_44 (by decide) (fun q => absurd q (by decide)) (fun _ => ?_)
    refine q_iconst (v := nI 0) dX5_asked_47 rfl ?_
    exact q_iret dX5_asked_48 rfl (rfl) ⟨_, Or.inl ⟨fun q => q.1 c678, rfl, rfl⟩, hok, rfl⟩
  ·
    refine q_iload_n dX5_asked_5 rfl ?_
    refine q_bipush (v := nI 39) dX5_asked_6 rfl ?_
    refine q_icmp_gt (tgt := 19) dX5_asked_8 (by decide) (fun c680 => ?_) (fun c680 => ?_)
    ·
      refine q_iconst (v := nI 1) dX5_asked_19 rfl ?_
      refine q_goto (tgt := 37) dX5_asked_20 (by decide) ?_
      refine v_puti 0 kX5 (by decide) wPX5_66 rfl dX5_asked_37 hok H.1 rfl ⟨rfl, rfl⟩ (fun h hok => ?_)
      refine q_aload_n dX5_asked_40 rfl ?_
      refine v_getv 0 (x := nI 1) vs_at kX5 (by decide) wPX5_66 dX5_asked_41 hok H.1 rfl ?_
      refine q_if_le (tgt := 49) dX5_asked_44 (by decide) (fun q => absurd q (by decide)) (fun _ => ?_)
      refine q_iconst (v := nI 0) dX5_asked_47 rfl ?_
      exact q_iret dX5_asked_48 rfl (rfl) ⟨_, Or.inl ⟨fun q => q.2.1 c680, rfl, rfl⟩, hok, rfl⟩
    ·
      refine q_iload_n dX5_asked_11 rfl ?_
      refine q_aload_n dX5_asked_12 rfl ?_
      refine v_geti 15 kX5 (by decide) wPX5_72 dX5_asked_13 hok H.1 rfl ?_
      refine q_icmp_lt (tgt := 23) dX5_asked_16 (by decide) (fun c682 => ?_) (fun c682 => ?_)
      ·
        refine q_iload_n dX5_asked_23 rfl ?_
        refine q_iconst (v := nI 0) dX5_asked_24 rfl ?_
        refine q_iconst (v := nI 3) dX5_asked_25 rfl ?_
        refine w_callS (M' := mX5_in) [.int (a2), .int (nI 0), .int (nI 3)] [.ref o] dX5_asked_26 wPX5_120 wTX5_in wNX5 iX5_in oX5_in rfl hok (uX5_in Sc Γ n V a2 (nI 0) (nI 3) 0 4 (by decide) (by decide)) (Nat.zero_le _) (Nat.zero_le _) (Nat.le_of_ble_eq_true rfl) (Nat.le_of_ble_eq_true rfl) (Nat.le_of_ble_eq_true rfl) rfl (fun v h F hp hok => ?_) (fun x h F hp hok => by obtain ⟨-, y, e, -⟩ := hp; cases e)
        obtain ⟨rfl, y, e, ⟨rfl, g0⟩ | ⟨rfl, g0⟩⟩ := hp
        ·
          obtain rfl := Sum.inl.inj e
          obtain ⟨j683, hj683, rfl⟩ := inZ.nat g0 (by first | decide | omega)
          refine q_if_eq (tgt := 36) dX5_asked_29 (by decide) (fun q => absurd q (by decide)) (fun _ => ?_)
          refine q_iconst (v := nI 0) dX5_asked_32 rfl ?_
          refine q_goto (tgt := 37) dX5_asked_33 (by decide) ?_
          refine v_puti 0 kX5 (by decide) wPX5_66 rfl dX5_asked_37 hok H.1 rfl ⟨rfl, rfl⟩ (fun h hok => ?_)
          refine q_aload_n dX5_asked_40 rfl ?_
          refine v_getv 0 (x := nI 0) vs_at kX5 (by decide) wPX5_66 dX5_asked_41 hok H.1 rfl ?_
          refine q_if_le (tgt := 49) dX5_asked_44 (by decide) (fun _ => ?_) (fun q => absurd q (by decide))
          have hx : 0 ≤ (vset V o 0 (nI 0) o 15 - nI 1 - a1).toInt := sb_back hS c678 c682
          rcases (show j683 = 0 ∨ j683 = 1 ∨ j683 = 2 ∨ j683 = 3 by omega) with rfl | rfl | rfl | rfl
          ·
            refine kX5_asked_0 Sc Γ n (vset V o 0 (nI 0)) o ml H hm1 hml a1 hx (fun O h' eO hk => ?_) hok
            simp only [show nn (nI 0) = 0 from rfl]
            exact ⟨_, Or.inr (Or.inr ⟨⟨c678, c680, c682⟩, g0, eO, rfl⟩), hk, by trivial⟩
          ·
            refine kX5_asked_1 Sc Γ n (vset V o 0 (nI 0)) o ml H hm1 hml a1 hx (fun O h' eO hk => ?_) hok
            simp only [show nn (nI 1) = 1 from rfl]
            exact ⟨_, Or.inr (Or.inr ⟨⟨c678, c680, c682⟩, g0, eO, rfl⟩), hk, by trivial⟩
          ·
            refine kX5_asked_2 Sc Γ n (vset V o 0 (nI 0)) o ml H hm1 hml a1 hx (fun O h' eO hk => ?_) hok
            simp only [show nn (nI 2) = 2 from rfl]
            exact ⟨_, Or.inr (Or.inr ⟨⟨c678, c680, c682⟩, g0, eO, rfl⟩), hk, by trivial⟩
          ·
            refine kX5_asked_3 Sc Γ n (vset V o 0 (nI 0)) o ml H hm1 hml a1 hx (fun O h' eO hk => ?_) hok
            simp only [show nn (nI 3) = 3 from rfl]
            exact ⟨_, Or.inr (Or.inr ⟨⟨c678, c680, c682⟩, g0, eO, rfl⟩), hk, by trivial⟩
        ·
          obtain rfl := Sum.inl.inj e
          refine q_if_eq (tgt := 36) dX5_asked_29 (by decide) (fun _ => ?_) (fun q => absurd q (by decide))
          refine q_iconst (v := nI 2) dX5_asked_36 rfl ?_
          refine v_puti 0 kX5 (by decide) wPX5_66 rfl dX5_asked_37 hok H.1 rfl ⟨rfl, rfl⟩ (fun h hok => ?_)
          refine q_aload_n dX5_asked_40 rfl ?_
          refine v_getv 0 (x := nI 2) vs_at kX5 (by decide) wPX5_66 dX5_asked_41 hok H.1 rfl ?_
          refine q_if_le (tgt := 49) dX5_asked_44 (by decide) (fun q => absurd q (by decide)) (fun _ => ?_)
          refine q_iconst (v := nI 0) dX5_asked_47 rfl ?_
          exact q_iret dX5_asked_48 rfl (rfl) ⟨_, Or.inr (Or.inl ⟨⟨c678, c680, c682⟩, g0, rfl, rfl⟩), hok, rfl⟩
      ·
        refine q_iconst (v := nI 1) dX5_asked_19 rfl ?_
        refine q_goto (tgt := 37) dX5_asked_20 (by decide) ?_
        refine v_puti 0 kX5 (by decide) wPX5_66 rfl dX5_asked_37 hok H.1 rfl ⟨rfl, rfl⟩ (fun h hok => ?_)
        refine q_aload_n dX5_asked_40 rfl ?_
        refine v_getv 0 (x := nI 1) vs_at kX5 (by decide) wPX5_66 dX5_asked_41 hok H.1 rfl ?_
        refine q_if_le (tgt := 49) dX5_asked_44 (by decide) (fun q => absurd q (by decide)) (fun _ => ?_)
        refine q_iconst (v := nI 0) dX5_asked_47 rfl ?_
        exact q_iret dX5_asked_48 rfl (rfl) ⟨_, Or.inl ⟨fun q => c682 q.2.2, rfl, rfl⟩, hok, rfl⟩
