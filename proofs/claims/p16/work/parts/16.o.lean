set_option maxRecDepth 20000 in
set_option maxHeartbeats 4000000 in
theorem pX4_settings (Sc : q_S) (Γ : Nat → q_K) (n : Nat) (V : q_V) (X many : Nat) (H : sGF Γ X many) (hm1 : 1 ≤ many) (hm4 : many ≤ 4) (a1 : Int32) (a2 : Int32) (a3 : Int32) (a4 : Int32) : q_fp Sc Γ mX4_settings [.ref X, .int (a1), .int (a2), .int (a3), .int (a4)] n 4 24 V (q_pub (inZ a1 0 ((many : Int))) (inZ a2 1 8 ∧ inZ a3 1 201 ∧ inZ a4 1 (a3.toInt + 1)) V (some (.int (vX4_settings X many (nn a1) a2 a3 a4 V))) (fX4_settings X many (nn a1) a2 a3 a4 V)) := by
  intro h hok
  show q_A Sc mX4_settings 0 [.ref X, .int (a1), .int (a2), .int (a3), .int (a4)] [] h n 4 24 (fun O h' n' => ∃ F, (q_pub (inZ a1 0 ((many : Int))) (inZ a2 1 8 ∧ inZ a3 1 201 ∧ inZ a4 1 (a3.toInt + 1)) V (some (.int (vX4_settings X many (nn a1) a2 a3 a4 V))) (fX4_settings X many (nn a1) a2 a3 a4 V)) O F ∧ q_ok (gX Γ F) h' ∧ n' = n)
  refine q_iload_n dX4_settings_0 rfl ?_
  refine q_aload_n dX4_settings_1 rfl ?_
  refine v_getr 0 kX4 (by decide) wPX4_20 dX4_settings_2 hok H.1 rfl ?_
  refine v_alen dX4_settings_5 hok H.2.1 rfl rg_len ?_
  refine w_callS (M' := mX4_checkIndex) [.int (a1), .int (nI many)] [] dX4_settings_6 wPX4_34 wTX4_checkIndex wNX4 iX4_checkIndex oX4_checkIndex rfl hok (wX4_checkIndex Sc Γ n V a1 (nI many) ((many : Int)) (nI_toInt (by omega))) (Nat.le_of_ble_eq_true rfl) (Nat.le_of_ble_eq_true rfl) (Nat.le_of_ble_eq_true rfl) (Nat.le_of_ble_eq_true rfl) (Nat.le_of_ble_eq_true rfl) rfl (fun v h F hp hok => ?_) (fun x h F hp hok => ?_)
  rotate_left
  ·
    obtain ⟨rfl, ⟨e, -⟩ | ⟨e, gn0⟩⟩ := hp
    · cases e
    obtain rfl := Sum.inr.inj e
    exact t_out rfl ⟨_, Or.inl ⟨(fun q => gn0 q), rfl, rfl⟩, hok, rfl⟩
  obtain ⟨rfl, ⟨e, g0⟩ | ⟨e, -⟩⟩ := hp
  rotate_left
  · cases e
  obtain rfl := Sum.inl.inj e
  obtain ⟨j404, hj404, rfl⟩ := inZ.nat g0 (by first | decide | omega)
  refine q_iload_n dX4_settings_9 rfl ?_
  refine q_iconst (v := nI 1) dX4_settings_10 rfl ?_
  refine q_bipush (v := nI 7) dX4_settings_11 rfl ?_
  refine w_callS (M' := mX4_checkNumber) [.int (a2), .int (nI 1), .int (nI 7)] [] dX4_settings_13 wPX4_38 wTX4_checkNumber wNX4 iX4_checkNumber oX4_checkNumber rfl hok (wX4_checkNumber Sc Γ n V a2 (nI 1) (nI 7) 1 8 (by decide) (by decide)) (Nat.le_of_ble_eq_true rfl) (Nat.le_of_ble_eq_true rfl) (Nat.le_of_ble_eq_true rfl) (Nat.le_of_ble_eq_true rfl) (Nat.le_of_ble_eq_true rfl) rfl (fun v h F hp hok => ?_) (fun x h F hp hok => ?_)
  rotate_left
  ·
    obtain ⟨rfl, ⟨e, -⟩ | ⟨e, gn1⟩⟩ := hp
    · cases e
    obtain rfl := Sum.inr.inj e
    exact t_out rfl ⟨_, Or.inr (Or.inl ⟨g0, (fun q => gn1 q.1), rfl, rfl⟩), hok, rfl⟩
  obtain ⟨rfl, ⟨e, g1⟩ | ⟨e, -⟩⟩ := hp
  rotate_left
  · cases e
  obtain rfl := Sum.inl.inj e
  refine q_iload_n dX4_settings_16 rfl ?_
  refine q_iconst (v := nI 1) dX4_settings_17 rfl ?_
  refine q_sipush (v := nI 200) dX4_settings_18 rfl ?_
  refine w_callS (M' := mX4_checkNumber) [.int (a3), .int (nI 1), .int (nI 200)] [] dX4_settings_21 wPX4_38 wTX4_checkNumber wNX4 iX4_checkNumber oX4_checkNumber rfl hok (wX4_checkNumber Sc Γ n V a3 (nI 1) (nI 200) 1 201 (by decide) (by decide)) (Nat.le_of_ble_eq_true rfl) (Nat.le_of_ble_eq_true rfl) (Nat.le_of_ble_eq_true rfl) (Nat.le_of_ble_eq_true rfl) (Nat.le_of_ble_eq_true rfl) rfl (fun v h F hp hok => ?_) (fun x h F hp hok => ?_)
  rotate_left
  ·
    obtain ⟨rfl, ⟨e, -⟩ | ⟨e, gn2⟩⟩ := hp
    · cases e
    obtain rfl := Sum.inr.inj e
    exact t_out rfl ⟨_, Or.inr (Or.inl ⟨g0, (fun q => gn2 q.2.1), rfl, rfl⟩), hok, rfl⟩
  obtain ⟨rfl, ⟨e, g2⟩ | ⟨e, -⟩⟩ := hp
  rotate_left
  · cases e
  obtain rfl := Sum.inl.inj e
  refine q_iload dX4_settings_24 rfl ?_
  refine q_iconst (v := nI 1) dX4_settings_26 rfl ?_
  refine q_iload_n dX4_settings_27 rfl ?_
  refine w_callS (M' := mX4_checkNumber) [.int (a4), .int (nI 1), .int (a3)] [] dX4_settings_28 wPX4_38 wTX4_checkNumber wNX4 iX4_checkNumber oX4_checkNumber rfl hok (wX4_checkNumber Sc Γ n V a4 (nI 1) a3 1 (a3.toInt + 1) (by decide) rfl) (Nat.le_of_ble_eq_true rfl) (Nat.le_of_ble_eq_true rfl) (Nat.le_of_ble_eq_true rfl) (Nat.le_of_ble_eq_true rfl) (Nat.le_of_ble_eq_true rfl) rfl (fun v h F hp hok => ?_) (fun x h F hp hok => ?_)
  rotate_left
  ·
    obtain ⟨rfl, ⟨e, -⟩ | ⟨e, gn3⟩⟩ := hp
    · cases e
    obtain rfl := Sum.inr.inj e
    exact t_out rfl ⟨_, Or.inr (Or.inl ⟨g0, (fun q => gn3 q.2.2), rfl, rfl⟩), hok, rfl⟩
  obtain ⟨rfl, ⟨e, g3⟩ | ⟨e, -⟩⟩ := hp
  rotate_left
  · cases e
  obtain rfl := Sum.inl.inj e
  refine kX4_settings Sc Γ n V X many H hm1 hm4 j404 (by omega) a2 a3 a4 (fun O h' eO hk => ?_) hok
  simp only [nn_nI (show j404 < 2 ^ 31 by omega)]
  exact ⟨_, Or.inr (Or.inr ⟨g0, ⟨g1, g2, g3⟩, eO, rfl⟩), hk, by trivial⟩
set_option maxRecDepth 20000 in
set_option maxHeartbeats 4000000 in
theorem pX4_report (Sc : q_S) (Γ : Nat → q_K) (n : Nat) (V : q_V) (X many : Nat) (H : sGF Γ X many) (hm1 : 1 ≤ many) (hm4 : many ≤ 4) (a1 : Int32) (a2 : Int32) (a3 : Int32) (a4 : Int32) : q_fp Sc Γ mX4_report [.ref X, .int (a1), .int (a2), .int (a3), .int (a4)] n 4 24 V (q_pub (inZ a1 0 ((many : Int)) ∧ inZ a2 0 8) (inZ a3 0 6 ∧ inZ a4 0 65536) V (some (.int (vX4_report X many (nn a1) (nn a2) a4 (nn a3) V))) (fX4_report X many (nn a1) (nn a2) a4 (nn a3) V)) := by
  intro h hok
  show q_A Sc mX4_report 0 [.ref X, .int (a1), .int (a2), .int (a3), .int (a4), .retAddr 0] [] h n 4 24 (fun O h' n' => ∃ F, (q_pub (inZ a1 0 ((many : Int)) ∧ inZ a2 0 8) (inZ a3 0 6 ∧ inZ a4 0 65536) V (some (.int (vX4_report X many (nn a1) (nn a2) a4 (nn a3) V))) (fX4_report X many (nn a1) (nn a2) a4 (nn a3) V)) O F ∧ q_ok (gX Γ F) h' ∧ n' = n)
  refine q_iload_n dX4_report_0 rfl ?_
  refine q_aload_n dX4_report_1 rfl ?_
  refine v_getr 0 kX4 (by decide) wPX4_20 dX4_report_2 hok H.1 rfl ?_
  refine v_alen dX4_report_5 hok H.2.1 rfl rg_len ?_
  refine w_callS (M' := mX4_checkIndex) [.int (a1), .int (nI many)] [] dX4_report_6 wPX4_34 wTX4_checkIndex wNX4 iX4_checkIndex oX4_checkIndex rfl hok (wX4_checkIndex Sc Γ n V a1 (nI many) ((many : Int)) (nI_toInt (by omega))) (Nat.le_of_ble_eq_true rfl) (Nat.le_of_ble_eq_true rfl) (Nat.le_of_ble_eq_true rfl) (Nat.le_of_ble_eq_true rfl) (Nat.le_of_ble_eq_true rfl) rfl (fun v h F hp hok => ?_) (fun x h F hp hok => ?_)
  rotate_left
  ·
    obtain ⟨rfl, ⟨e, -⟩ | ⟨e, gn0⟩⟩ := hp
    · cases e
    obtain rfl := Sum.inr.inj e
    exact t_out rfl ⟨_, Or.inl ⟨(fun q => gn0 q.1), rfl, rfl⟩, hok, rfl⟩
  obtain ⟨rfl, ⟨e, g0⟩ | ⟨e, -⟩⟩ := hp
  rotate_left
  · cases e
  obtain rfl := Sum.inl.inj e
  obtain ⟨j405, hj405, rfl⟩ := inZ.nat g0 (by first | decide | omega)
  refine q_iload_n dX4_report_9 rfl ?_
  refine q_bipush (v := nI 8) dX4_report_10 rfl ?_
  refine w_callS (M' := mX4_checkIndex) [.int (a2), .int (nI 8)] [] dX4_report_12 wPX4_34 wTX4_checkIndex wNX4 iX4_checkIndex oX4_checkIndex rfl hok (wX4_checkIndex Sc Γ n V a2 (nI 8) 8 (by decide)) (Nat.le_of_ble_eq_true rfl) (Nat.le_of_ble_eq_true rfl) (Nat.le_of_ble_eq_true rfl) (Nat.le_of_ble_eq_true rfl) (Nat.le_of_ble_eq_true rfl) rfl (fun v h F hp hok => ?_) (fun x h F hp hok => ?_)
  rotate_left
  ·
    obtain ⟨rfl, ⟨e, -⟩ | ⟨e, gn1⟩⟩ := hp
    · cases e
    obtain rfl := Sum.inr.inj e
    exact t_out rfl ⟨_, Or.inl ⟨(fun q => gn1 q.2), rfl, rfl⟩, hok, rfl⟩
  obtain ⟨rfl, ⟨e, g1⟩ | ⟨e, -⟩⟩ := hp
  rotate_left
  · cases e
  obtain rfl := Sum.inl.inj e
  obtain ⟨j406, hj406, rfl⟩ := inZ.nat g1 (by first | decide | omega)
  refine q_iload_n dX4_report_15 rfl ?_
  refine q_iconst (v := nI 0) dX4_report_16 rfl ?_
  refine q_iconst (v := nI 5) dX4_report_17 rfl ?_
  refine w_callS (M' := mX4_checkNumber) [.int (a3), .int (nI 0), .int (nI 5)] [] dX4_report_18 wPX4_38 wTX4_checkNumber wNX4 iX4_checkNumber oX4_checkNumber rfl hok (wX4_checkNumber Sc Γ n V a3 (nI 0) (nI 5) 0 6 (by decide) (by decide)) (Nat.le_of_ble_eq_true rfl) (Nat.le_of_ble_eq_true rfl) (Nat.le_of_ble_eq_true rfl) (Nat.le_of_ble_eq_true rfl) (Nat.le_of_ble_eq_true rfl) rfl (fun v h F hp hok => ?_) (fun x h F hp hok => ?_)
  rotate_left
  ·
    obtain ⟨rfl, ⟨e, -⟩ | ⟨e, gn2⟩⟩ := hp
    · cases e
    obtain rfl := Sum.inr.inj e
    exact t_out rfl ⟨_, Or.inr (Or.inl ⟨⟨g0, g1⟩, (fun q => gn2 q.1), rfl, rfl⟩), hok, rfl⟩
  obtain ⟨rfl, ⟨e, g2⟩ | ⟨e, -⟩⟩ := hp
  rotate_left
  · cases e
  obtain rfl := Sum.inl.inj e
  obtain ⟨j407, hj407, rfl⟩ := inZ.nat g2 (by first | decide | omega)
  refine q_iload dX4_report_21 rfl ?_
  refine q_iconst (v := nI 0) dX4_report_23 rfl ?_
  refine q_ldc dX4_report_24 wPX4_49 ?_
  refine w_callS (M' := mX4_checkNumber) [.int (a4), .int (nI 0), .int (65535)] [] dX4_report_26 wPX4_38 wTX4_checkNumber wNX4 iX4_checkNumber oX4_checkNumber rfl hok (wX4_checkNumber Sc Γ n V a4 (nI 0) 65535 0 65536 (by decide) (by decide)) (Nat.le_of_ble_eq_true rfl) (Nat.le_of_ble_eq_true rfl) (Nat.le_of_ble_eq_true rfl) (Nat.le_of_ble_eq_true rfl) (Nat.le_of_ble_eq_true rfl) rfl (fun v h F hp hok => ?_) (fun x h F hp hok => ?_)
  rotate_left
  ·
    obtain ⟨rfl, ⟨e, -⟩ | ⟨e, gn3⟩⟩ := hp
    · cases e
    obtain rfl := Sum.inr.inj e
    exact t_out rfl ⟨_, Or.inr (Or.inl ⟨⟨g0, g1⟩, (fun q => gn3 q.2), rfl, rfl⟩), hok, rfl⟩
  obtain ⟨rfl, ⟨e, g3⟩ | ⟨e, -⟩⟩ := hp
  rotate_left
  · cases e
  obtain rfl := Sum.inl.inj e
  rcases (show j407 = 0 ∨ j407 = 1 ∨ j407 = 2 ∨ j407 = 3 ∨ j407 = 4 ∨ j407 = 5 by omega) with rfl | rfl | rfl | rfl | rfl | rfl
  ·
    refine kX4_report_0 Sc Γ n V X many H hm1 hm4 j405 (by omega) j406 (by omega) a4 (fun O h' eO hk => ?_) hok
    simp only [nn_nI (show j405 < 2 ^ 31 by omega), nn_nI (show j406 < 2 ^ 31 by omega), show nn (nI 0) = 0 from rfl]
    exact ⟨_, Or.inr (Or.inr ⟨⟨g0, g1⟩, ⟨g2, g3⟩, eO, rfl⟩), hk, by trivial⟩
  ·
    refine kX4_report_1 Sc Γ n V X many H hm1 hm4 j405 (by omega) j406 (by omega) a4 (fun O h' eO hk => ?_) hok
    simp only [nn_nI (show j405 < 2 ^ 31 by omega), nn_nI (show j406 < 2 ^ 31 by omega), show nn (nI 1) = 1 from rfl]
    exact ⟨_, Or.inr (Or.inr ⟨⟨g0, g1⟩, ⟨g2, g3⟩, eO, rfl⟩), hk, by trivial⟩
  ·
    refine kX4_report_2 Sc Γ n V X many H hm1 hm4 j405 (by omega) j406 (by omega) a4 (fun O h' eO hk => ?_) hok
    simp only [nn_nI (show j405 < 2 ^ 31 by omega), nn_nI (show j406 < 2 ^ 31 by omega), show nn (nI 2) = 2 from rfl]
    exact ⟨_, Or.inr (Or.inr ⟨⟨g0, g1⟩, ⟨g2, g3⟩, eO, rfl⟩), hk, by trivial⟩
  ·
    refine kX4_report_3 Sc Γ n V X many H hm1 hm4 j405 (by omega) j406 (by omega) a4 (fun O h' eO hk => ?_) hok
    simp only [nn_nI (show j405 < 2 ^ 31 by omega), nn_nI (show j406 < 2 ^ 31 by omega), show nn (nI 3) = 3 from rfl]
    exact ⟨_, Or.inr (Or.inr ⟨⟨g0, g1⟩, ⟨g2, g3⟩, eO, rfl⟩), hk, by trivial⟩
  ·
    refine kX4_report_4 Sc Γ n V X many H hm1 hm4 j405 (by omega) j406 (by omega) a4 (fun O h' eO hk => ?_) hok
    simp only [nn_nI (show j405 < 2 ^ 31 by omega), nn_nI (show j406 < 2 ^ 31 by omega), show nn (nI 4) = 4 from rfl]
    exact ⟨_, Or.inr (Or.inr ⟨⟨g0, g1⟩, ⟨g2, g3⟩, eO, rfl⟩), hk, by trivial⟩
  ·
    refine kX4_report_5 Sc Γ n V X many H hm1 hm4 j405 (by omega) j406 (by omega) a4 (fun O h' eO hk => ?_) hok
    simp only [nn_nI (show j405 < 2 ^ 31 by omega), nn_nI (show j406 < 2 ^ 31 by omega), show nn (nI 5) = 5 from rfl]
    exact ⟨_, Or.inr (Or.inr ⟨⟨g0, g1⟩, ⟨g2, g3⟩, eO, rfl⟩), hk, by trivial⟩
set_option maxRecDepth 20000 in
set_option maxHeartbeats 4000000 in
theorem pX4_tick (Sc : q_S) (Γ : Nat → q_K) (n : Nat) (V : q_V) (X many : Nat) (H : sGF Γ X many) (hm1 : 1 ≤ many) (hm4 : many ≤ 4) (a1 : Int32) : q_fp Sc Γ mX4_tick [.ref X, .int (a1)] n 4 24 V (q_pub (True) (inZ a1 0 2001) V (some (.int (vX4_tick X many (nn a1) V))) (fX4_tick X many (nn a1) V)) := by
  intro h hok
  show q_A Sc mX4_tick 0 [.ref X, .int (a1), .retAddr 0, .retAddr 0] [] h n 4 24 (fun O h' n' => ∃ F, (q_pub (True) (inZ a1 0 2001) V (some (.int (vX4_tick X many (nn a1) V))) (fX4_tick X many (nn a1) V)) O F ∧ q_ok (gX Γ F) h' ∧ n' = n)
  refine q_iload_n dX4_tick_0 rfl ?_
  refine q_iconst (v := nI 0) dX4_tick_1 rfl ?_
  refine q_sipush (v := nI 2000) dX4_tick_2 rfl ?_
  refine w_callS (M' := mX4_checkNumber) [.int (a1), .int (nI 0), .int (nI 2000)] [] dX4_tick_5 wPX4_38 wTX4_checkNumber wNX4 iX4_checkNumber oX4_checkNumber rfl hok (wX4_checkNumber Sc Γ n V a1 (nI 0) (nI 2000) 0 2001 (by decide) (by decide)) (Nat.le_of_ble_eq_true rfl) (Nat.le_of_ble_eq_true rfl) (Nat.le_of_ble_eq_true rfl) (Nat.le_of_ble_eq_true rfl) (Nat.le_of_ble_eq_true rfl) rfl (fun v h F hp hok => ?_) (fun x h F hp hok => ?_)
  rotate_left
  ·
    obtain ⟨rfl, ⟨e, -⟩ | ⟨e, gn0⟩⟩ := hp
    · cases e
    obtain rfl := Sum.inr.inj e
    exact t_out rfl ⟨_, Or.inr (Or.inl ⟨trivial, (fun q => gn0 q), rfl, rfl⟩), hok, rfl⟩
  obtain ⟨rfl, ⟨e, g0⟩ | ⟨e, -⟩⟩ := hp
  rotate_left
  · cases e
  obtain rfl := Sum.inl.inj e
  obtain ⟨j408, hj408, rfl⟩ := inZ.nat g0 (by first | decide | omega)
  refine kX4_tick Sc Γ n V X many H hm1 hm4 j408 (by omega) (fun O h' eO hk => ?_) hok
  simp only [nn_nI (show j408 < 2 ^ 31 by omega)]
  exact ⟨_, Or.inr (Or.inr ⟨trivial, g0, eO, rfl⟩), hk, by trivial⟩
set_option maxRecDepth 20000 in
set_option maxHeartbeats 4000000 in
theorem pX4_member (Sc : q_S) (Γ : Nat → q_K) (n : Nat) (V : q_V) (X many : Nat) (H : sGF Γ X many) (hm1 : 1 ≤ many) (hm4 : many ≤ 4) (a1 : Int32) (a2 : Int32) (a3 : Int32) (a4 : Int32) (b4 : q_bl a4) (a5 : Int32) : q_fp Sc Γ mX4_member [.ref X, .int (a1), .int (a2), .int (a3), .int (a4), .int (a5)] n 4 24 V (q_pub (inZ a1 0 ((many : Int)) ∧ inZ a2 0 6 ∧ inZ a3 0 8) (inZ a5 0 65536) V (some (.int (vX4_member X many (nn a1) (nn a2) (nn a3) a4 a5 V))) (fX4_member X many (nn a1) (nn a2) (nn a3) a4 a5 V)) := by
  intro h hok
  show q_A Sc mX4_member 0 [.ref X, .int (a1), .int (a2), .int (a3), .int (a4), .int (a5), .retAddr 0] [] h n 4 24 (fun O h' n' => ∃ F, (q_pub (inZ a1 0 ((many : Int)) ∧ inZ a2 0 6 ∧ inZ a3 0 8) (inZ a5 0 65536) V (some (.int (vX4_member X many (nn a1) (nn a2) (nn a3) a4 a5 V))) (fX4_member X many (nn a1) (nn a2) (nn a3) a4 a5 V)) O F ∧ q_ok (gX Γ F) h' ∧ n' = n)
  refine q_iload_n dX4_member_0 rfl ?_
  refine q_aload_n dX4_member_1 rfl ?_
  refine v_getr 0 kX4 (by decide) wPX4_20 dX4_member_2 hok H.1 rfl ?_
  refine v_alen dX4_member_5 hok H.2.1 rfl rg_len ?_
  refine w_callS (M' := mX4_checkIndex) [.int (a1), .int (nI many)] [] dX4_member_6 wPX4_34 wTX4_checkIndex wNX4 iX4_checkIndex oX4_checkIndex rfl hok (wX4_checkIndex Sc Γ n V a1 (nI many) ((many : Int)) (nI_toInt (by omega))) (Nat.le_of_ble_eq_true rfl) (Nat.le_of_ble_eq_true rfl) (Nat.le_of_ble_eq_true rfl) (Nat.le_of_ble_eq_true rfl) (Nat.le_of_ble_eq_true rfl) rfl (fun v h F hp hok => ?_) (fun x h F hp hok => ?_)
  rotate_left
  ·
    obtain ⟨rfl, ⟨e, -⟩ | ⟨e, gn0⟩⟩ := hp
    · cases e
    obtain rfl := Sum.inr.inj e
    exact t_out rfl ⟨_, Or.inl ⟨(fun q => gn0 q.1), rfl, rfl⟩, hok, rfl⟩
  obtain ⟨rfl, ⟨e, g0⟩ | ⟨e, -⟩⟩ := hp
  rotate_left
  · cases e
  obtain rfl := Sum.inl.inj e
  obtain ⟨j409, hj409, rfl⟩ := inZ.nat g0 (by first | decide | omega)
  refine q_iload_n dX4_member_9 rfl ?_
  refine q_bipush (v := nI 6) dX4_member_10 rfl ?_
  refine w_callS (M' := mX4_checkIndex) [.int (a2), .int (nI 6)] [] dX4_member_12 wPX4_34 wTX4_checkIndex wNX4 iX4_checkIndex oX4_checkIndex rfl hok (wX4_checkIndex Sc Γ n V a2 (nI 6) 6 (by decide)) (Nat.le_of_ble_eq_true rfl) (Nat.le_of_ble_eq_true rfl) (Nat.le_of_ble_eq_true rfl) (Nat.le_of_ble_eq_true rfl) (Nat.le_of_ble_eq_true rfl) rfl (fun v h F hp hok => ?_) (fun x h F hp hok => ?_)
  rotate_left
  ·
    obtain ⟨rfl, ⟨e, -⟩ | ⟨e, gn1⟩⟩ := hp
    · cases e
    obtain rfl := Sum.inr.inj e
    exact t_out rfl ⟨_, Or.inl ⟨(fun q => gn1 q.2.1), rfl, rfl⟩, hok, rfl⟩
  obtain ⟨rfl, ⟨e, g1⟩ | ⟨e, -⟩⟩ := hp
  rotate_left
  · cases e
  obtain rfl := Sum.inl.inj e
  obtain ⟨j410, hj410, rfl⟩ := inZ.nat g1 (by first | decide | omega)
  refine q_iload_n dX4_member_15 rfl ?_
  refine q_bipush (v := nI 8) dX4_member_16 rfl ?_
  refine w_callS (M' := mX4_checkIndex) [.int (a3), .int (nI 8)] [] dX4_member_18 wPX4_34 wTX4_checkIndex wNX4 iX4_checkIndex oX4_checkIndex rfl hok (wX4_checkIndex Sc Γ n V a3 (nI 8) 8 (by decide)) (Nat.le_of_ble_eq_true rfl) (Nat.le_of_ble_eq_true rfl) (Nat.le_of_ble_eq_true rfl) (Nat.le_of_ble_eq_true rfl) (Nat.le_of_ble_eq_true rfl) rfl (fun v h F hp hok => ?_) (fun x h F hp hok => ?_)
  rotate_left
  ·
    obtain ⟨rfl, ⟨e, -⟩ | ⟨e, gn2⟩⟩ := hp
    · cases e
    obtain rfl := Sum.inr.inj e
    exact t_out rfl ⟨_, Or.inl ⟨(fun q => gn2 q.2.2), rfl, rfl⟩, hok, rfl⟩
  obtain ⟨rfl, ⟨e, g2⟩ | ⟨e, -⟩⟩ := hp
  rotate_left
  · cases e
  obtain rfl := Sum.inl.inj e
  obtain ⟨j411, hj411, rfl⟩ := inZ.nat g2 (by first | decide | omega)
  refine q_iload dX4_member_21 rfl ?_
  refine q_iconst (v := nI 0) dX4_member_23 rfl ?_
  refine q_ldc dX4_member_24 wPX4_49 ?_
  refine w_callS (M' := mX4_checkNumber) [.int (a5), .int (nI 0), .int (65535)] [] dX4_member_26 wPX4_38 wTX4_checkNumber wNX4 iX4_checkNumber oX4_checkNumber rfl hok (wX4_checkNumber Sc Γ n V a5 (nI 0) 65535 0 65536 (by decide) (by decide)) (Nat.le_of_ble_eq_true rfl) (Nat.le_of_ble_eq_true rfl) (Nat.le_of_ble_eq_true rfl) (Nat.le_of_ble_eq_true rfl) (Nat.le_of_ble_eq_true rfl) rfl (fun v h F hp hok => ?_) (fun x h F hp hok => ?_)
  rotate_left
  ·
    obtain ⟨rfl, ⟨e, -⟩ | ⟨e, gn3⟩⟩ := hp
    · cases e
    obtain rfl := Sum.inr.inj e
    exact t_out rfl ⟨_, Or.inr (Or.inl ⟨⟨g0, g1, g2⟩, (fun q => gn3 q), rfl, rfl⟩), hok, rfl⟩
  obtain ⟨rfl, ⟨e, g3⟩ | ⟨e, -⟩⟩ := hp
  rotate_left
  · cases e
  obtain rfl := Sum.inl.inj e
  refine kX4_member Sc Γ n V X many H hm1 hm4 j409 (by omega) j410 (by omega) j411 (by omega) a4 (b4) a5 (fun O h' eO hk => ?_) hok
  simp only [nn_nI (show j409 < 2 ^ 31 by omega), nn_nI (show j410 < 2 ^ 31 by omega), nn_nI (show j411 < 2 ^ 31 by omega)]
  exact ⟨_, Or.inr (Or.inr ⟨⟨g0, g1, g2⟩, g3, eO, rfl⟩), hk, by trivial⟩
set_option maxRecDepth 20000 in
set_option maxHeartbeats 4000000 in
theorem pX4_answer (Sc : q_S) (Γ : Nat → q_K) (n : Nat) (V : q_V) (X many : Nat) (H : sGF Γ X many) (hm1 : 1 ≤ many) (hm4 : many ≤ 4) (a1 : Int32) (a2 : Int32) : q_fp Sc Γ mX4_answer [.ref X, .int (a1), .int (a2)] n 4 24 V (q_pub (inZ a1 0 ((many : Int)) ∧ inZ a2 0 6) (True) V (some (.int (vX4_answer X many (nn a1) (nn a2) V))) (fX4_answer X many (nn a1) (nn a2) V)) := by
  intro h hok
  show q_A Sc mX4_answer 0 [.ref X, .int (a1), .int (a2)] [] h n 4 24 (fun O h' n' => ∃ F, (q_pub (inZ a1 0 ((many : Int)) ∧ inZ a2 0 6) (True) V (some (.int (vX4_answer X many (nn a1) (nn a2) V))) (fX4_answer X many (nn a1) (nn a2) V)) O F ∧ q_ok (gX Γ F) h' ∧ n' = n)
  refine q_iload_n dX4_answer_0 rfl ?_
  refine q_aload_n dX4_answer_1 rfl ?_
  refine v_getr 0 kX4 (by decide) wPX4_20 dX4_answer_2 hok H.1 rfl ?_
  refine v_alen dX4_answer_5 hok H.2.1 rfl rg_len ?_
  refine w_callS (M' := mX4_checkIndex) [.int (a1), .int (nI many)] [] dX4_answer_6 wPX4_34 wTX4_checkIndex wNX4 iX4_checkIndex oX4_checkIndex rfl hok (wX4_checkIndex Sc Γ n V a1 (nI many) ((many : Int)) (nI_toInt (by omega))) (Nat.le_of_ble_eq_true rfl) (Nat.le_of_ble_eq_true rfl) (Nat.le_of_ble_eq_true rfl) (Nat.le_of_ble_eq_true rfl) (Nat.le_of_ble_eq_true rfl) rfl (fun v h F hp hok => ?_) (fun x h F hp hok => ?_)
  rotate_left
  ·
    obtain ⟨rfl, ⟨e, -⟩ | ⟨e, gn0⟩⟩ := hp
    · cases e
    obtain rfl := Sum.inr.inj e
    exact t_out rfl ⟨_, Or.inl ⟨(fun q => gn0 q.1), rfl, rfl⟩, hok, rfl⟩
  obtain ⟨rfl, ⟨e, g0⟩ | ⟨e, -⟩⟩ := hp
  rotate_left
  · cases e
  obtain rfl := Sum.inl.inj e
  obtain ⟨j412, hj412, rfl⟩ := inZ.nat g0 (by first | decide | omega)
  refine q_iload_n dX4_answer_9 rfl ?_
  refine q_bipush (v := nI 6) dX4_answer_10 rfl ?_
  refine w_callS (M' := mX4_checkIndex) [.int (a2), .int (nI 6)] [] dX4_answer_12 wPX4_34 wTX4_checkIndex wNX4 iX4_checkIndex oX4_checkIndex rfl hok (wX4_checkIndex Sc Γ n V a2 (nI 6) 6 (by decide)) (Nat.le_of_ble_eq_true rfl) (Nat.le_of_ble_eq_true rfl) (Nat.le_of_ble_eq_true rfl) (Nat.le_of_ble_eq_true rfl) (Nat.le_of_ble_eq_true rfl) rfl (fun v h F hp hok => ?_) (fun x h F hp hok => ?_)
  rotate_left
  ·
    obtain ⟨rfl, ⟨e, -⟩ | ⟨e, gn1⟩⟩ := hp
    · cases e
    obtain rfl := Sum.inr.inj e
    exact t_out rfl ⟨_, Or.inl ⟨(fun q => gn1 q.2), rfl, rfl⟩, hok, rfl⟩
  obtain ⟨rfl, ⟨e, g1⟩ | ⟨e, -⟩⟩ := hp
  rotate_left
  · cases e
  obtain rfl := Sum.inl.inj e
  obtain ⟨j413, hj413, rfl⟩ := inZ.nat g1 (by first | decide | omega)
  refine kX4_answer Sc Γ n V X many H hm1 hm4 j412 (by omega) j413 (by omega) (fun O h' eO hk => ?_) hok
  simp only [nn_nI (show j412 < 2 ^ 31 by omega), nn_nI (show j413 < 2 ^ 31 by omega)]
  exact ⟨_, Or.inr (Or.inr ⟨⟨g0, g1⟩, trivial, eO, rfl⟩), hk, by trivial⟩
set_option maxRecDepth 20000 in
set_option maxHeartbeats 4000000 in
theorem pX4_checkPlace (Sc : q_S) (Γ : Nat → q_K) (n : Nat) (V : q_V) (X many : Nat) (H : sGF Γ X many) (hm1 : 1 ≤ many) (hm4 : many ≤ 4) (a1 : Int32) (a2 : Int32) (a3 : Int32) : q_fp Sc Γ mX4_checkPlace [.ref X, .int (a1), .int (a2), .int (a3)] n 4 24 V (q_pub (inZ a1 0 ((many : Int)) ∧ inZ a2 0 8 ∧ inZ a3 0 16) (True) V (none) (V)) := by
  intro h hok
  show q_A Sc mX4_checkPlace 0 [.ref X, .int (a1), .int (a2), .int (a3)] [] h n 4 24 (fun O h' n' => ∃ F, (q_pub (inZ a1 0 ((many : Int)) ∧ inZ a2 0 8 ∧ inZ a3 0 16) (True) V (none) (V)) O F ∧ q_ok (gX Γ F) h' ∧ n' = n)
  refine q_iload_n dX4_checkPlace_0 rfl ?_
  refine q_aload_n dX4_checkPlace_1 rfl ?_
  refine v_getr 0 kX4 (by decide) wPX4_20 dX4_checkPlace_2 hok H.1 rfl ?_
  refine v_alen dX4_checkPlace_5 hok H.2.1 rfl rg_len ?_
  refine w_callS (M' := mX4_checkIndex) [.int (a1), .int (nI many)] [] dX4_checkPlace_6 wPX4_34 wTX4_checkIndex wNX4 iX4_checkIndex oX4_checkIndex rfl hok (wX4_checkIndex Sc Γ n V a1 (nI many) ((many : Int)) (nI_toInt (by omega))) (Nat.le_of_ble_eq_true rfl) (Nat.le_of_ble_eq_true rfl) (Nat.le_of_ble_eq_true rfl) (Nat.le_of_ble_eq_true rfl) (Nat.le_of_ble_eq_true rfl) rfl (fun v h F hp hok => ?_) (fun x h F hp hok => ?_)
  rotate_left
  ·
    obtain ⟨rfl, ⟨e, -⟩ | ⟨e, gn0⟩⟩ := hp
    · cases e
    obtain rfl := Sum.inr.inj e
    exact t_out rfl ⟨_, Or.inl ⟨(fun q => gn0 q.1), rfl, rfl⟩, hok, rfl⟩
  obtain ⟨rfl, ⟨e, g0⟩ | ⟨e, -⟩⟩ := hp
  rotate_left
  · cases e
  obtain rfl := Sum.inl.inj e
  obtain ⟨j414, hj414, rfl⟩ := inZ.nat g0 (by first | decide | omega)
  refine q_iload_n dX4_checkPlace_9 rfl ?_
  refine q_bipush (v := nI 8) dX4_checkPlace_10 rfl ?_
  refine w_callS (M' := mX4_checkIndex) [.int (a2), .int (nI 8)] [] dX4_checkPlace_12 wPX4_34 wTX4_checkIndex wNX4 iX4_checkIndex oX4_checkIndex rfl hok (wX4_checkIndex Sc Γ n V a2 (nI 8) 8 (by decide)) (Nat.le_of_ble_eq_true rfl) (Nat.le_of_ble_eq_true rfl) (Nat.le_of_ble_eq_true rfl) (Nat.le_of_ble_eq_true rfl) (Nat.le_of_ble_eq_true rfl) rfl (fun v h F hp hok => ?_) (fun x h F hp hok => ?_)
  rotate_left
  ·
    obtain ⟨rfl, ⟨e, -⟩ | ⟨e, gn1⟩⟩ := hp
    · cases e
    obtain rfl := Sum.inr.inj e
    exact t_out rfl ⟨_, Or.inl ⟨(fun q => gn1 q.2.1), rfl, rfl⟩, hok, rfl⟩
  obtain ⟨rfl, ⟨e, g1⟩ | ⟨e, -⟩⟩ := hp
  rotate_left
  · cases e
  obtain rfl := Sum.inl.inj e
  obtain ⟨j415, hj415, rfl⟩ := inZ.nat g1 (by first | decide | omega)
  refine q_iload_n dX4_checkPlace_15 rfl ?_
  refine q_bipush (v := nI 16) dX4_checkPlace_16 rfl ?_
  refine w_callS (M' := mX4_checkIndex) [.int (a3), .int (nI 16)] [] dX4_checkPlace_18 wPX4_34 wTX4_checkIndex wNX4 iX4_checkIndex oX4_checkIndex rfl hok (wX4_checkIndex Sc Γ n V a3 (nI 16) 16 (by decide)) (Nat.le_of_ble_eq_true rfl) (Nat.le_of_ble_eq_true rfl) (Nat.le_of_ble_eq_true rfl) (Nat.le_of_ble_eq_true rfl) (Nat.le_of_ble_eq_true rfl) rfl (fun v h F hp hok => ?_) (fun x h F hp hok => ?_)
  rotate_left
  ·
    obtain ⟨rfl, ⟨e, -⟩ | ⟨e, gn2⟩⟩ := hp
    · cases e
    obtain rfl := Sum.inr.inj e
    exact t_out rfl ⟨_, Or.inl ⟨(fun q => gn2 q.2.2), rfl, rfl⟩, hok, rfl⟩
  obtain ⟨rfl, ⟨e, g2⟩ | ⟨e, -⟩⟩ := hp
  rotate_left
  · cases e
  obtain rfl := Sum.inl.inj e
  obtain ⟨j416, hj416, rfl⟩ := inZ.nat g2 (by first | decide | omega)
  refine kX4_checkPlace Sc Γ n V X many H hm1 hm4 j414 (by omega) j415 (by omega) j416 (by omega) (fun O h' eO hk => ?_) hok
  simp only [nn_nI (show j414 < 2 ^ 31 by omega), nn_nI (show j415 < 2 ^ 31 by omega), nn_nI (show j416 < 2 ^ 31 by omega)]
  exact ⟨_, Or.inr (Or.inr ⟨⟨g0, g1, g2⟩, trivial, eO, rfl⟩), hk, by trivial⟩
set_option maxRecDepth 20000 in
set_option maxHeartbeats 4000000 in
theorem pX4_filterAt (Sc : q_S) (Γ : Nat → q_K) (n : Nat) (V : q_V) (X many : Nat) (H : sGF Γ X many) (hm1 : 1 ≤ many) (hm4 : many ≤ 4) (a1 : Int32) (a2 : Int32) : q_fp Sc Γ mX4_filterAt [.ref X, .int (a1), .int (a2)] n 4 24 V (q_pub (inZ a1 0 ((many : Int)) ∧ inZ a2 0 8) (True) V (some (.ref (X + 2 + 37 * nn a1 + 3 + 2 * nn a2))) (V)) := by
  intro h hok
  show q_A Sc mX4_filterAt 0 [.ref X, .int (a1), .int (a2)] [] h n 4 24 (fun O h' n' => ∃ F, (q_pub (inZ a1 0 ((many : Int)) ∧ inZ a2 0 8) (True) V (some (.ref (X + 2 + 37 * nn a1 + 3 + 2 * nn a2))) (V)) O F ∧ q_ok (gX Γ F) h' ∧ n' = n)
  refine q_iload_n dX4_filterAt_0 rfl ?_
  refine q_aload_n dX4_filterAt_1 rfl ?_
  refine v_getr 0 kX4 (by decide) wPX4_20 dX4_filterAt_2 hok H.1 rfl ?_
  refine v_alen dX4_filterAt_5 hok H.2.1 rfl rg_len ?_
  refine w_callS (M' := mX4_checkIndex) [.int (a1), .int (nI many)] [] dX4_filterAt_6 wPX4_34 wTX4_checkIndex wNX4 iX4_checkIndex oX4_checkIndex rfl hok (wX4_checkIndex Sc Γ n V a1 (nI many) ((many : Int)) (nI_toInt (by omega))) (Nat.le_of_ble_eq_true rfl) (Nat.le_of_ble_eq_true rfl) (Nat.le_of_ble_eq_true rfl) (Nat.le_of_ble_eq_true rfl) (Nat.le_of_ble_eq_true rfl) rfl (fun v h F hp hok => ?_) (fun x h F hp hok => ?_)
  rotate_left
  ·
    obtain ⟨rfl, ⟨e, -⟩ | ⟨e, gn0⟩⟩ := hp
    · cases e
    obtain rfl := Sum.inr.inj e
    exact t_out rfl ⟨_, Or.inl ⟨(fun q => gn0 q.1), rfl, rfl⟩, hok, rfl⟩
  obtain ⟨rfl, ⟨e, g0⟩ | ⟨e, -⟩⟩ := hp
  rotate_left
  · cases e
  obtain rfl := Sum.inl.inj e
  obtain ⟨j417, hj417, rfl⟩ := inZ.nat g0 (by first | decide | omega)
  refine q_iload_n dX4_filterAt_9 rfl ?_
  refine q_bipush (v := nI 8) dX4_filterAt_10 rfl ?_
  refine w_callS (M' := mX4_checkIndex) [.int (a2), .int (nI 8)] [] dX4_filterAt_12 wPX4_34 wTX4_checkIndex wNX4 iX4_checkIndex oX4_checkIndex rfl hok (wX4_checkIndex Sc Γ n V a2 (nI 8) 8 (by decide)) (Nat.le_of_ble_eq_true rfl) (Nat.le_of_ble_eq_true rfl) (Nat.le_of_ble_eq_true rfl) (Nat.le_of_ble_eq_true rfl) (Nat.le_of_ble_eq_true rfl) rfl (fun v h F hp hok => ?_) (fun x h F hp hok => ?_)
  rotate_left
  ·
    obtain ⟨rfl, ⟨e, -⟩ | ⟨e, gn1⟩⟩ := hp
    · cases e
    obtain rfl := Sum.inr.inj e
    exact t_out rfl ⟨_, Or.inl ⟨(fun q => gn1 q.2), rfl, rfl⟩, hok, rfl⟩
  obtain ⟨rfl, ⟨e, g1⟩ | ⟨e, -⟩⟩ := hp
  rotate_left
  · cases e
  obtain rfl := Sum.inl.inj e
  obtain ⟨j418, hj418, rfl⟩ := inZ.nat g1 (by first | decide | omega)
  refine kX4_filterAt Sc Γ n V X many H hm1 hm4 j417 (by omega) j418 (by omega) (fun O h' eO hk => ?_) hok
  simp only [nn_nI (show j417 < 2 ^ 31 by omega), nn_nI (show j418 < 2 ^ 31 by omega)]
  exact ⟨_, Or.inr (Or.inr ⟨⟨g0, g1⟩, trivial, eO, rfl⟩), hk, by trivial⟩
set_option maxRecDepth 20000 in
set_option maxHeartbeats 4000000 in
theorem pX4_told (Sc : q_S) (Γ : Nat → q_K) (n : Nat) (V : q_V) (X many : Nat) (H : sGF Γ X many) (hm1 : 1 ≤ many) (hm4 : many ≤ 4) (a1 : Int32) (a2 : Int32) : q_fp Sc Γ mX4_told [.ref X, .int (a1), .int (a2)] n 4 24 V (q_pub (inZ a1 0 ((many : Int))) (inZ a2 0 6) V (some (.int (vX4_told X many (nn a1) (nn a2) V))) (V)) := by
  intro h hok
  show q_A Sc mX4_told 0 [.ref X, .int (a1), .int (a2), .retAddr 0] [] h n 4 24 (fun O h' n' => ∃ F, (q_pub (inZ a1 0 ((many : Int))) (inZ a2 0 6) V (some (.int (vX4_told X many (nn a1) (nn a2) V))) (V)) O F ∧ q_ok (gX Γ F) h' ∧ n' = n)
  refine q_iload_n dX4_told_0 rfl ?_
  refine q_aload_n dX4_told_1 rfl ?_
  refine v_getr 0 kX4 (by decide) wPX4_20 dX4_told_2 hok H.1 rfl ?_
  refine v_alen dX4_told_5 hok H.2.1 rfl rg_len ?_
  refine w_callS (M' := mX4_checkIndex) [.int (a1), .int (nI many)] [] dX4_told_6 wPX4_34 wTX4_checkIndex wNX4 iX4_checkIndex oX4_checkIndex rfl hok (wX4_checkIndex Sc Γ n V a1 (nI many) ((many : Int)) (nI_toInt (by omega))) (Nat.le_of_ble_eq_true rfl) (Nat.le_of_ble_eq_true rfl) (Nat.le_of_ble_eq_true rfl) (Nat.le_of_ble_eq_true rfl) (Nat.le_of_ble_eq_true rfl) rfl (fun v h F hp hok => ?_) (fun x h F hp hok => ?_)
  rotate_left
  ·
    obtain ⟨rfl, ⟨e, -⟩ | ⟨e, gn0⟩⟩ := hp
    · cases e
    obtain rfl := Sum.inr.inj e
    exact t_out rfl ⟨_, Or.inl ⟨(fun q => gn0 q), rfl, rfl⟩, hok, rfl⟩
  obtain ⟨rfl, ⟨e, g0⟩ | ⟨e, -⟩⟩ := hp
  rotate_left
  · cases e
  obtain rfl := Sum.inl.inj e
  obtain ⟨j419, hj419, rfl⟩ := inZ.nat g0 (by first | decide | omega)
  refine q_iload_n dX4_told_9 rfl ?_
  refine q_iconst (v := nI 0) dX4_told_10 rfl ?_
  refine q_iconst (v := nI 5) dX4_told_11 rfl ?_
  refine w_callS (M' := mX4_checkNumber) [.int (a2), .int (nI 0), .int (nI 5)] [] dX4_told_12 wPX4_38 wTX4_checkNumber wNX4 iX4_checkNumber oX4_checkNumber rfl hok (wX4_checkNumber Sc Γ n V a2 (nI 0) (nI 5) 0 6 (by decide) (by decide)) (Nat.le_of_ble_eq_true rfl) (Nat.le_of_ble_eq_true rfl) (Nat.le_of_ble_eq_true rfl) (Nat.le_of_ble_eq_true rfl) (Nat.le_of_ble_eq_true rfl) rfl (fun v h F hp hok => ?_) (fun x h F hp hok => ?_)
  rotate_left
  ·
    obtain ⟨rfl, ⟨e, -⟩ | ⟨e, gn1⟩⟩ := hp
    · cases e
    obtain rfl := Sum.inr.inj e
    exact t_out rfl ⟨_, Or.inr (Or.inl ⟨g0, (fun q => gn1 q), rfl, rfl⟩), hok, rfl⟩
  obtain ⟨rfl, ⟨e, g1⟩ | ⟨e, -⟩⟩ := hp
  rotate_left
  · cases e
  obtain rfl := Sum.inl.inj e
  obtain ⟨j420, hj420, rfl⟩ := inZ.nat g1 (by first | decide | omega)
  rcases (show j420 = 0 ∨ j420 = 1 ∨ j420 = 2 ∨ j420 = 3 ∨ j420 = 4 ∨ j420 = 5 by omega) with rfl | rfl | rfl | rfl | rfl | rfl
  ·
    refine kX4_told_0 Sc Γ n V X many H hm1 hm4 j419 (by omega) (fun O h' eO hk => ?_) hok
    simp only [nn_nI (show j419 < 2 ^ 31 by omega), show nn (nI 0) = 0 from rfl]
    exact ⟨_, Or.inr (Or.inr ⟨g0, g1, eO, rfl⟩), hk, by trivial⟩
  ·
    refine kX4_told_1 Sc Γ n V X many H hm1 hm4 j419 (by omega) (fun O h' eO hk => ?_) hok
    simp only [nn_nI (show j419 < 2 ^ 31 by omega), show nn (nI 1) = 1 from rfl]
    exact ⟨_, Or.inr (Or.inr ⟨g0, g1, eO, rfl⟩), hk, by trivial⟩
  ·
    refine kX4_told_2 Sc Γ n V X many H hm1 hm4 j419 (by omega) (fun O h' eO hk => ?_) hok
    simp only [nn_nI (show j419 < 2 ^ 31 by omega), show nn (nI 2) = 2 from rfl]
    exact ⟨_, Or.inr (Or.inr ⟨g0, g1, eO, rfl⟩), hk, by trivial⟩
  ·
    refine kX4_told_3 Sc Γ n V X many H hm1 hm4 j419 (by omega) (fun O h' eO hk => ?_) hok
    simp only [nn_nI (show j419 < 2 ^ 31 by omega), show nn (nI 3) = 3 from rfl]
    exact ⟨_, Or.inr (Or.inr ⟨g0, g1, eO, rfl⟩), hk, by trivial⟩
  ·
    refine kX4_told_4 Sc Γ n V X many H hm1 hm4 j419 (by omega) (fun O h' eO hk => ?_) hok
    simp only [nn_nI (show j419 < 2 ^ 31 by omega), show nn (nI 4) = 4 from rfl]
    exact ⟨_, Or.inr (Or.inr ⟨g0, g1, eO, rfl⟩), hk, by trivial⟩
  ·
    refine kX4_told_5 Sc Γ n V X many H hm1 hm4 j419 (by omega) (fun O h' eO hk => ?_) hok
    simp only [nn_nI (show j419 < 2 ^ 31 by omega), show nn (nI 5) = 5 from rfl]
    exact ⟨_, Or.inr (Or.inr ⟨g0, g1, eO, rfl⟩), hk, by trivial⟩
set_option maxRecDepth 20000 in
set_option maxHeartbeats 4000000 in
theorem pX4_asked (Sc : q_S) (Γ : Nat → q_K) (n : Nat) (V : q_V) (X many : Nat) (H : sGF Γ X many) (hm1 : 1 ≤ many) (hm4 : many ≤ 4) (a1 : Int32) (a2 : Int32) : q_fp Sc Γ mX4_asked [.ref X, .int (a1), .int (a2)] n 4 24 V (q_pub (inZ a1 0 ((vJ9_min_7cf53 (V (X + 2 + 37 * many) 4) (nI 40) V).toInt)) (inZ a2 0 4) V (some (.int (vX4_asked X many a1 (nn a2) V))) (V)) := by
  intro h hok
  show q_A Sc mX4_asked 0 [.ref X, .int (a1), .int (a2)] [] h n 4 24 (fun O h' n' => ∃ F, (q_pub (inZ a1 0 ((vJ9_min_7cf53 (V (X + 2 + 37 * many) 4) (nI 40) V).toInt)) (inZ a2 0 4) V (some (.int (vX4_asked X many a1 (nn a2) V))) (V)) O F ∧ q_ok (gX Γ F) h' ∧ n' = n)
  refine q_iload_n dX4_asked_0 rfl ?_
  refine q_aload_n dX4_asked_1 rfl ?_
  refine v_getr 1 kX4 (by decide) wPX4_30 dX4_asked_2 hok H.1 rfl ?_
  refine v_geti 4 kX3 (by decide) wPX4_50 dX4_asked_5 hok H.2.2.2.1 rfl ?_
  refine q_bipush (v := nI 40) dX4_asked_8 rfl ?_
  refine v_callS (M' := mJ9_min_7cf53) [.int (V (X + 2 + 37 * many) 4), .int (nI 40)] [.int (a1)] dX4_asked_10 wPX4_9 wTJ9_min_7cf53 wNJ9 iJ9_min_7cf53 oJ9_min_7cf53 rfl hok (eJ9_min_7cf53 Sc Γ n V (V (X + 2 + 37 * many) 4) (nI 40)) (Nat.le_of_ble_eq_true rfl) (Nat.le_of_ble_eq_true rfl) (Nat.le_of_ble_eq_true rfl) rfl (fun h hok => ?_)
  refine w_callS (M' := mX4_checkIndex) [.int (a1), .int (vJ9_min_7cf53 (V (X + 2 + 37 * many) 4) (nI 40) V)] [] dX4_asked_13 wPX4_34 wTX4_checkIndex wNX4 iX4_checkIndex oX4_checkIndex rfl hok (wX4_checkIndex Sc Γ n V a1 (vJ9_min_7cf53 (V (X + 2 + 37 * many) 4) (nI 40) V) ((vJ9_min_7cf53 (V (X + 2 + 37 * many) 4) (nI 40) V).toInt) rfl) (Nat.le_of_ble_eq_true rfl) (Nat.le_of_ble_eq_true rfl) (Nat.le_of_ble_eq_true rfl) (Nat.le_of_ble_eq_true rfl) (Nat.le_of_ble_eq_true rfl) rfl (fun v h F hp hok => ?_) (fun x h F hp hok => ?_)
  rotate_left
  ·
    obtain ⟨rfl, ⟨e, -⟩ | ⟨e, gn0⟩⟩ := hp
    · cases e
    obtain rfl := Sum.inr.inj e
    exact t_out rfl ⟨_, Or.inl ⟨(fun q => gn0 q), rfl, rfl⟩, hok, rfl⟩
  obtain ⟨rfl, ⟨e, g0⟩ | ⟨e, -⟩⟩ := hp
  rotate_left
  · cases e
  obtain rfl := Sum.inl.inj e
  refine q_iload_n dX4_asked_16 rfl ?_
  refine q_iconst (v := nI 0) dX4_asked_17 rfl ?_
  refine q_iconst (v := nI 3) dX4_asked_18 rfl ?_
  refine w_callS (M' := mX4_checkNumber) [.int (a2), .int (nI 0), .int (nI 3)] [] dX4_asked_19 wPX4_38 wTX4_checkNumber wNX4 iX4_checkNumber oX4_checkNumber rfl hok (wX4_checkNumber Sc Γ n V a2 (nI 0) (nI 3) 0 4 (by decide) (by decide)) (Nat.le_of_ble_eq_true rfl) (Nat.le_of_ble_eq_true rfl) (Nat.le_of_ble_eq_true rfl) (Nat.le_of_ble_eq_true rfl) (Nat.le_of_ble_eq_true rfl) rfl (fun v h F hp hok => ?_) (fun x h F hp hok => ?_)
  rotate_left
  ·
    obtain ⟨rfl, ⟨e, -⟩ | ⟨e, gn1⟩⟩ := hp
    · cases e
    obtain rfl := Sum.inr.inj e
    exact t_out rfl ⟨_, Or.inr (Or.inl ⟨g0, (fun q => gn1 q), rfl, rfl⟩), hok, rfl⟩
  obtain ⟨rfl, ⟨e, g1⟩ | ⟨e, -⟩⟩ := hp
  rotate_left
  · cases e
  obtain rfl := Sum.inl.inj e
  obtain ⟨j421, hj421, rfl⟩ := inZ.nat g1 (by first | decide | omega)
  rcases (show j421 = 0 ∨ j421 = 1 ∨ j421 = 2 ∨ j421 = 3 by omega) with rfl | rfl | rfl | rfl
  ·
    refine kX4_asked_0 Sc Γ n V X many H hm1 hm4 a1 (fun O h' eO hk => ?_) hok
    simp only [show nn (nI 0) = 0 from rfl]
    exact ⟨_, Or.inr (Or.inr ⟨g0, g1, eO, rfl⟩), hk, by trivial⟩
  ·
    refine kX4_asked_1 Sc Γ n V X many H hm1 hm4 a1 (fun O h' eO hk => ?_) hok
    simp only [show nn (nI 1) = 1 from rfl]
    exact ⟨_, Or.inr (Or.inr ⟨g0, g1, eO, rfl⟩), hk, by trivial⟩
  ·
    refine kX4_asked_2 Sc Γ n V X many H hm1 hm4 a1 (fun O h' eO hk => ?_) hok
    simp only [show nn (nI 2) = 2 from rfl]
    exact ⟨_, Or.inr (Or.inr ⟨g0, g1, eO, rfl⟩), hk, by trivial⟩
  ·
    refine kX4_asked_3 Sc Γ n V X many H hm1 hm4 a1 (fun O h' eO hk => ?_) hok
    simp only [show nn (nI 3) = 3 from rfl]
    exact ⟨_, Or.inr (Or.inr ⟨g0, g1, eO, rfl⟩), hk, by trivial⟩
