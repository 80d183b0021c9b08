set_option maxRecDepth 20000 in
set_option maxHeartbeats 4000000 in
theorem pX4_passed (Sc : q_S) (Γ : Nat → q_K) (n : Nat) (V : q_V) (X many : Nat) (H : sGF Γ X many) (hm1 : 1 ≤ many) (hm4 : many ≤ 4) (a1 : Int32) (a2 : Int32) (a3 : Int32) : q_fp Sc Γ mX4_passed [.ref X, .int (a1), .int (a2), .int (a3)] n 4 24 V (q_pub (inZ a1 0 ((many : Int)) ∧ inZ a2 0 8 ∧ inZ a3 0 16) (True) V (some (.int (vX4_passed X many (nn a1) (nn a2) (nn a3) V))) (V)) := by
  intro h hok
  show q_A Sc mX4_passed 0 [.ref X, .int (a1), .int (a2), .int (a3), .retAddr 0, .retAddr 0] [] h n 4 24 (fun O h' n' => ∃ F, (q_pub (inZ a1 0 ((many : Int)) ∧ inZ a2 0 8 ∧ inZ a3 0 16) (True) V (some (.int (vX4_passed X many (nn a1) (nn a2) (nn a3) V))) (V)) O F ∧ q_ok (gX Γ F) h' ∧ n' = n)
  refine q_aload_n dX4_passed_0 rfl ?_
  refine q_iload_n dX4_passed_1 rfl ?_
  refine q_iload_n dX4_passed_2 rfl ?_
  refine q_iload_n dX4_passed_3 rfl ?_
  refine w_callV (M' := mX4_checkPlace) [.int (a1), .int (a2), .int (a3)] [] kX4 dX4_passed_4 wPX4_82v wIX4_checkPlace wSX4_checkPlace iX4_checkPlace oX4_checkPlace rfl hok H.1 (pX4_checkPlace Sc Γ n V X many H hm1 hm4 a1 a2 a3) (Nat.le_of_ble_eq_true rfl) (Nat.le_of_ble_eq_true rfl) (Nat.le_of_ble_eq_true rfl) (Nat.le_of_ble_eq_true rfl) (Nat.le_of_ble_eq_true rfl) rfl (fun v h F hp hok => ?_) (fun x h F hp hok => ?_)
  rotate_left
  ·
    rcases hp with ⟨hn, e, rfl⟩ | ⟨-, hn, -⟩ | ⟨-, -, e, -⟩
    rotate_left
    · exact absurd trivial hn
    · cases e
    obtain rfl := Sum.inr.inj e
    exact t_out rfl ⟨_, Or.inl ⟨hn, rfl, rfl⟩, hok, rfl⟩
  rcases hp with ⟨-, e, -⟩ | ⟨-, hn, -⟩ | ⟨gg, -, e, rfl⟩
  · cases e
  · exact absurd trivial hn
  obtain rfl := Sum.inl.inj e
  obtain ⟨g0, g1, g2⟩ := id gg
  obtain ⟨j422, hj422, rfl⟩ := inZ.nat g0 (by first | decide | omega)
  obtain ⟨j423, hj423, rfl⟩ := inZ.nat g1 (by first | decide | omega)
  obtain ⟨j424, hj424, rfl⟩ := inZ.nat g2 (by first | decide | omega)
  refine kX4_passed Sc Γ n V X many H hm1 hm4 j422 (by omega) j423 (by omega) j424 (by omega) (fun O h' eO hk => ?_) hok
  simp only [nn_nI (show j422 < 2 ^ 31 by omega), nn_nI (show j423 < 2 ^ 31 by omega), nn_nI (show j424 < 2 ^ 31 by omega)]
  exact ⟨_, Or.inr (Or.inr ⟨⟨g0, g1, g2⟩, trivial, eO, rfl⟩), hk, by trivial⟩
set_option maxHeartbeats 4000000 in
theorem pX4_mode (Sc : q_S) (Γ : Nat → q_K) (n : Nat) (V : q_V) (X many : Nat) (H : sGF Γ X many) (hm1 : 1 ≤ many) (hm4 : many ≤ 4) (a1 : Int32) (a2 : Int32) : q_fp Sc Γ mX4_mode [.ref X, .int (a1), .int (a2)] n 4 24 V (q_pub (inZ a1 0 ((many : Int)) ∧ inZ a2 0 8) (True) V (some (.int (vX0_state (X + 2 + 37 * nn a1 + 3 + 2 * nn a2) V))) V) := by
  intro h hok
  show q_A Sc mX4_mode 0 [.ref X, .int (a1), .int (a2)] [] h n 4 24 (fun O h' n' => ∃ F, (q_pub (inZ a1 0 ((many : Int)) ∧ inZ a2 0 8) (True) V (some (.int (vX0_state (X + 2 + 37 * nn a1 + 3 + 2 * nn a2) V))) V) O F ∧ q_ok (gX Γ F) h' ∧ n' = n)
  refine q_aload_n dX4_mode_0 rfl ?_
  refine q_iload_n dX4_mode_1 rfl ?_
  refine q_iload_n dX4_mode_2 rfl ?_
  refine w_callV (M' := mX4_filterAt) [.int (a1), .int (a2)] [] kX4 dX4_mode_3 wPX4_99v wIX4_filterAt wSX4_filterAt iX4_filterAt oX4_filterAt rfl hok H.1 (pX4_filterAt Sc Γ n V X many H hm1 hm4 a1 a2) (Nat.le_of_ble_eq_true rfl) (Nat.le_of_ble_eq_true rfl) (Nat.le_of_ble_eq_true rfl) (Nat.le_of_ble_eq_true rfl) (Nat.le_of_ble_eq_true rfl) rfl (fun v h F hp hok => ?_) (fun x h F hp hok => ?_)
  rotate_left
  ·
    rcases hp with ⟨hn, e, rfl⟩ | ⟨-, hn, -⟩ | ⟨-, -, e, -⟩
    rotate_left
    · exact absurd trivial hn
    · cases e
    obtain rfl := Sum.inr.inj e
    exact t_out rfl ⟨_, Or.inl ⟨hn, rfl, rfl⟩, hok, rfl⟩
  rcases hp with ⟨-, e, -⟩ | ⟨-, hn, -⟩ | ⟨gg, -, e, rfl⟩
  · cases e
  · exact absurd trivial hn
  obtain rfl := Sum.inl.inj e
  obtain ⟨g0, g1⟩ := id gg
  obtain ⟨j425, hj425, rfl⟩ := inZ.nat g0 (by first | decide | omega)
  obtain ⟨j426, hj426, rfl⟩ := inZ.nat g1 (by first | decide | omega)
  rw [nn_nI (show j425 < 2 ^ 31 by omega), nn_nI (show j426 < 2 ^ 31 by omega)]
  refine v_callV (M' := mX0_state) [] [] kX0 dX4_mode_6 wPX4_103v wIX0_state wSX0_state iX0_state oX0_state rfl hok ((H.2.2.1 j425 (by omega)).2.2.2.1 j426 (by omega)).1 (eX0_state Sc Γ n V (X + 2 + 37 * j425 + 3 + 2 * j426) ((H.2.2.1 j425 (by omega)).2.2.2.1 j426 (by omega))) (Nat.le_of_ble_eq_true rfl) (Nat.le_of_ble_eq_true rfl) (Nat.le_of_ble_eq_true rfl) rfl (fun h hok => ?_)
  refine q_iret dX4_mode_9 rfl (rfl) ?_
  simp only [nn_nI (show j425 < 2 ^ 31 by omega), nn_nI (show j426 < 2 ^ 31 by omega)]
  exact ⟨_, Or.inr (Or.inr ⟨⟨g0, g1⟩, trivial, rfl, rfl⟩), hok, by trivial⟩
set_option maxHeartbeats 4000000 in
theorem pX4_timer (Sc : q_S) (Γ : Nat → q_K) (n : Nat) (V : q_V) (X many : Nat) (H : sGF Γ X many) (hm1 : 1 ≤ many) (hm4 : many ≤ 4) (a1 : Int32) (a2 : Int32) (a3 : Int32) : q_fp Sc Γ mX4_timer [.ref X, .int (a1), .int (a2), .int (a3)] n 4 24 V (q_pub (inZ a1 0 ((many : Int)) ∧ inZ a2 0 8 ∧ inZ a3 0 16) (True) V (some (.int (V ((X + 2 + 37 * nn a1 + 3 + 2 * nn a2) + 1) (nn a3)))) V) := by
  intro h hok
  show q_A Sc mX4_timer 0 [.ref X, .int (a1), .int (a2), .int (a3)] [] h n 4 24 (fun O h' n' => ∃ F, (q_pub (inZ a1 0 ((many : Int)) ∧ inZ a2 0 8 ∧ inZ a3 0 16) (True) V (some (.int (V ((X + 2 + 37 * nn a1 + 3 + 2 * nn a2) + 1) (nn a3)))) V) O F ∧ q_ok (gX Γ F) h' ∧ n' = n)
  refine q_aload_n dX4_timer_0 rfl ?_
  refine q_iload_n dX4_timer_1 rfl ?_
  refine q_iload_n dX4_timer_2 rfl ?_
  refine q_iload_n dX4_timer_3 rfl ?_
  refine w_callV (M' := mX4_checkPlace) [.int (a1), .int (a2), .int (a3)] [] kX4 dX4_timer_4 wPX4_82v wIX4_checkPlace wSX4_checkPlace iX4_checkPlace oX4_checkPlace rfl hok H.1 (pX4_checkPlace Sc Γ n V X many H hm1 hm4 a1 a2 a3) (Nat.le_of_ble_eq_true rfl) (Nat.le_of_ble_eq_true rfl) (Nat.le_of_ble_eq_true rfl) (Nat.le_of_ble_eq_true rfl) (Nat.le_of_ble_eq_true rfl) rfl (fun v h F hp hok => ?_) (fun x h F hp hok => ?_)
  rotate_left
  ·
    rcases hp with ⟨hn, e, rfl⟩ | ⟨-, hn, -⟩ | ⟨-, -, e, -⟩
    rotate_left
    · exact absurd trivial hn
    · cases e
    obtain rfl := Sum.inr.inj e
    exact t_out rfl ⟨_, Or.inl ⟨hn, rfl, rfl⟩, hok, rfl⟩
  rcases hp with ⟨-, e, -⟩ | ⟨-, hn, -⟩ | ⟨gg, -, e, rfl⟩
  · cases e
  · exact absurd trivial hn
  obtain rfl := Sum.inl.inj e
  obtain ⟨g0, g1, g2⟩ := id gg
  obtain ⟨j427, hj427, rfl⟩ := inZ.nat g0 (by first | decide | omega)
  obtain ⟨j428, hj428, rfl⟩ := inZ.nat g1 (by first | decide | omega)
  obtain ⟨j429, hj429, rfl⟩ := inZ.nat g2 (by first | decide | omega)
  refine q_aload_n dX4_timer_7 rfl ?_
  refine v_getr 0 kX4 (by decide) wPX4_20 dX4_timer_8 hok H.1 rfl ?_
  refine q_iload_n dX4_timer_11 rfl ?_
  refine v_aald (j := j427) (z := X + 2 + 37 * j427) "GroupFilters$Link" dX4_timer_12 hok H.2.1 rfl (rg_at (by omega)) (by rw [rg_len]; omega) ?_
  refine v_getr 1 kX1 (by decide) wPX4_89 dX4_timer_13 hok (H.2.2.1 j427 (by omega)).1 rfl ?_
  refine q_iload_n dX4_timer_16 rfl ?_
  refine v_aald (j := j428) (z := X + 2 + 37 * j427 + 3 + 2 * j428) "GroupFilters$Filter" dX4_timer_17 hok (H.2.2.1 j427 (by omega)).2.1 rfl (rg_at (by omega)) (by rw [rg_len]; omega) ?_
  refine v_getr 0 kX0 (by decide) wPX4_112 dX4_timer_18 hok ((H.2.2.1 j427 (by omega)).2.2.2.1 j428 (by omega)).1 rfl ?_
  refine q_iload_n dX4_timer_21 rfl ?_
  refine v_iald (by decide) dX4_timer_22 hok ((H.2.2.1 j427 (by omega)).2.2.2.1 j428 (by omega)).2 (j := j429) (by omega) ?_
  refine q_iret dX4_timer_23 rfl (rfl) ?_
  simp only [nn_nI (show j427 < 2 ^ 31 by omega), nn_nI (show j428 < 2 ^ 31 by omega), nn_nI (show j429 < 2 ^ 31 by omega)]
  exact ⟨_, Or.inr (Or.inr ⟨⟨g0, g1, g2⟩, trivial, rfl, rfl⟩), hok, by trivial⟩
set_option maxHeartbeats 4000000 in
theorem pX4_groupTimer (Sc : q_S) (Γ : Nat → q_K) (n : Nat) (V : q_V) (X many : Nat) (H : sGF Γ X many) (hm1 : 1 ≤ many) (hm4 : many ≤ 4) (a1 : Int32) (a2 : Int32) : q_fp Sc Γ mX4_groupTimer [.ref X, .int (a1), .int (a2)] n 4 24 V (q_pub (inZ a1 0 ((many : Int)) ∧ inZ a2 0 8) (True) V (some (.int (V (X + 2 + 37 * nn a1 + 3 + 2 * nn a2) 4))) V) := by
  intro h hok
  show q_A Sc mX4_groupTimer 0 [.ref X, .int (a1), .int (a2)] [] h n 4 24 (fun O h' n' => ∃ F, (q_pub (inZ a1 0 ((many : Int)) ∧ inZ a2 0 8) (True) V (some (.int (V (X + 2 + 37 * nn a1 + 3 + 2 * nn a2) 4))) V) O F ∧ q_ok (gX Γ F) h' ∧ n' = n)
  refine q_aload_n dX4_groupTimer_0 rfl ?_
  refine q_iload_n dX4_groupTimer_1 rfl ?_
  refine q_iload_n dX4_groupTimer_2 rfl ?_
  refine w_callV (M' := mX4_filterAt) [.int (a1), .int (a2)] [] kX4 dX4_groupTimer_3 wPX4_99v wIX4_filterAt wSX4_filterAt iX4_filterAt oX4_filterAt rfl hok H.1 (pX4_filterAt Sc Γ n V X many H hm1 hm4 a1 a2) (Nat.le_of_ble_eq_true rfl) (Nat.le_of_ble_eq_true rfl) (Nat.le_of_ble_eq_true rfl) (Nat.le_of_ble_eq_true rfl) (Nat.le_of_ble_eq_true rfl) rfl (fun v h F hp hok => ?_) (fun x h F hp hok => ?_)
  rotate_left
  ·
    rcases hp with ⟨hn, e, rfl⟩ | ⟨-, hn, -⟩ | ⟨-, -, e, -⟩
    rotate_left
    · exact absurd trivial hn
    · cases e
    obtain rfl := Sum.inr.inj e
    exact t_out rfl ⟨_, Or.inl ⟨hn, rfl, rfl⟩, hok, rfl⟩
  rcases hp with ⟨-, e, -⟩ | ⟨-, hn, -⟩ | ⟨gg, -, e, rfl⟩
  · cases e
  · exact absurd trivial hn
  obtain rfl := Sum.inl.inj e
  obtain ⟨g0, g1⟩ := id gg
  obtain ⟨j430, hj430, rfl⟩ := inZ.nat g0 (by first | decide | omega)
  obtain ⟨j431, hj431, rfl⟩ := inZ.nat g1 (by first | decide | omega)
  rw [nn_nI (show j430 < 2 ^ 31 by omega), nn_nI (show j431 < 2 ^ 31 by omega)]
  refine v_geti 4 kX0 (by decide) wPX4_116 dX4_groupTimer_6 hok ((H.2.2.1 j430 (by omega)).2.2.2.1 j431 (by omega)).1 rfl ?_
  refine q_iret dX4_groupTimer_9 rfl (rfl) ?_
  simp only [nn_nI (show j430 < 2 ^ 31 by omega), nn_nI (show j431 < 2 ^ 31 by omega)]
  exact ⟨_, Or.inr (Or.inr ⟨⟨g0, g1⟩, trivial, rfl, rfl⟩), hok, by trivial⟩
set_option maxHeartbeats 4000000 in
theorem pX4_sources (Sc : q_S) (Γ : Nat → q_K) (n : Nat) (V : q_V) (X many : Nat) (H : sGF Γ X many) (hm1 : 1 ≤ many) (hm4 : many ≤ 4) (a1 : Int32) (a2 : Int32) (a3 : Int32) (b3 : q_bl a3) : q_fp Sc Γ mX4_sources [.ref X, .int (a1), .int (a2), .int (a3)] n 4 24 V (q_pub (inZ a1 0 ((many : Int)) ∧ inZ a2 0 8) (True) V (some (.int (if a3 = nI 0 then V (X + 2 + 37 * nn a1 + 3 + 2 * nn a2) 3 else V (X + 2 + 37 * nn a1 + 3 + 2 * nn a2) 2))) V) := by
  intro h hok
  show q_A Sc mX4_sources 0 [.ref X, .int (a1), .int (a2), .int (a3), .retAddr 0] [] h n 4 24 (fun O h' n' => ∃ F, (q_pub (inZ a1 0 ((many : Int)) ∧ inZ a2 0 8) (True) V (some (.int (if a3 = nI 0 then V (X + 2 + 37 * nn a1 + 3 + 2 * nn a2) 3 else V (X + 2 + 37 * nn a1 + 3 + 2 * nn a2) 2))) V) O F ∧ q_ok (gX Γ F) h' ∧ n' = n)
  rcases b3 with rfl | rfl
  ·
    refine q_aload_n dX4_sources_0 rfl ?_
    refine q_iload_n dX4_sources_1 rfl ?_
    refine q_iload_n dX4_sources_2 rfl ?_
    refine w_callV (M' := mX4_filterAt) [.int (a1), .int (a2)] [] kX4 dX4_sources_3 wPX4_99v wIX4_filterAt wSX4_filterAt iX4_filterAt oX4_filterAt rfl hok H.1 (pX4_filterAt Sc Γ n V X many H hm1 hm4 a1 a2) (Nat.le_of_ble_eq_true rfl) (Nat.le_of_ble_eq_true rfl) (Nat.le_of_ble_eq_true rfl) (Nat.le_of_ble_eq_true rfl) (Nat.le_of_ble_eq_true rfl) rfl (fun v h F hp hok => ?_) (fun x h F hp hok => ?_)
    rotate_left
    ·
      rcases hp with ⟨hn, e, rfl⟩ | ⟨-, hn, -⟩ | ⟨-, -, e, -⟩
      rotate_left
      · exact absurd trivial hn
      · cases e
      obtain rfl := Sum.inr.inj e
      exact t_out rfl ⟨_, Or.inl ⟨hn, rfl, rfl⟩, hok, rfl⟩
    rcases hp with ⟨-, e, -⟩ | ⟨-, hn, -⟩ | ⟨gg, -, e, rfl⟩
    · cases e
    · exact absurd trivial hn
    obtain rfl := Sum.inl.inj e
    obtain ⟨g0, g1⟩ := id gg
    obtain ⟨j432, hj432, rfl⟩ := inZ.nat g0 (by first | decide | omega)
    obtain ⟨j433, hj433, rfl⟩ := inZ.nat g1 (by first | decide | omega)
    rw [nn_nI (show j432 < 2 ^ 31 by omega), nn_nI (show j433 < 2 ^ 31 by omega)]
    refine q_astore dX4_sources_6 (by decide) ?_
    refine q_iload_n dX4_sources_8 rfl ?_
    refine q_if_eq (tgt := 20) dX4_sources_9 (by decide) (fun _ => ?_) (fun q => absurd q (by decide))
    refine q_aload dX4_sources_20 rfl ?_
    refine v_geti 3 kX0 (by decide) wPX4_109 dX4_sources_22 hok ((H.2.2.1 j432 (by omega)).2.2.2.1 j433 (by omega)).1 rfl ?_
    refine q_iret dX4_sources_25 rfl (rfl) ?_
    simp only [nn_nI (show j432 < 2 ^ 31 by omega), nn_nI (show j433 < 2 ^ 31 by omega), if_pos (show nI 0 = nI 0 from rfl)]
    exact ⟨_, Or.inr (Or.inr ⟨⟨g0, g1⟩, trivial, rfl, rfl⟩), hok, by trivial⟩
  ·
    refine q_aload_n dX4_sources_0 rfl ?_
    refine q_iload_n dX4_sources_1 rfl ?_
    refine q_iload_n dX4_sources_2 rfl ?_
    refine w_callV (M' := mX4_filterAt) [.int (a1), .int (a2)] [] kX4 dX4_sources_3 wPX4_99v wIX4_filterAt wSX4_filterAt iX4_filterAt oX4_filterAt rfl hok H.1 (pX4_filterAt Sc Γ n V X many H hm1 hm4 a1 a2) (Nat.le_of_ble_eq_true rfl) (Nat.le_of_ble_eq_true rfl) (Nat.le_of_ble_eq_true rfl) (Nat.le_of_ble_eq_true rfl) (Nat.le_of_ble_eq_true rfl) rfl (fun v h F hp hok => ?_) (fun x h F hp hok => ?_)
    rotate_left
    ·
      rcases hp with ⟨hn, e, rfl⟩ | ⟨-, hn, -⟩ | ⟨-, -, e, -⟩
      rotate_left
      · exact absurd trivial hn
      · cases e
      obtain rfl := Sum.inr.inj e
      exact t_out rfl ⟨_, Or.inl ⟨hn, rfl, rfl⟩, hok, rfl⟩
    rcases hp with ⟨-, e, -⟩ | ⟨-, hn, -⟩ | ⟨gg, -, e, rfl⟩
    · cases e
    · exact absurd trivial hn
    obtain rfl := Sum.inl.inj e
    obtain ⟨g0, g1⟩ := id gg
    obtain ⟨j434, hj434, rfl⟩ := inZ.nat g0 (by first | decide | omega)
    obtain ⟨j435, hj435, rfl⟩ := inZ.nat g1 (by first | decide | omega)
    rw [nn_nI (show j434 < 2 ^ 31 by omega), nn_nI (show j435 < 2 ^ 31 by omega)]
    refine q_astore dX4_sources_6 (by decide) ?_
    refine q_iload_n dX4_sources_8 rfl ?_
    refine q_if_eq (tgt := 20) dX4_sources_9 (by decide) (fun q => absurd q (by decide)) (fun _ => ?_)
    refine q_aload dX4_sources_12 rfl ?_
    refine v_geti 2 kX0 (by decide) wPX4_106 dX4_sources_14 hok ((H.2.2.1 j434 (by omega)).2.2.2.1 j435 (by omega)).1 rfl ?_
    refine q_goto (tgt := 25) dX4_sources_17 (by decide) ?_
    refine q_iret dX4_sources_25 rfl (rfl) ?_
    simp only [nn_nI (show j434 < 2 ^ 31 by omega), nn_nI (show j435 < 2 ^ 31 by omega), if_neg (show ¬ nI 1 = nI 0 by decide)]
    exact ⟨_, Or.inr (Or.inr ⟨⟨g0, g1⟩, trivial, rfl, rfl⟩), hok, by trivial⟩
set_option maxHeartbeats 4000000 in
theorem pX4_wanted (Sc : q_S) (Γ : Nat → q_K) (n : Nat) (V : q_V) (X many : Nat) (H : sGF Γ X many) (hm1 : 1 ≤ many) (hm4 : many ≤ 4) (a1 : Int32) (a2 : Int32) (a3 : Int32) : q_fp Sc Γ mX4_wanted [.ref X, .int (a1), .int (a2), .int (a3)] n 4 24 V (fun O F => (¬ (inZ a1 0 (many : Int) ∧ inZ a2 0 8 ∧ inZ a3 0 16) ∧ O = .inr 0 ∧ V = F) ∨ ((inZ a1 0 (many : Int) ∧ inZ a2 0 8 ∧ inZ a3 0 16) ∧ (∃ x, O = .inl (some (.int x)) ∧ q_bl x) ∧ V = F)) := by
  intro h hok
  show q_A Sc mX4_wanted 0 [.ref X, .int (a1), .int (a2), .int (a3)] [] h n 4 24 (fun O h' n' => ∃ F, (fun O F => (¬ (inZ a1 0 (many : Int) ∧ inZ a2 0 8 ∧ inZ a3 0 16) ∧ O = .inr 0 ∧ V = F) ∨ ((inZ a1 0 (many : Int) ∧ inZ a2 0 8 ∧ inZ a3 0 16) ∧ (∃ x, O = .inl (some (.int x)) ∧ q_bl x) ∧ V = F)) O F ∧ q_ok (gX Γ F) h' ∧ n' = n)
  refine q_aload_n dX4_wanted_0 rfl ?_
  refine q_iload_n dX4_wanted_1 rfl ?_
  refine q_iload_n dX4_wanted_2 rfl ?_
  refine q_iload_n dX4_wanted_3 rfl ?_
  refine w_callV (M' := mX4_checkPlace) [.int (a1), .int (a2), .int (a3)] [] kX4 dX4_wanted_4 wPX4_82v wIX4_checkPlace wSX4_checkPlace iX4_checkPlace oX4_checkPlace rfl hok H.1 (pX4_checkPlace Sc Γ n V X many H hm1 hm4 a1 a2 a3) (Nat.le_of_ble_eq_true rfl) (Nat.le_of_ble_eq_true rfl) (Nat.le_of_ble_eq_true rfl) (Nat.le_of_ble_eq_true rfl) (Nat.le_of_ble_eq_true rfl) rfl (fun v h F hp hok => ?_) (fun x h F hp hok => ?_)
  rotate_left
  ·
    rcases hp with ⟨hn, e, rfl⟩ | ⟨-, hn, -⟩ | ⟨-, -, e, -⟩
    rotate_left
    · exact absurd trivial hn
    · cases e
    obtain rfl := Sum.inr.inj e
    exact t_out rfl ⟨_, Or.inl ⟨hn, rfl, rfl⟩, hok, rfl⟩
  rcases hp with ⟨-, e, -⟩ | ⟨-, hn, -⟩ | ⟨gg, -, e, rfl⟩
  · cases e
  · exact absurd trivial hn
  obtain rfl := Sum.inl.inj e
  obtain ⟨g0, g1, g2⟩ := id gg
  obtain ⟨j436, hj436, rfl⟩ := inZ.nat g0 (by first | decide | omega)
  obtain ⟨j437, hj437, rfl⟩ := inZ.nat g1 (by first | decide | omega)
  obtain ⟨j438, hj438, rfl⟩ := inZ.nat g2 (by first | decide | omega)
  refine q_aload_n dX4_wanted_7 rfl ?_
  refine v_getr 0 kX4 (by decide) wPX4_20 dX4_wanted_8 hok H.1 rfl ?_
  refine q_iload_n dX4_wanted_11 rfl ?_
  refine v_aald (j := j436) (z := X + 2 + 37 * j436) "GroupFilters$Link" dX4_wanted_12 hok H.2.1 rfl (rg_at (by omega)) (by rw [rg_len]; omega) ?_
  refine q_iload_n dX4_wanted_13 rfl ?_
  refine q_iload_n dX4_wanted_14 rfl ?_
  refine w_callV (M' := mX1_hasMemberFor) [.int (nI j437), .int (nI j438)] [] kX1 dX4_wanted_15 wPX4_85v wIX1_hasMemberFor wSX1_hasMemberFor iX1_hasMemberFor oX1_hasMemberFor rfl hok (H.2.2.1 j436 (by omega)).1 (uX1_hasMemberFor Sc Γ n V (X + 2 + 37 * j436) (H.2.2.1 j436 (by omega)) j437 (by omega) (nI j438)) (Nat.zero_le _) (Nat.zero_le _) (Nat.le_of_ble_eq_true rfl) (Nat.le_of_ble_eq_true rfl) (Nat.le_of_ble_eq_true rfl) rfl (fun v h F hp hok => ?_) (fun x h F hp hok => by obtain ⟨-, y, e, -⟩ := hp; cases e)
  obtain ⟨rfl, y, e, by_⟩ := hp
  obtain rfl := Sum.inl.inj e
  exact q_iret dX4_wanted_18 rfl (q_bl.nar by_) ⟨_, Or.inr ⟨⟨g0, g1, g2⟩, ⟨_, rfl, by_⟩, rfl⟩, hok, rfl⟩
theorem nI_nm {j : Nat} (h : j < 2 ^ 31) : ¬ nI j = -1 := fun e => by
  have h1 := congrArg Int32.toInt e
  rw [nI_toInt h] at h1
  exact absurd h1 (by have : (-1 : Int32).toInt = -1 := by decide
                      omega)
set_option maxRecDepth 20000 in
set_option maxHeartbeats 4000000 in
theorem pX4_query (Sc : q_S) (Γ : Nat → q_K) (n : Nat) (V : q_V) (X many : Nat) (H : sGF Γ X many) (hm1 : 1 ≤ many) (hm4 : many ≤ 4) (a1 : Int32) (a2 : Int32) (a3 : Int32) (a4 : Int32) (a5 : Int32) (b5 : q_bl a5) : q_fp Sc Γ mX4_query [.ref X, .int (a1), .int (a2), .int (a3), .int (a4), .int (a5)] n 4 24 V (q_puq (inZ a1 0 ((many : Int)) ∧ inZ a2 0 1000 ∧ (a3 = -1 ∨ inZ a3 0 8) ∧ inZ a4 0 65536) V (some (.int (if a3 = -1 then vX4_query_n X many (nn a1) a2 a4 a5 V else vX4_query_g X many (nn a1) a2 (nn a3) a4 a5 V))) (if a3 = -1 then fX4_query_n X many (nn a1) a2 a4 a5 V else fX4_query_g X many (nn a1) a2 (nn a3) a4 a5 V)) := by
  intro h hok
  show q_A Sc mX4_query 0 [.ref X, .int (a1), .int (a2), .int (a3), .int (a4), .int (a5)] [] h n 4 24 (fun O h' n' => ∃ F, (q_puq (inZ a1 0 ((many : Int)) ∧ inZ a2 0 1000 ∧ (a3 = -1 ∨ inZ a3 0 8) ∧ inZ a4 0 65536) V (some (.int (if a3 = -1 then vX4_query_n X many (nn a1) a2 a4 a5 V else vX4_query_g X many (nn a1) a2 (nn a3) a4 a5 V))) (if a3 = -1 then fX4_query_n X many (nn a1) a2 a4 a5 V else fX4_query_g X many (nn a1) a2 (nn a3) a4 a5 V)) O F ∧ q_ok (gX Γ F) h' ∧ n' = n)
  refine q_iload_n dX4_query_0 rfl ?_
  refine q_aload_n dX4_query_1 rfl ?_
  refine v_getr 0 kX4 (by decide) wPX4_20 dX4_query_2 hok H.1 rfl ?_
  refine v_alen dX4_query_5 hok H.2.1 rfl rg_len ?_
  refine w_callS (M' := mX4_checkIndex) [.int (a1), .int (nI many)] [] dX4_query_6 wPX4_34 wTX4_checkIndex wNX4 iX4_checkIndex oX4_checkIndex rfl hok (wX4_checkIndex Sc Γ n V a1 (nI many) ((many : Int)) (nI_toInt (by omega))) (Nat.le_of_ble_eq_true rfl) (Nat.le_of_ble_eq_true rfl) (Nat.le_of_ble_eq_true rfl) (Nat.le_of_ble_eq_true rfl) (Nat.le_of_ble_eq_true rfl) rfl (fun v h F hp hok => ?_) (fun x h F hp hok => ?_)
  rotate_left
  ·
    obtain ⟨rfl, ⟨e, -⟩ | ⟨e, gn0⟩⟩ := hp
    · cases e
    obtain rfl := Sum.inr.inj e
    exact t_out rfl ⟨_, Or.inl ⟨(fun q => gn0 q.1), Or.inl rfl, rfl⟩, hok, rfl⟩
  obtain ⟨rfl, ⟨e, g0⟩ | ⟨e, -⟩⟩ := hp
  rotate_left
  · cases e
  obtain rfl := Sum.inl.inj e
  obtain ⟨j439, hj439, rfl⟩ := inZ.nat g0 (by first | decide | omega)
  refine q_iload_n dX4_query_9 rfl ?_
  refine q_iconst (v := nI 0) dX4_query_10 rfl ?_
  refine q_sipush (v := nI 999) dX4_query_11 rfl ?_
  refine w_callS (M' := mX4_checkNumber) [.int (a2), .int (nI 0), .int (nI 999)] [] dX4_query_14 wPX4_38 wTX4_checkNumber wNX4 iX4_checkNumber oX4_checkNumber rfl hok (wX4_checkNumber Sc Γ n V a2 (nI 0) (nI 999) 0 1000 (by decide) (by decide)) (Nat.le_of_ble_eq_true rfl) (Nat.le_of_ble_eq_true rfl) (Nat.le_of_ble_eq_true rfl) (Nat.le_of_ble_eq_true rfl) (Nat.le_of_ble_eq_true rfl) rfl (fun v h F hp hok => ?_) (fun x h F hp hok => ?_)
  rotate_left
  ·
    obtain ⟨rfl, ⟨e, -⟩ | ⟨e, gn1⟩⟩ := hp
    · cases e
    obtain rfl := Sum.inr.inj e
    exact t_out rfl ⟨_, Or.inl ⟨(fun q => gn1 q.2.1), Or.inr rfl, rfl⟩, hok, rfl⟩
  obtain ⟨rfl, ⟨e, g1⟩ | ⟨e, -⟩⟩ := hp
  rotate_left
  · cases e
  obtain rfl := Sum.inl.inj e
  refine q_iload_n dX4_query_17 rfl ?_
  refine q_iconst (v := -1) dX4_query_18 rfl ?_
  refine q_icmp_eq (tgt := 28) dX4_query_19 (by decide) (fun c440 => ?_) (fun c440 => ?_)
  ·
    subst c440
    refine q_iload dX4_query_28 rfl ?_
    refine q_iconst (v := nI 0) dX4_query_30 rfl ?_
    refine q_ldc dX4_query_31 wPX4_49 ?_
    refine w_callS (M' := mX4_checkNumber) [.int (a4), .int (nI 0), .int (65535)] [] dX4_query_33 wPX4_38 wTX4_checkNumber wNX4 iX4_checkNumber oX4_checkNumber rfl hok (wX4_checkNumber Sc Γ n V a4 (nI 0) 65535 0 65536 (by decide) (by decide)) (Nat.le_of_ble_eq_true rfl) (Nat.le_of_ble_eq_true rfl) (Nat.le_of_ble_eq_true rfl) (Nat.le_of_ble_eq_true rfl) (Nat.le_of_ble_eq_true rfl) rfl (fun v h F hp hok => ?_) (fun x h F hp hok => ?_)
    rotate_left
    ·
      obtain ⟨rfl, ⟨e, -⟩ | ⟨e, gn3⟩⟩ := hp
      · cases e
      obtain rfl := Sum.inr.inj e
      exact t_out rfl ⟨_, Or.inl ⟨(fun q => gn3 q.2.2.2), Or.inr rfl, rfl⟩, hok, rfl⟩
    obtain ⟨rfl, ⟨e, g3⟩ | ⟨e, -⟩⟩ := hp
    rotate_left
    · cases e
    obtain rfl := Sum.inl.inj e
    refine kX4_query_n Sc Γ n V X many H hm1 hm4 j439 (by omega) a2 a4 a5 (b5) (fun O h' eO hk => ?_) hok
    simp only [nn_nI (show j439 < 2 ^ 31 by omega), if_pos (show (-1 : Int32) = -1 from rfl)]
    exact ⟨_, Or.inr ⟨⟨g0, g1, (Or.inl (by trivial)), g3⟩, eO, rfl⟩, hk, by trivial⟩
  ·
    refine q_iload_n dX4_query_22 rfl ?_
    refine q_bipush (v := nI 8) dX4_query_23 rfl ?_
    refine w_callS (M' := mX4_checkIndex) [.int (a3), .int (nI 8)] [] dX4_query_25 wPX4_34 wTX4_checkIndex wNX4 iX4_checkIndex oX4_checkIndex rfl hok (wX4_checkIndex Sc Γ n V a3 (nI 8) 8 (by decide)) (Nat.le_of_ble_eq_true rfl) (Nat.le_of_ble_eq_true rfl) (Nat.le_of_ble_eq_true rfl) (Nat.le_of_ble_eq_true rfl) (Nat.le_of_ble_eq_true rfl) rfl (fun v h F hp hok => ?_) (fun x h F hp hok => ?_)
    rotate_left
    ·
      obtain ⟨rfl, ⟨e, -⟩ | ⟨e, gn2⟩⟩ := hp
      · cases e
      obtain rfl := Sum.inr.inj e
      exact t_out rfl ⟨_, Or.inl ⟨(fun q => (q.2.2.1).elim c440 gn2), Or.inl rfl, rfl⟩, hok, rfl⟩
    obtain ⟨rfl, ⟨e, g2⟩ | ⟨e, -⟩⟩ := hp
    rotate_left
    · cases e
    obtain rfl := Sum.inl.inj e
    obtain ⟨j441, hj441, rfl⟩ := inZ.nat g2 (by first | decide | omega)
    refine q_iload dX4_query_28 rfl ?_
    refine q_iconst (v := nI 0) dX4_query_30 rfl ?_
    refine q_ldc dX4_query_31 wPX4_49 ?_
    refine w_callS (M' := mX4_checkNumber) [.int (a4), .int (nI 0), .int (65535)] [] dX4_query_33 wPX4_38 wTX4_checkNumber wNX4 iX4_checkNumber oX4_checkNumber rfl hok (wX4_checkNumber Sc Γ n V a4 (nI 0) 65535 0 65536 (by decide) (by decide)) (Nat.le_of_ble_eq_true rfl) (Nat.le_of_ble_eq_true rfl) (Nat.le_of_ble_eq_true rfl) (Nat.le_of_ble_eq_true rfl) (Nat.le_of_ble_eq_true rfl) rfl (fun v h F hp hok => ?_) (fun x h F hp hok => ?_)
    rotate_left
    ·
      obtain ⟨rfl, ⟨e, -⟩ | ⟨e, gn3⟩⟩ := hp
      · cases e
      obtain rfl := Sum.inr.inj e
      exact t_out rfl ⟨_, Or.inl ⟨(fun q => gn3 q.2.2.2), Or.inr rfl, rfl⟩, hok, rfl⟩
    obtain ⟨rfl, ⟨e, g3⟩ | ⟨e, -⟩⟩ := hp
    rotate_left
    · cases e
    obtain rfl := Sum.inl.inj e
    refine kX4_query_g Sc Γ n V X many H hm1 hm4 j439 (by omega) a2 j441 (by omega) a4 a5 (b5) (fun O h' eO hk => ?_) hok
    simp only [nn_nI (show j439 < 2 ^ 31 by omega), nn_nI (show j441 < 2 ^ 31 by omega), if_neg (nI_nm (show j441 < 2 ^ 31 by omega))]
    exact ⟨_, Or.inr ⟨⟨g0, g1, (Or.inr g2), g3⟩, eO, rfl⟩, hk, by trivial⟩
