section QLAW
variable {Sc : q_S} {M : q_M} {pc : Nat} {L st : List Value} {h : q_H} {n kc ks : Nat} {Q : q_O → q_H → Nat → Prop}
theorem t_catch {x : Nat} (hpc : Nat) (hf : q_hf M pc x = some hpc) (hall : ∀ r ∈ q_hs M, (q_ct r.2.2.2).isSome = true) (hown : q_own M = "GroupFiltersLaw") (k : q_A Sc M hpc L [.float 0] h n kc ks Q) : q_Th Sc M pc L h n kc ks Q x := by
  unfold q_Th
  rw [hf]
  exact ⟨hall, hown, k⟩
theorem q_lconst {j : Fin 2} (hd : decode (q_cc M) pc = .ok (.lconst j, 1)) (k : q_A Sc M (pc + 1) L (.long (Int64.ofNat j) :: st) h n kc ks Q) : q_A Sc M pc L st h n kc ks Q := by
  intro D dT H0 p l e R s m args below meth c H locs cells slots ls st' sb ws ads0 kc' ks' g T hT X
  obtain ⟨hF, hW, hL, hS, hr⟩ := g
  obtain ⟨t, a, b⟩ := k D dT H0 p l e R s m args below meth c H locs cells slots ls (.long (Int64.ofNat j) :: st') sb ws ads0 kc' ks' ⟨hF, hW, hL, ⟨_, _, rfl, rfl, hS⟩, hr⟩ T hT X
  refine ⟨t, ?_, b⟩
  have hexec := hF.1
  have hb := hF.2.1
  jvm_step X.here [X.here.top, hexec, hb, hd]
  exact a
theorem q_lcmp {x y : Int64} (hd : decode (q_cc M) pc = .ok (.lcmp, 1)) (k : q_A Sc M (pc + 1) L (.int (lg_cmp x y) :: st) h n kc ks Q) : q_A Sc M pc L (.long y :: .long x :: st) h n kc ks Q := by
  intro D dT H0 p l e R s m args below meth c H locs cells slots ls st' sb ws ads0 kc' ks' g
  obtain ⟨hF, hW, hL, ⟨_, _, rfl, rfl, _, _, rfl, rfl, hS⟩, hr⟩ := g
  exact W.lcmp hF.1 hF.2.1 hd (k D dT H0 p l e R s m args below meth c H locs cells slots ls _ sb ws ads0 kc' ks' ⟨hF, hW, hL, ⟨_, _, rfl, rfl, hS⟩, hr⟩)
end QLAW

set_option maxRecDepth 20000 in
set_option maxHeartbeats 4000000 in
theorem sL_settings (Sc : q_S) (Γ : Nat → q_K) (n : Nat) {a0 many : Nat} (b0 : kGF Γ a0 many) (hm1 : 1 ≤ many) (hm4 : many ≤ 4) (a1 : Int32) (a2 : Int32) (a3 : Int32) (a4 : Int32) {w : Nat} (hw : Γ w = (5, 1, [])) : q_safe Sc Γ mL_settings [.ref a0, .int (a1), .int (a2), .int (a3), .int (a4), .ref w] n 4 24 q_RI := by
  intro h hok
  show q_A Sc mL_settings 0 [.ref a0, .int (a1), .int (a2), .int (a3), .int (a4), .ref w, .retAddr 0] [] h n 4 24 (fun O h' n' => (q_RI) O ∧ q_ok Γ h' ∧ n' = n)
  refine q_aload dL_settings_0 rfl ?_
  refine q_iconst (v := nI 0) dL_settings_2 rfl ?_
  refine q_aload_n dL_settings_3 rfl ?_
  refine q_iload_n dL_settings_4 rfl ?_
  refine q_iload_n dL_settings_5 rfl ?_
  refine q_iload_n dL_settings_6 rfl ?_
  refine q_iload dL_settings_7 rfl ?_
  obtain ⟨pu1522, qu1522, ru1522, gu1522, au1522, bu1522, cu1522, du1522⟩ := id b0
  refine t_callV (M' := mX4_settings) [.int (a1), .int (a2), .int (a3), .int (a4)] [.int (nI 0), .ref w] kX4 dL_settings_9 wPL_7v wIX4_settings wSX4_settings iX4_settings oX4_settings rfl hok gu1522 (sX4_settings Sc Γ n b0 hm1 hm4 (a1) (a2) (a3) (a4)) (Nat.le_of_ble_eq_true rfl) (Nat.le_of_ble_eq_true rfl) (Nat.le_of_ble_eq_true rfl) (Nat.le_of_ble_eq_true rfl) (Nat.le_of_ble_eq_true rfl) rfl (fun v1523 h qv1523 hok => ?_) (fun e1524 h qe1524 hok => ?_)
  rotate_left
  · have h9 : e1524 < 2 := (by have h8 := q_XI.x qe1524; exact h8)
    obtain rfl | rfl : e1524 = 0 ∨ e1524 = 1 := by omega
    · refine t_catch 17 rfl (by decide) rfl ?_
      refine q_astore_x dL_settings_17 (by decide) ?_
      refine q_iconst (v := nI 1) dL_settings_19 rfl ?_
      exact q_iret dL_settings_20 rfl (rfl) ⟨⟨_, rfl⟩, hok, rfl⟩
    · refine t_catch 21 rfl (by decide) rfl ?_
      refine q_astore_x dL_settings_21 (by decide) ?_
      refine q_iconst (v := nI 2) dL_settings_23 rfl ?_
      exact q_iret dL_settings_24 rfl (rfl) ⟨⟨_, rfl⟩, hok, rfl⟩
  obtain ⟨x1525, rfl⟩ := q_XI.v qv1523
  refine q_i2l dL_settings_12 ?_
  refine t_last dL_settings_13 hok hw (by exact vp_in_nI (by omega) (by omega)) (fun h hok => ?_)
  refine q_goto (tgt := 25) dL_settings_14 (by decide) ?_
  refine q_iconst (v := nI 0) dL_settings_25 rfl ?_
  exact q_iret dL_settings_26 rfl (rfl) ⟨⟨_, rfl⟩, hok, rfl⟩
set_option maxRecDepth 20000 in
set_option maxHeartbeats 4000000 in
theorem sL_report (Sc : q_S) (Γ : Nat → q_K) (n : Nat) {a0 many : Nat} (b0 : kGF Γ a0 many) (hm1 : 1 ≤ many) (hm4 : many ≤ 4) (a1 : Int32) (a2 : Int32) (a3 : Int32) (a4 : Int32) {w : Nat} (hw : Γ w = (5, 1, [])) : q_safe Sc Γ mL_report [.ref a0, .int (a1), .int (a2), .int (a3), .int (a4), .ref w] n 4 24 q_RI := by
  intro h hok
  show q_A Sc mL_report 0 [.ref a0, .int (a1), .int (a2), .int (a3), .int (a4), .ref w, .retAddr 0] [] h n 4 24 (fun O h' n' => (q_RI) O ∧ q_ok Γ h' ∧ n' = n)
  refine q_aload dL_report_0 rfl ?_
  refine q_iconst (v := nI 0) dL_report_2 rfl ?_
  refine q_aload_n dL_report_3 rfl ?_
  refine q_iload_n dL_report_4 rfl ?_
  refine q_iload_n dL_report_5 rfl ?_
  refine q_iload_n dL_report_6 rfl ?_
  refine q_iload dL_report_7 rfl ?_
  obtain ⟨pu1526, qu1526, ru1526, gu1526, au1526, bu1526, cu1526, du1526⟩ := id b0
  refine t_callV (M' := mX4_report) [.int (a1), .int (a2), .int (a3), .int (a4)] [.int (nI 0), .ref w] kX4 dL_report_9 wPL_17v wIX4_report wSX4_report iX4_report oX4_report rfl hok gu1526 (sX4_report Sc Γ n b0 hm1 hm4 (a1) (a2) (a3) (a4)) (Nat.le_of_ble_eq_true rfl) (Nat.le_of_ble_eq_true rfl) (Nat.le_of_ble_eq_true rfl) (Nat.le_of_ble_eq_true rfl) (Nat.le_of_ble_eq_true rfl) rfl (fun v1527 h qv1527 hok => ?_) (fun e1528 h qe1528 hok => ?_)
  rotate_left
  · have h9 : e1528 < 2 := (by have h8 := q_XI.x qe1528; exact h8)
    obtain rfl | rfl : e1528 = 0 ∨ e1528 = 1 := by omega
    · refine t_catch 17 rfl (by decide) rfl ?_
      refine q_astore_x dL_report_17 (by decide) ?_
      refine q_iconst (v := nI 1) dL_report_19 rfl ?_
      exact q_iret dL_report_20 rfl (rfl) ⟨⟨_, rfl⟩, hok, rfl⟩
    · refine t_catch 21 rfl (by decide) rfl ?_
      refine q_astore_x dL_report_21 (by decide) ?_
      refine q_iconst (v := nI 2) dL_report_23 rfl ?_
      exact q_iret dL_report_24 rfl (rfl) ⟨⟨_, rfl⟩, hok, rfl⟩
  obtain ⟨x1529, rfl⟩ := q_XI.v qv1527
  refine q_i2l dL_report_12 ?_
  refine t_last dL_report_13 hok hw (by exact vp_in_nI (by omega) (by omega)) (fun h hok => ?_)
  refine q_goto (tgt := 25) dL_report_14 (by decide) ?_
  refine q_iconst (v := nI 0) dL_report_25 rfl ?_
  exact q_iret dL_report_26 rfl (rfl) ⟨⟨_, rfl⟩, hok, rfl⟩
set_option maxRecDepth 20000 in
set_option maxHeartbeats 4000000 in
theorem sL_query (Sc : q_S) (Γ : Nat → q_K) (n : Nat) {a0 many : Nat} (b0 : kGF Γ a0 many) (hm1 : 1 ≤ many) (hm4 : many ≤ 4) (a1 : Int32) (a2 : Int32) (a3 : Int32) (a4 : Int32) (a5 : Int32) (b5 : q_bl a5) {w : Nat} (hw : Γ w = (5, 1, [])) : q_safe Sc Γ mL_query [.ref a0, .int (a1), .int (a2), .int (a3), .int (a4), .int (a5), .ref w] n 4 24 q_RI := by
  intro h hok
  show q_A Sc mL_query 0 [.ref a0, .int (a1), .int (a2), .int (a3), .int (a4), .int (a5), .ref w, .retAddr 0] [] h n 4 24 (fun O h' n' => (q_RI) O ∧ q_ok Γ h' ∧ n' = n)
  refine q_aload dL_query_0 rfl ?_
  refine q_iconst (v := nI 0) dL_query_2 rfl ?_
  refine q_aload_n dL_query_3 rfl ?_
  refine q_iload_n dL_query_4 rfl ?_
  refine q_iload_n dL_query_5 rfl ?_
  refine q_iload_n dL_query_6 rfl ?_
  refine q_iload dL_query_7 rfl ?_
  refine q_iload dL_query_9 rfl ?_
  obtain ⟨pu1530, qu1530, ru1530, gu1530, au1530, bu1530, cu1530, du1530⟩ := id b0
  refine t_callV (M' := mX4_query) [.int (a1), .int (a2), .int (a3), .int (a4), .int (a5)] [.int (nI 0), .ref w] kX4 dL_query_11 wPL_20v wIX4_query wSX4_query iX4_query oX4_query rfl hok gu1530 (sX4_query Sc Γ n b0 hm1 hm4 (a1) (a2) (a3) (a4) (a5) (b5)) (Nat.le_of_ble_eq_true rfl) (Nat.le_of_ble_eq_true rfl) (Nat.le_of_ble_eq_true rfl) (Nat.le_of_ble_eq_true rfl) (Nat.le_of_ble_eq_true rfl) rfl (fun v1531 h qv1531 hok => ?_) (fun e1532 h qe1532 hok => ?_)
  rotate_left
  · have h9 : e1532 < 2 := (by have h8 := q_XB.x qe1532; exact h8)
    obtain rfl | rfl : e1532 = 0 ∨ e1532 = 1 := by omega
    · refine t_catch 26 rfl (by decide) rfl ?_
      refine q_astore_x dL_query_26 (by decide) ?_
      refine q_iconst (v := nI 1) dL_query_28 rfl ?_
      exact q_iret dL_query_29 rfl (rfl) ⟨⟨_, rfl⟩, hok, rfl⟩
    · refine t_catch 30 rfl (by decide) rfl ?_
      refine q_astore_x dL_query_30 (by decide) ?_
      refine q_iconst (v := nI 2) dL_query_32 rfl ?_
      exact q_iret dL_query_33 rfl (rfl) ⟨⟨_, rfl⟩, hok, rfl⟩
  obtain ⟨x1533, rfl, bx1533⟩ := q_XB.v qv1531
  refine q_if_eq (tgt := 21) dL_query_14 (by decide) (fun c1534 => ?_) (fun c1534 => ?_)
  ·
    refine q_lconst dL_query_21 ?_
    refine t_last dL_query_22 hok hw (by exact vp_in_nI (by omega) (by omega)) (fun h hok => ?_)
    refine q_goto (tgt := 34) dL_query_23 (by decide) ?_
    refine q_iconst (v := nI 0) dL_query_34 rfl ?_
    exact q_iret dL_query_35 rfl (rfl) ⟨⟨_, rfl⟩, hok, rfl⟩
  ·
    refine q_lconst dL_query_17 ?_
    refine q_goto (tgt := 22) dL_query_18 (by decide) ?_
    refine t_last dL_query_22 hok hw (by exact vp_in_nI (by omega) (by omega)) (fun h hok => ?_)
    refine q_goto (tgt := 34) dL_query_23 (by decide) ?_
    refine q_iconst (v := nI 0) dL_query_34 rfl ?_
    exact q_iret dL_query_35 rfl (rfl) ⟨⟨_, rfl⟩, hok, rfl⟩
set_option maxRecDepth 20000 in
set_option maxHeartbeats 4000000 in
theorem sL_tick (Sc : q_S) (Γ : Nat → q_K) (n : Nat) {a0 many : Nat} (b0 : kGF Γ a0 many) (hm1 : 1 ≤ many) (hm4 : many ≤ 4) (a1 : Int32) {w : Nat} (hw : Γ w = (5, 1, [])) : q_safe Sc Γ mL_tick [.ref a0, .int (a1), .ref w] n 1 6 q_RI := by
  intro h hok
  show q_A Sc mL_tick 0 [.ref a0, .int (a1), .ref w, .retAddr 0] [] h n 1 6 (fun O h' n' => (q_RI) O ∧ q_ok Γ h' ∧ n' = n)
  refine q_aload_n dL_tick_0 rfl ?_
  refine q_iconst (v := nI 0) dL_tick_1 rfl ?_
  refine q_aload_n dL_tick_2 rfl ?_
  refine q_iload_n dL_tick_3 rfl ?_
  obtain ⟨pu1535, qu1535, ru1535, gu1535, au1535, bu1535, cu1535, du1535⟩ := id b0
  refine t_callV (M' := mX4_tick) [.int (a1)] [.int (nI 0), .ref w] kX4 dL_tick_4 wPL_24v wIX4_tick wSX4_tick iX4_tick oX4_tick rfl hok gu1535 (sX4_tick Sc Γ n b0 hm1 hm4 (a1)) (Nat.le_of_ble_eq_true rfl) (Nat.le_of_ble_eq_true rfl) (Nat.le_of_ble_eq_true rfl) (Nat.le_of_ble_eq_true rfl) (Nat.le_of_ble_eq_true rfl) rfl (fun v1536 h qv1536 hok => ?_) (fun e1537 h qe1537 hok => ?_)
  rotate_left
  · obtain rfl : e1537 = 1 := (by have h8 := q_XI.x qe1537; exact h8)
    refine t_catch 12 rfl (by decide) rfl ?_
    refine q_astore_n_x dL_tick_12 (by decide) ?_
    refine q_iconst (v := nI 1) dL_tick_13 rfl ?_
    exact q_iret dL_tick_14 rfl (rfl) ⟨⟨_, rfl⟩, hok, rfl⟩
  obtain ⟨x1538, rfl⟩ := q_XI.v qv1536
  refine q_i2l dL_tick_7 ?_
  refine t_last dL_tick_8 hok hw (by exact vp_in_nI (by omega) (by omega)) (fun h hok => ?_)
  refine q_goto (tgt := 15) dL_tick_9 (by decide) ?_
  refine q_iconst (v := nI 0) dL_tick_15 rfl ?_
  exact q_iret dL_tick_16 rfl (rfl) ⟨⟨_, rfl⟩, hok, rfl⟩
set_option maxRecDepth 20000 in
set_option maxHeartbeats 4000000 in
theorem sL_passed (Sc : q_S) (Γ : Nat → q_K) (n : Nat) {a0 many : Nat} (b0 : kGF Γ a0 many) (hm1 : 1 ≤ many) (hm4 : many ≤ 4) (a1 : Int32) (a2 : Int32) (a3 : Int32) {w : Nat} (hw : Γ w = (5, 1, [])) : q_safe Sc Γ mL_passed [.ref a0, .int (a1), .int (a2), .int (a3), .ref w] n 3 18 q_RI := by
  intro h hok
  show q_A Sc mL_passed 0 [.ref a0, .int (a1), .int (a2), .int (a3), .ref w, .retAddr 0] [] h n 3 18 (fun O h' n' => (q_RI) O ∧ q_ok Γ h' ∧ n' = n)
  refine q_aload dL_passed_0 rfl ?_
  refine q_iconst (v := nI 0) dL_passed_2 rfl ?_
  refine q_aload_n dL_passed_3 rfl ?_
  refine q_iload_n dL_passed_4 rfl ?_
  refine q_iload_n dL_passed_5 rfl ?_
  refine q_iload_n dL_passed_6 rfl ?_
  obtain ⟨pu1539, qu1539, ru1539, gu1539, au1539, bu1539, cu1539, du1539⟩ := id b0
  refine t_callV (M' := mX4_passed) [.int (a1), .int (a2), .int (a3)] [.int (nI 0), .ref w] kX4 dL_passed_7 wPL_40v wIX4_passed wSX4_passed iX4_passed oX4_passed rfl hok gu1539 (sX4_passed Sc Γ n b0 hm1 hm4 (a1) (a2) (a3)) (Nat.le_of_ble_eq_true rfl) (Nat.le_of_ble_eq_true rfl) (Nat.le_of_ble_eq_true rfl) (Nat.le_of_ble_eq_true rfl) (Nat.le_of_ble_eq_true rfl) rfl (fun v1540 h qv1540 hok => ?_) (fun e1541 h qe1541 hok => ?_)
  rotate_left
  · obtain rfl : e1541 = 0 := (by have h8 := q_XI.x qe1541; exact h8)
    refine t_catch 15 rfl (by decide) rfl ?_
    refine q_astore_x dL_passed_15 (by decide) ?_
    refine q_iconst (v := nI 1) dL_passed_17 rfl ?_
    exact q_iret dL_passed_18 rfl (rfl) ⟨⟨_, rfl⟩, hok, rfl⟩
  obtain ⟨x1542, rfl⟩ := q_XI.v qv1540
  refine q_i2l dL_passed_10 ?_
  refine t_last dL_passed_11 hok hw (by exact vp_in_nI (by omega) (by omega)) (fun h hok => ?_)
  refine q_goto (tgt := 19) dL_passed_12 (by decide) ?_
  refine q_iconst (v := nI 0) dL_passed_19 rfl ?_
  exact q_iret dL_passed_20 rfl (rfl) ⟨⟨_, rfl⟩, hok, rfl⟩
set_option maxRecDepth 20000 in
set_option maxHeartbeats 4000000 in
theorem sL_mode (Sc : q_S) (Γ : Nat → q_K) (n : Nat) {a0 many : Nat} (b0 : kGF Γ a0 many) (hm1 : 1 ≤ many) (hm4 : many ≤ 4) (a1 : Int32) (a2 : Int32) {w : Nat} (hw : Γ w = (5, 1, [])) : q_safe Sc Γ mL_mode [.ref a0, .int (a1), .int (a2), .ref w] n 2 12 q_RI := by
  intro h hok
  show q_A Sc mL_mode 0 [.ref a0, .int (a1), .int (a2), .ref w, .retAddr 0] [] h n 2 12 (fun O h' n' => (q_RI) O ∧ q_ok Γ h' ∧ n' = n)
  refine q_aload_n dL_mode_0 rfl ?_
  refine q_iconst (v := nI 0) dL_mode_1 rfl ?_
  refine q_aload_n dL_mode_2 rfl ?_
  refine q_iload_n dL_mode_3 rfl ?_
  refine q_iload_n dL_mode_4 rfl ?_
  obtain ⟨pu1543, qu1543, ru1543, gu1543, au1543, bu1543, cu1543, du1543⟩ := id b0
  refine t_callV (M' := mX4_mode) [.int (a1), .int (a2)] [.int (nI 0), .ref w] kX4 dL_mode_5 wPL_44v wIX4_mode wSX4_mode iX4_mode oX4_mode rfl hok gu1543 (sX4_mode Sc Γ n b0 hm1 hm4 (a1) (a2)) (Nat.le_of_ble_eq_true rfl) (Nat.le_of_ble_eq_true rfl) (Nat.le_of_ble_eq_true rfl) (Nat.le_of_ble_eq_true rfl) (Nat.le_of_ble_eq_true rfl) rfl (fun v1544 h qv1544 hok => ?_) (fun e1545 h qe1545 hok => ?_)
  rotate_left
  · obtain rfl : e1545 = 0 := (by have h8 := q_XI.x qe1545; exact h8)
    refine t_catch 13 rfl (by decide) rfl ?_
    refine q_astore_x dL_mode_13 (by decide) ?_
    refine q_iconst (v := nI 1) dL_mode_15 rfl ?_
    exact q_iret dL_mode_16 rfl (rfl) ⟨⟨_, rfl⟩, hok, rfl⟩
  obtain ⟨x1546, rfl⟩ := q_XI.v qv1544
  refine q_i2l dL_mode_8 ?_
  refine t_last dL_mode_9 hok hw (by exact vp_in_nI (by omega) (by omega)) (fun h hok => ?_)
  refine q_goto (tgt := 17) dL_mode_10 (by decide) ?_
  refine q_iconst (v := nI 0) dL_mode_17 rfl ?_
  exact q_iret dL_mode_18 rfl (rfl) ⟨⟨_, rfl⟩, hok, rfl⟩
set_option maxRecDepth 20000 in
set_option maxHeartbeats 4000000 in
theorem sL_sources (Sc : q_S) (Γ : Nat → q_K) (n : Nat) {a0 many : Nat} (b0 : kGF Γ a0 many) (hm1 : 1 ≤ many) (hm4 : many ≤ 4) (a1 : Int32) (a2 : Int32) (a3 : Int32) (b3 : q_bl a3) {w : Nat} (hw : Γ w = (5, 1, [])) : q_safe Sc Γ mL_sources [.ref a0, .int (a1), .int (a2), .int (a3), .ref w] n 2 12 q_RI := by
  intro h hok
  show q_A Sc mL_sources 0 [.ref a0, .int (a1), .int (a2), .int (a3), .ref w, .retAddr 0] [] h n 2 12 (fun O h' n' => (q_RI) O ∧ q_ok Γ h' ∧ n' = n)
  refine q_aload dL_sources_0 rfl ?_
  refine q_iconst (v := nI 0) dL_sources_2 rfl ?_
  refine q_aload_n dL_sources_3 rfl ?_
  refine q_iload_n dL_sources_4 rfl ?_
  refine q_iload_n dL_sources_5 rfl ?_
  refine q_iload_n dL_sources_6 rfl ?_
  obtain ⟨pu1547, qu1547, ru1547, gu1547, au1547, bu1547, cu1547, du1547⟩ := id b0
  refine t_callV (M' := mX4_sources) [.int (a1), .int (a2), .int (a3)] [.int (nI 0), .ref w] kX4 dL_sources_7 wPL_47v wIX4_sources wSX4_sources iX4_sources oX4_sources rfl hok gu1547 (sX4_sources Sc Γ n b0 hm1 hm4 (a1) (a2) (a3) (b3)) (Nat.le_of_ble_eq_true rfl) (Nat.le_of_ble_eq_true rfl) (Nat.le_of_ble_eq_true rfl) (Nat.le_of_ble_eq_true rfl) (Nat.le_of_ble_eq_true rfl) rfl (fun v1548 h qv1548 hok => ?_) (fun e1549 h qe1549 hok => ?_)
  rotate_left
  · obtain rfl : e1549 = 0 := (by have h8 := q_XI.x qe1549; exact h8)
    refine t_catch 15 rfl (by decide) rfl ?_
    refine q_astore_x dL_sources_15 (by decide) ?_
    refine q_iconst (v := nI 1) dL_sources_17 rfl ?_
    exact q_iret dL_sources_18 rfl (rfl) ⟨⟨_, rfl⟩, hok, rfl⟩
  obtain ⟨x1550, rfl⟩ := q_XI.v qv1548
  refine q_i2l dL_sources_10 ?_
  refine t_last dL_sources_11 hok hw (by exact vp_in_nI (by omega) (by omega)) (fun h hok => ?_)
  refine q_goto (tgt := 19) dL_sources_12 (by decide) ?_
  refine q_iconst (v := nI 0) dL_sources_19 rfl ?_
  exact q_iret dL_sources_20 rfl (rfl) ⟨⟨_, rfl⟩, hok, rfl⟩
set_option maxRecDepth 20000 in
set_option maxHeartbeats 4000000 in
theorem sL_timer (Sc : q_S) (Γ : Nat → q_K) (n : Nat) {a0 many : Nat} (b0 : kGF Γ a0 many) (hm1 : 1 ≤ many) (hm4 : many ≤ 4) (a1 : Int32) (a2 : Int32) (a3 : Int32) {w : Nat} (hw : Γ w = (5, 1, [])) : q_safe Sc Γ mL_timer [.ref a0, .int (a1), .int (a2), .int (a3), .ref w] n 3 18 q_RI := by
  intro h hok
  show q_A Sc mL_timer 0 [.ref a0, .int (a1), .int (a2), .int (a3), .ref w, .retAddr 0] [] h n 3 18 (fun O h' n' => (q_RI) O ∧ q_ok Γ h' ∧ n' = n)
  refine q_aload dL_timer_0 rfl ?_
  refine q_iconst (v := nI 0) dL_timer_2 rfl ?_
  refine q_aload_n dL_timer_3 rfl ?_
  refine q_iload_n dL_timer_4 rfl ?_
  refine q_iload_n dL_timer_5 rfl ?_
  refine q_iload_n dL_timer_6 rfl ?_
  obtain ⟨pu1551, qu1551, ru1551, gu1551, au1551, bu1551, cu1551, du1551⟩ := id b0
  refine t_callV (M' := mX4_timer) [.int (a1), .int (a2), .int (a3)] [.int (nI 0), .ref w] kX4 dL_timer_7 wPL_51v wIX4_timer wSX4_timer iX4_timer oX4_timer rfl hok gu1551 (sX4_timer Sc Γ n b0 hm1 hm4 (a1) (a2) (a3)) (Nat.le_of_ble_eq_true rfl) (Nat.le_of_ble_eq_true rfl) (Nat.le_of_ble_eq_true rfl) (Nat.le_of_ble_eq_true rfl) (Nat.le_of_ble_eq_true rfl) rfl (fun v1552 h qv1552 hok => ?_) (fun e1553 h qe1553 hok => ?_)
  rotate_left
  · obtain rfl : e1553 = 0 := (by have h8 := q_XI.x qe1553; exact h8)
    refine t_catch 15 rfl (by decide) rfl ?_
    refine q_astore_x dL_timer_15 (by decide) ?_
    refine q_iconst (v := nI 1) dL_timer_17 rfl ?_
    exact q_iret dL_timer_18 rfl (rfl) ⟨⟨_, rfl⟩, hok, rfl⟩
  obtain ⟨x1554, rfl⟩ := q_XI.v qv1552
  refine q_i2l dL_timer_10 ?_
  refine t_last dL_timer_11 hok hw (by exact vp_in_nI (by omega) (by omega)) (fun h hok => ?_)
  refine q_goto (tgt := 19) dL_timer_12 (by decide) ?_
  refine q_iconst (v := nI 0) dL_timer_19 rfl ?_
  exact q_iret dL_timer_20 rfl (rfl) ⟨⟨_, rfl⟩, hok, rfl⟩
set_option maxRecDepth 20000 in
set_option maxHeartbeats 4000000 in
theorem sL_groupTimer (Sc : q_S) (Γ : Nat → q_K) (n : Nat) {a0 many : Nat} (b0 : kGF Γ a0 many) (hm1 : 1 ≤ many) (hm4 : many ≤ 4) (a1 : Int32) (a2 : Int32) {w : Nat} (hw : Γ w = (5, 1, [])) : q_safe Sc Γ mL_groupTimer [.ref a0, .int (a1), .int (a2), .ref w] n 2 12 q_RI := by
  intro h hok
  show q_A Sc mL_groupTimer 0 [.ref a0, .int (a1), .int (a2), .ref w, .retAddr 0] [] h n 2 12 (fun O h' n' => (q_RI) O ∧ q_ok Γ h' ∧ n' = n)
  refine q_aload_n dL_groupTimer_0 rfl ?_
  refine q_iconst (v := nI 0) dL_groupTimer_1 rfl ?_
  refine q_aload_n dL_groupTimer_2 rfl ?_
  refine q_iload_n dL_groupTimer_3 rfl ?_
  refine q_iload_n dL_groupTimer_4 rfl ?_
  obtain ⟨pu1555, qu1555, ru1555, gu1555, au1555, bu1555, cu1555, du1555⟩ := id b0
  refine t_callV (M' := mX4_groupTimer) [.int (a1), .int (a2)] [.int (nI 0), .ref w] kX4 dL_groupTimer_5 wPL_54v wIX4_groupTimer wSX4_groupTimer iX4_groupTimer oX4_groupTimer rfl hok gu1555 (sX4_groupTimer Sc Γ n b0 hm1 hm4 (a1) (a2)) (Nat.le_of_ble_eq_true rfl) (Nat.le_of_ble_eq_true rfl) (Nat.le_of_ble_eq_true rfl) (Nat.le_of_ble_eq_true rfl) (Nat.le_of_ble_eq_true rfl) rfl (fun v1556 h qv1556 hok => ?_) (fun e1557 h qe1557 hok => ?_)
  rotate_left
  · obtain rfl : e1557 = 0 := (by have h8 := q_XI.x qe1557; exact h8)
    refine t_catch 13 rfl (by decide) rfl ?_
    refine q_astore_x dL_groupTimer_13 (by decide) ?_
    refine q_iconst (v := nI 1) dL_groupTimer_15 rfl ?_
    exact q_iret dL_groupTimer_16 rfl (rfl) ⟨⟨_, rfl⟩, hok, rfl⟩
  obtain ⟨x1558, rfl⟩ := q_XI.v qv1556
  refine q_i2l dL_groupTimer_8 ?_
  refine t_last dL_groupTimer_9 hok hw (by exact vp_in_nI (by omega) (by omega)) (fun h hok => ?_)
  refine q_goto (tgt := 17) dL_groupTimer_10 (by decide) ?_
  refine q_iconst (v := nI 0) dL_groupTimer_17 rfl ?_
  exact q_iret dL_groupTimer_18 rfl (rfl) ⟨⟨_, rfl⟩, hok, rfl⟩
set_option maxRecDepth 20000 in
set_option maxHeartbeats 4000000 in
theorem sL_asked (Sc : q_S) (Γ : Nat → q_K) (n : Nat) {a0 many : Nat} (b0 : kGF Γ a0 many) (hm1 : 1 ≤ many) (hm4 : many ≤ 4) (a1 : Int32) (a2 : Int32) {w : Nat} (hw : Γ w = (5, 1, [])) : q_safe Sc Γ mL_asked [.ref a0, .int (a1), .int (a2), .ref w] n 2 12 q_RI := by
  intro h hok
  show q_A Sc mL_asked 0 [.ref a0, .int (a1), .int (a2), .ref w, .retAddr 0] [] h n 2 12 (fun O h' n' => (q_RI) O ∧ q_ok Γ h' ∧ n' = n)
  refine q_aload_n dL_asked_0 rfl ?_
  refine q_iconst (v := nI 0) dL_asked_1 rfl ?_
  refine q_aload_n dL_asked_2 rfl ?_
  refine q_iload_n dL_asked_3 rfl ?_
  refine q_iload_n dL_asked_4 rfl ?_
  obtain ⟨pu1559, qu1559, ru1559, gu1559, au1559, bu1559, cu1559, du1559⟩ := id b0
  refine t_callV (M' := mX4_asked) [.int (a1), .int (a2)] [.int (nI 0), .ref w] kX4 dL_asked_5 wPL_57v wIX4_asked wSX4_asked iX4_asked oX4_asked rfl hok gu1559 (sX4_asked Sc Γ n b0 hm1 hm4 (a1) (a2)) (Nat.le_of_ble_eq_true rfl) (Nat.le_of_ble_eq_true rfl) (Nat.le_of_ble_eq_true rfl) (Nat.le_of_ble_eq_true rfl) (Nat.le_of_ble_eq_true rfl) rfl (fun v1560 h qv1560 hok => ?_) (fun e1561 h qe1561 hok => ?_)
  rotate_left
  · have h9 : e1561 < 2 := (by have h8 := q_XI.x qe1561; exact h8)
    obtain rfl | rfl : e1561 = 0 ∨ e1561 = 1 := by omega
    · refine t_catch 13 rfl (by decide) rfl ?_
      refine q_astore_x dL_asked_13 (by decide) ?_
      refine q_iconst (v := nI 1) dL_asked_15 rfl ?_
      exact q_iret dL_asked_16 rfl (rfl) ⟨⟨_, rfl⟩, hok, rfl⟩
    · refine t_catch 17 rfl (by decide) rfl ?_
      refine q_astore_x dL_asked_17 (by decide) ?_
      refine q_iconst (v := nI 2) dL_asked_19 rfl ?_
      exact q_iret dL_asked_20 rfl (rfl) ⟨⟨_, rfl⟩, hok, rfl⟩
  obtain ⟨x1562, rfl⟩ := q_XI.v qv1560
  refine q_i2l dL_asked_8 ?_
  refine t_last dL_asked_9 hok hw (by exact vp_in_nI (by omega) (by omega)) (fun h hok => ?_)
  refine q_goto (tgt := 21) dL_asked_10 (by decide) ?_
  refine q_iconst (v := nI 0) dL_asked_21 rfl ?_
  exact q_iret dL_asked_22 rfl (rfl) ⟨⟨_, rfl⟩, hok, rfl⟩
set_option maxRecDepth 20000 in
set_option maxHeartbeats 4000000 in
theorem sL_told (Sc : q_S) (Γ : Nat → q_K) (n : Nat) {a0 many : Nat} (b0 : kGF Γ a0 many) (hm1 : 1 ≤ many) (hm4 : many ≤ 4) (a1 : Int32) (a2 : Int32) {w : Nat} (hw : Γ w = (5, 1, [])) : q_safe Sc Γ mL_told [.ref a0, .int (a1), .int (a2), .ref w] n 2 12 q_RI := by
  intro h hok
  show q_A Sc mL_told 0 [.ref a0, .int (a1), .int (a2), .ref w, .retAddr 0] [] h n 2 12 (fun O h' n' => (q_RI) O ∧ q_ok Γ h' ∧ n' = n)
  refine q_aload_n dL_told_0 rfl ?_
  refine q_iconst (v := nI 0) dL_told_1 rfl ?_
  refine q_aload_n dL_told_2 rfl ?_
  refine q_iload_n dL_told_3 rfl ?_
  refine q_iload_n dL_told_4 rfl ?_
  obtain ⟨pu1563, qu1563, ru1563, gu1563, au1563, bu1563, cu1563, du1563⟩ := id b0
  refine t_callV (M' := mX4_told) [.int (a1), .int (a2)] [.int (nI 0), .ref w] kX4 dL_told_5 wPL_60v wIX4_told wSX4_told iX4_told oX4_told rfl hok gu1563 (sX4_told Sc Γ n b0 hm1 hm4 (a1) (a2)) (Nat.le_of_ble_eq_true rfl) (Nat.le_of_ble_eq_true rfl) (Nat.le_of_ble_eq_true rfl) (Nat.le_of_ble_eq_true rfl) (Nat.le_of_ble_eq_true rfl) rfl (fun v1564 h qv1564 hok => ?_) (fun e1565 h qe1565 hok => ?_)
  rotate_left
  · have h9 : e1565 < 2 := (by have h8 := q_XI.x qe1565; exact h8)
    obtain rfl | rfl : e1565 = 0 ∨ e1565 = 1 := by omega
    · refine t_catch 13 rfl (by decide) rfl ?_
      refine q_astore_x dL_told_13 (by decide) ?_
      refine q_iconst (v := nI 1) dL_told_15 rfl ?_
      exact q_iret dL_told_16 rfl (rfl) ⟨⟨_, rfl⟩, hok, rfl⟩
    · refine t_catch 17 rfl (by decide) rfl ?_
      refine q_astore_x dL_told_17 (by decide) ?_
      refine q_iconst (v := nI 2) dL_told_19 rfl ?_
      exact q_iret dL_told_20 rfl (rfl) ⟨⟨_, rfl⟩, hok, rfl⟩
  obtain ⟨x1566, rfl⟩ := q_XI.v qv1564
  refine q_i2l dL_told_8 ?_
  refine t_last dL_told_9 hok hw (by exact vp_in_nI (by omega) (by omega)) (fun h hok => ?_)
  refine q_goto (tgt := 21) dL_told_10 (by decide) ?_
  refine q_iconst (v := nI 0) dL_told_21 rfl ?_
  exact q_iret dL_told_22 rfl (rfl) ⟨⟨_, rfl⟩, hok, rfl⟩
theorem q_one_set {a : List Int64} (h : a.length = 1) (x : Int64) : a.set 0 x = [x] := by
  match a, h with
  | [_], _ => rfl

theorem q_out {Γ : Nat → q_K} {w v : Nat} {h : q_H} {a : List Int64} {x : Int64} (hok : q_ok Γ h) (ha : a.length = 1) (hx : x = (nI v).toInt64) : q_ok (gset Γ w (7, v, [])) (q_up h w (.inr (.inr (.inr (5, a.set (nI 0).toNatClampNeg x))))) := gs_ok hok (by
  show _ = _
  rw [nI_clamp (by decide), q_one_set ha, hx])
set_option maxHeartbeats 4000000 in
theorem eL_wanted (Sc : q_S) (Γ : Nat → q_K) (n : Nat) {X many : Nat} {f e : Nat → Int32} (hG : kGF Γ X many) (hM : kGm Γ X many f e) (hm1 : 1 ≤ many) (hm4 : many ≤ 4) (l g c : Int32) {w : Nat} (hw : Γ w = (5, 1, [])) (h : q_H) (hok : q_ok Γ h) : q_A Sc mL_wanted 0 [.ref X, .int l, .int g, .int c, .ref w, .retAddr 0] [] h n 3 18 (fun O h' n' => ∃ (k : Nat) (K : q_K), O = .inl (some (.int (nI k))) ∧ q_ok (gset Γ w K) h' ∧ (∀ c, q_okc K c → q_okc (5, 1, []) c) ∧ ((q_ok3 l.toInt g.toInt c.toInt many ∧ k = 0 ∧ ∃ v, K = (7, v, []) ∧ ((v = 1 ∧ ∃ m, m < 6 ∧ (fun m => q_wn (f (48 * l.toInt.toNat + 8 * m + g.toInt.toNat)) (e (48 * l.toInt.toNat + 8 * m + g.toInt.toNat)) c) m = nI 1) ∨ (v = 0 ∧ ∀ m, m < 6 → (fun m => q_wn (f (48 * l.toInt.toNat + 8 * m + g.toInt.toNat)) (e (48 * l.toInt.toNat + 8 * m + g.toInt.toNat)) c) m = nI 0))) ∨ (¬ q_ok3 l.toInt g.toInt c.toInt many ∧ k = 1)) ∧ n' = n) := by
  have g0 := hM.1
  refine q_aload dL_wanted_0 rfl ?_
  refine q_iconst (v := nI 0) dL_wanted_2 rfl ?_
  refine q_aload_n dL_wanted_3 rfl ?_
  refine q_iload_n dL_wanted_4 rfl ?_
  refine q_iload_n dL_wanted_5 rfl ?_
  refine q_iload_n dL_wanted_6 rfl ?_
  refine t_callV (M' := mX4_wanted) [.int l, .int g, .int c] [.int (nI 0), .ref w] kX4 dL_wanted_7 wPL_36v wIX4_wanted wSX4_wanted iX4_wanted oX4_wanted rfl hok g0 (eX4_wanted Sc Γ n hG hM hm1 hm4 l g c) (Nat.le_of_ble_eq_true rfl) (Nat.le_of_ble_eq_true rfl) (Nat.le_of_ble_eq_true rfl) (Nat.le_of_ble_eq_true rfl) (Nat.le_of_ble_eq_true rfl) rfl (fun v h qv hok => ?_) (fun x h qx hok => ?_)
  · rcases qv with ⟨hy, x, ex, hx⟩ | ⟨-, ex⟩
    rotate_left
    · cases ex
    obtain rfl := Sum.inl.inj ex
    obtain ⟨a, h1, h2⟩ := hok.l hw
    have hend : ∀ (v : Nat) (y : Int64), y = (nI v).toInt64 → ((v = 1 ∧ ∃ m, m < 6 ∧ (fun m => q_wn (f (48 * l.toInt.toNat + 8 * m + g.toInt.toNat)) (e (48 * l.toInt.toNat + 8 * m + g.toInt.toNat)) c) m = nI 1) ∨ (v = 0 ∧ ∀ m, m < 6 → (fun m => q_wn (f (48 * l.toInt.toNat + 8 * m + g.toInt.toNat)) (e (48 * l.toInt.toNat + 8 * m + g.toInt.toNat)) c) m = nI 0)) → q_A Sc mL_wanted 18 [.ref X, .int l, .int g, .int c, .ref w, .retAddr 0] [.long y, .int (nI 0), .ref w] h n (3 - 3) (18 - 18) (fun O h' n' => ∃ (k : Nat) (K : q_K), O = .inl (some (.int (nI k))) ∧ q_ok (gset Γ w K) h' ∧ (∀ c, q_okc K c → q_okc (5, 1, []) c) ∧ ((q_ok3 l.toInt g.toInt c.toInt many ∧ k = 0 ∧ ∃ v, K = (7, v, []) ∧ ((v = 1 ∧ ∃ m, m < 6 ∧ (fun m => q_wn (f (48 * l.toInt.toNat + 8 * m + g.toInt.toNat)) (e (48 * l.toInt.toNat + 8 * m + g.toInt.toNat)) c) m = nI 1) ∨ (v = 0 ∧ ∀ m, m < 6 → (fun m => q_wn (f (48 * l.toInt.toNat + 8 * m + g.toInt.toNat)) (e (48 * l.toInt.toNat + 8 * m + g.toInt.toNat)) c) m = nI 0))) ∨ (¬ q_ok3 l.toInt g.toInt c.toInt many ∧ k = 1)) ∧ n' = n) := fun v y hy2 hv => by
      refine q_last dL_wanted_18 h1 rfl (by rw [h2]; exact vp_in_nI (by omega) (by omega)) ?_
      refine q_goto (tgt := 26) dL_wanted_19 (by decide) ?_
      refine q_iconst (v := nI 0) dL_wanted_26 rfl ?_
      exact q_iret dL_wanted_27 rfl (rfl) ⟨0, _, rfl, q_out hok h2 hy2, fun c hc => ⟨_, hc, rfl⟩, Or.inl ⟨hy, rfl, v, rfl, hv⟩, rfl⟩
    rcases hx with ⟨rfl, hx⟩ | ⟨rfl, hx⟩
    · refine q_if_eq (tgt := 17) dL_wanted_10 (by decide) (fun q => absurd q (by decide)) (fun _ => ?_)
      refine q_lconst dL_wanted_13 ?_
      refine q_goto (tgt := 18) dL_wanted_14 (by decide) ?_
      exact hend 1 _ rfl (Or.inl ⟨rfl, hx⟩)
    · refine q_if_eq (tgt := 17) dL_wanted_10 (by decide) (fun _ => ?_) (fun q => absurd rfl q)
      refine q_lconst dL_wanted_17 ?_
      exact hend 0 _ rfl (Or.inr ⟨rfl, hx⟩)
  · rcases qx with ⟨-, y, ey, -⟩ | ⟨hn, ey⟩
    · cases ey
    · obtain rfl := Sum.inr.inj ey
      refine t_catch 22 rfl (by decide) rfl ?_
      refine q_astore_x dL_wanted_22 (by decide) ?_
      refine q_iconst (v := nI 1) dL_wanted_24 rfl ?_
      exact q_iret dL_wanted_25 rfl (rfl) ⟨1, _, rfl, gs_id hw hok, fun _ hc => hc, Or.inr ⟨hn, rfl⟩, rfl⟩

set_option maxHeartbeats 4000000 in
theorem eL_answer (Sc : q_S) (Γ : Nat → q_K) (n : Nat) {X many : Nat} {f e : Nat → Int32} (hG : kGF Γ X many) (hM : kGm Γ X many f e) (hm1 : 1 ≤ many) (hm4 : many ≤ 4) (l c : Int32) {w : Nat} (hw : Γ w = (5, 1, [])) (h : q_H) (hok : q_ok Γ h) : q_A Sc mL_answer 0 [.ref X, .int l, .int c, .ref w, .retAddr 0] [] h n 2 12 (fun O h' n' => ∃ (k : Nat) (K : q_K), O = .inl (some (.int (nI k))) ∧ q_ok (gset Γ w K) h' ∧ (∀ c, q_okc K c → q_okc (5, 1, []) c) ∧ ((q_ok2 l.toInt c.toInt many ∧ k = 0 ∧ K = (7, (q_nn (fun g => f (48 * l.toInt.toNat + 8 * c.toInt.toNat + g)) (fun g => e (48 * l.toInt.toNat + 8 * c.toInt.toNat + g)) 8), [])) ∨ (¬ q_ok2 l.toInt c.toInt many ∧ k = 1)) ∧ n' = n) := by
  have g0 := hM.1
  refine q_aload_n dL_answer_0 rfl ?_
  refine q_iconst (v := nI 0) dL_answer_1 rfl ?_
  refine q_aload_n dL_answer_2 rfl ?_
  refine q_iload_n dL_answer_3 rfl ?_
  refine q_iload_n dL_answer_4 rfl ?_
  refine t_callV (M' := mX4_answer) [.int l, .int c] [.int (nI 0), .ref w] kX4 dL_answer_5 wPL_32v wIX4_answer wSX4_answer iX4_answer oX4_answer rfl hok g0 (eX4_answer Sc Γ n hG hM hm1 hm4 l c) (Nat.le_of_ble_eq_true rfl) (Nat.le_of_ble_eq_true rfl) (Nat.le_of_ble_eq_true rfl) (Nat.le_of_ble_eq_true rfl) (Nat.le_of_ble_eq_true rfl) rfl (fun v h qv hok => ?_) (fun x h qx hok => ?_)
  · rcases qv with ⟨hy, ex⟩ | ⟨-, ex⟩
    rotate_left
    · cases ex
    obtain rfl := Sum.inl.inj ex
    obtain ⟨a, h1, h2⟩ := hok.l hw
    refine q_i2l dL_answer_8 ?_
    refine q_last dL_answer_9 h1 rfl (by rw [h2]; exact vp_in_nI (by omega) (by omega)) ?_
    refine q_goto (tgt := 17) dL_answer_10 (by decide) ?_
    refine q_iconst (v := nI 0) dL_answer_17 rfl ?_
    exact q_iret dL_answer_18 rfl (rfl) ⟨0, _, rfl, q_out hok h2 rfl, fun c hc => ⟨_, hc, rfl⟩, Or.inl ⟨hy, rfl, rfl⟩, rfl⟩
  · rcases qx with ⟨-, ey⟩ | ⟨hn, ey⟩
    · cases ey
    · obtain rfl := Sum.inr.inj ey
      refine t_catch 13 rfl (by decide) rfl ?_
      refine q_astore_x dL_answer_13 (by decide) ?_
      refine q_iconst (v := nI 1) dL_answer_15 rfl ?_
      exact q_iret dL_answer_16 rfl (rfl) ⟨1, _, rfl, gs_id hw hok, fun _ hc => hc, Or.inr ⟨hn, rfl⟩, rfl⟩
theorem sL_answer (Sc : q_S) (Γ : Nat → q_K) (n : Nat) {X many : Nat} {f e : Nat → Int32} (hG : kGF Γ X many) (hM : kGm Γ X many f e) (hm1 : 1 ≤ many) (hm4 : many ≤ 4) (l c : Int32) {w : Nat} (hw : Γ w = (5, 1, [])) : q_safe Sc Γ mL_answer [.ref X, .int l, .int c, .ref w] n 2 12 q_RI := fun h hok =>
  q_mono (fun O h' n' hq => by
    obtain ⟨k, K, h1, h2, h3, -, h5⟩ := hq
    exact ⟨⟨_, h1⟩, gs_back h2 (by rw [hw]; exact h3), h5⟩) (eL_answer Sc Γ n hG hM hm1 hm4 l c hw h hok)
theorem sL_wanted (Sc : q_S) (Γ : Nat → q_K) (n : Nat) {X many : Nat} {f e : Nat → Int32} (hG : kGF Γ X many) (hM : kGm Γ X many f e) (hm1 : 1 ≤ many) (hm4 : many ≤ 4) (l g c : Int32) {w : Nat} (hw : Γ w = (5, 1, [])) : q_safe Sc Γ mL_wanted [.ref X, .int l, .int g, .int c, .ref w] n 3 18 q_RI := fun h hok =>
  q_mono (fun O h' n' hq => by
    obtain ⟨k, K, h1, h2, h3, -, h5⟩ := hq
    exact ⟨⟨_, h1⟩, gs_back h2 (by rw [hw]; exact h3), h5⟩) (eL_wanted Sc Γ n hG hM hm1 hm4 l g c hw h hok)
theorem sX5_answer (Sc : q_S) (Γ : Nat → q_K) (n o ml th s : Nat) (f e : Nat → Int32) (hB : mB Γ o) (hE : mE Γ o f e) (hml : ml ≤ 4) (hs : s ≤ 1600000000) (l m : Int32) : q_mod Sc Γ o ml mX5_answer [.ref o, .int l, .int m] n th s (fun O th' s' => q_RI O ∧ s' ≤ s + 16) := fun h hok =>
  q_mono (fun O h' n' hq => by
    obtain ⟨th', s', h1, h2, h3, h4⟩ := hq
    refine ⟨th', s', ⟨?_, h2⟩, h3, h4⟩
    rcases h1 with ⟨-, -, h1⟩ | ⟨-, -, h1⟩
    · exact ⟨_, h1⟩
    · exact h1) (eX5_answer Sc Γ n o ml th s f e hB hE hml hs l m h hok)
theorem sX5_wanted (Sc : q_S) (Γ : Nat → q_K) (n o ml th s : Nat) (f e : Nat → Int32) (hE : mE Γ o f e) (hml : ml ≤ 4) (l g c : Int32) : q_mod Sc Γ o ml mX5_wanted [.ref o, .int l, .int g, .int c] n th s (fun O th' s' => q_RI O ∧ s' ≤ s + 0) := fun h hok =>
  q_mono (fun O h' n' hq => by
    obtain ⟨th', h1, h3, h4⟩ := hq
    refine ⟨th', s, ⟨?_, by omega⟩, h3, h4⟩
    rcases h1 with ⟨-, -, x, h1, h2⟩ | ⟨-, -, h1⟩
    · exact ⟨x, h1⟩
    · exact h1) (eX5_wanted Sc Γ n o ml th s f e hE hml l g c h hok)

set_option maxHeartbeats 4000000 in
theorem eL_member (Sc : q_S) (Γ : Nat → q_K) (n : Nat) {X many : Nat} {f e : Nat → Int32} (hG : kGF Γ X many) (hM : kGm Γ X many f e) (hm1 : 1 ≤ many) (hm4 : many ≤ 4) (l m g ex v : Int32) (hx : q_bl ex) {w : Nat} (hww : X + 2 + 37 * many ≤ w) (hw : Γ w = (5, 1, [])) (h : q_H) (hok : q_ok Γ h) : q_A Sc mL_member 0 [.ref X, .int l, .int m, .int g, .int ex, .int v, .ref w, .retAddr 0] [] h n 4 24 (fun O h' n' => (∃ x, O = .inl (some (.int x))) ∧ n' = n ∧ ∃ Γ' : Nat → q_K, q_ok Γ' h' ∧ fr89 Γ Γ' ∧ (∀ j, X + 2 + 37 * many ≤ j → Γ' j = Γ j) ∧ (∀ j, j < X → Γ' j = Γ j) ∧ kGm Γ' X many (q_mf f l m g v many v) (q_mf e l m g v many ex)) := by
  have g0 := hM.1
  obtain ⟨fs, hf1, -⟩ := hok.o g0
  refine q_aload dL_member_0 rfl ?_
  refine q_iconst (v := nI 0) dL_member_2 rfl ?_
  refine q_aload_n dL_member_3 rfl ?_
  refine q_iload_n dL_member_4 rfl ?_
  refine q_iload_n dL_member_5 rfl ?_
  refine q_iload_n dL_member_6 rfl ?_
  refine q_iload dL_member_7 rfl ?_
  refine q_iload dL_member_9 rfl ?_
  refine q_callV (M' := mX4_member) [.int l, .int m, .int g, .int ex, .int v] [.int (nI 0), .ref w] kX4 dL_member_11 wPL_28v wIX4_member wSX4_member iX4_member oX4_member rfl hf1 (eX4_member Sc Γ n hG hM hm1 hm4 l m g ex v hx h hok) (Nat.le_of_ble_eq_true rfl) (Nat.le_of_ble_eq_true rfl) (Nat.le_of_ble_eq_true rfl) (Nat.le_of_ble_eq_true rfl) (Nat.le_of_ble_eq_true rfl) rfl (fun y h n' hP => ?_) (fun y h n' hP => ?_)
  · obtain ⟨hO, rfl, Γ2, hok, hfr, hf2, hf3, hM2⟩ := hP
    obtain ⟨x, rfl⟩ := q_XI.v hO
    refine q_i2l dL_member_14 ?_
    refine t_last dL_member_15 hok ((hf2 w hww).trans hw) (vp_in_nI (by omega) (by omega)) (fun h hok => ?_)
    refine q_goto (tgt := 27) dL_member_16 (by decide) ?_
    refine q_iconst (v := nI 0) dL_member_27 rfl ?_
    exact q_iret dL_member_28 rfl (rfl) ⟨⟨_, rfl⟩, rfl, Γ2, hok, hfr, hf2, hf3, hM2⟩
  · obtain ⟨hO, rfl, Γ2, hok, hfr, hf2, hf3, hM2⟩ := hP
    have h9 : y < 2 := (by have h8 := q_XI.x hO; exact h8)
    obtain rfl | rfl : y = 0 ∨ y = 1 := by omega
    · refine t_catch 19 rfl (by decide) rfl ?_
      refine q_astore_x dL_member_19 (by decide) ?_
      refine q_iconst (v := nI 1) dL_member_21 rfl ?_
      exact q_iret dL_member_22 rfl (rfl) ⟨⟨_, rfl⟩, rfl, Γ2, hok, hfr, hf2, hf3, hM2⟩
    · refine t_catch 23 rfl (by decide) rfl ?_
      refine q_astore_x dL_member_23 (by decide) ?_
      refine q_iconst (v := nI 2) dL_member_25 rfl ?_
      exact q_iret dL_member_26 rfl (rfl) ⟨⟨_, rfl⟩, rfl, Γ2, hok, hfr, hf2, hf3, hM2⟩

def q_c0 (Sc : q_S) : Int32 := if 0 < Sc.1 then Sc.2 0 else nI 0
theorem eL_cell (Sc : q_S) (hS : Sc.1 ≤ 3073) (Γ : Nat → q_K) (n : Nat) : q_safe Sc Γ mL_cell [.float 1, .int (nI 0)] n 0 0 (fun O => O = .inl (some (.int (q_c0 Sc)))) := by
  intro h hok
  show q_A Sc mL_cell 0 [.float 1, .int (nI 0)] [] h n 0 0 (fun O h' n' => O = .inl (some (.int (q_c0 Sc))) ∧ q_ok Γ h' ∧ n' = n)
  refine q_iload_n dL_cell_0 rfl ?_
  refine q_aload_n_x dL_cell_1 rfl ?_
  refine q_slen dL_cell_2 ?_
  refine t_icmp_ge_n (tgt := 12) (by omega) (by omega) dL_cell_3 (by decide) (fun c => ?_) (fun c => ?_)
  · refine q_iconst (v := nI 0) dL_cell_12 rfl ?_
    exact q_iret dL_cell_13 rfl (rfl) ⟨by unfold q_c0; rw [if_neg (by omega)], hok, rfl⟩
  · refine q_aload_n_x dL_cell_6 rfl ?_
    refine q_iload_n dL_cell_7 rfl ?_
    refine q_sld dL_cell_8 (vp_in_nI c (by omega)) ?_
    refine q_goto (tgt := 13) dL_cell_9 (by decide) ?_
    exact q_iret dL_cell_13 rfl (rfl) ⟨by unfold q_c0; rw [if_pos c, nI_clamp (by decide)], hok, rfl⟩

