set_option maxRecDepth 20000 in
set_option maxHeartbeats 4000000 in
theorem sX4_settings (Sc : q_S) (Γ : Nat → q_K) (n : Nat) {a0 many : Nat} (b0 : kGF Γ a0 many) (hm1 : 1 ≤ many) (hm4 : many ≤ 4) (a1 : Int32) (a2 : Int32) (a3 : Int32) (a4 : Int32) : q_safe Sc Γ mX4_settings [.ref a0, .int (a1), .int (a2), .int (a3), .int (a4)] n 4 24 (q_XI (fun x => x < 2)) := by
  intro h hok
  show q_A Sc mX4_settings 0 [.ref a0, .int (a1), .int (a2), .int (a3), .int (a4)] [] h n 4 24 (fun O h' n' => (q_XI (fun x => x < 2)) O ∧ q_ok Γ h' ∧ n' = n)
  refine q_iload_n dX4_settings_0 rfl ?_
  refine q_aload_n dX4_settings_1 rfl ?_
  obtain ⟨pu543, qu543, ru543, gu543, au543, bu543, cu543, du543⟩ := id b0
  refine t_getr 0 kX4 (by decide) wPX4_20 dX4_settings_2 hok gu543 rfl ?_
  refine t_alen dX4_settings_5 hok au543 rfl ?_
  refine t_callS (M' := mX4_checkIndex) [.int (a1), .int (nI (ru543.length))] [] dX4_settings_6 wPX4_34 wTX4_checkIndex wNX4 iX4_checkIndex oX4_checkIndex rfl hok (sX4_checkIndex Sc Γ n (a1) (nI (ru543.length))) (Nat.le_of_ble_eq_true rfl) (Nat.le_of_ble_eq_true rfl) (Nat.le_of_ble_eq_true rfl) (Nat.le_of_ble_eq_true rfl) (Nat.le_of_ble_eq_true rfl) rfl (fun v544 h qv544 hok => ?_) (fun e545 h qe545 hok => ?_)
  rotate_left
  · exact t_out rfl ⟨Or.inr ⟨_, rfl, by have h9 := q_RC0.x qe545; subst h9; decide⟩, hok, rfl⟩
  obtain ⟨rfl, c546a, c546b⟩ := q_RC0.v qv544
  obtain ⟨g547, hg547, rfl⟩ := q_chk (by omega) c546a c546b
  refine q_iload_n dX4_settings_9 rfl ?_
  refine q_iconst (v := nI 1) dX4_settings_10 rfl ?_
  refine q_bipush (v := nI 7) dX4_settings_11 rfl ?_
  refine t_callS (M' := mX4_checkNumber) [.int (a2), .int (nI 1), .int (nI 7)] [] dX4_settings_13 wPX4_38 wTX4_checkNumber wNX4 iX4_checkNumber oX4_checkNumber rfl hok (sX4_checkNumber Sc Γ n (a2) (nI 1) (nI 7)) (Nat.le_of_ble_eq_true rfl) (Nat.le_of_ble_eq_true rfl) (Nat.le_of_ble_eq_true rfl) (Nat.le_of_ble_eq_true rfl) (Nat.le_of_ble_eq_true rfl) rfl (fun v548 h qv548 hok => ?_) (fun e549 h qe549 hok => ?_)
  rotate_left
  · exact t_out rfl ⟨Or.inr ⟨_, rfl, by have h9 := q_RC1.x qe549; subst h9; decide⟩, hok, rfl⟩
  obtain ⟨rfl, c550a, c550b⟩ := q_RC1.v qv548
  refine q_iload_n dX4_settings_16 rfl ?_
  refine q_iconst (v := nI 1) dX4_settings_17 rfl ?_
  refine q_sipush (v := nI 200) dX4_settings_18 rfl ?_
  refine t_callS (M' := mX4_checkNumber) [.int (a3), .int (nI 1), .int (nI 200)] [] dX4_settings_21 wPX4_38 wTX4_checkNumber wNX4 iX4_checkNumber oX4_checkNumber rfl hok (sX4_checkNumber Sc Γ n (a3) (nI 1) (nI 200)) (Nat.le_of_ble_eq_true rfl) (Nat.le_of_ble_eq_true rfl) (Nat.le_of_ble_eq_true rfl) (Nat.le_of_ble_eq_true rfl) (Nat.le_of_ble_eq_true rfl) rfl (fun v551 h qv551 hok => ?_) (fun e552 h qe552 hok => ?_)
  rotate_left
  · exact t_out rfl ⟨Or.inr ⟨_, rfl, by have h9 := q_RC1.x qe552; subst h9; decide⟩, hok, rfl⟩
  obtain ⟨rfl, c553a, c553b⟩ := q_RC1.v qv551
  refine q_iload dX4_settings_24 rfl ?_
  refine q_iconst (v := nI 1) dX4_settings_26 rfl ?_
  refine q_iload_n dX4_settings_27 rfl ?_
  refine t_callS (M' := mX4_checkNumber) [.int (a4), .int (nI 1), .int (a3)] [] dX4_settings_28 wPX4_38 wTX4_checkNumber wNX4 iX4_checkNumber oX4_checkNumber rfl hok (sX4_checkNumber Sc Γ n (a4) (nI 1) (a3)) (Nat.le_of_ble_eq_true rfl) (Nat.le_of_ble_eq_true rfl) (Nat.le_of_ble_eq_true rfl) (Nat.le_of_ble_eq_true rfl) (Nat.le_of_ble_eq_true rfl) rfl (fun v554 h qv554 hok => ?_) (fun e555 h qe555 hok => ?_)
  rotate_left
  · exact t_out rfl ⟨Or.inr ⟨_, rfl, by have h9 := q_RC1.x qe555; subst h9; decide⟩, hok, rfl⟩
  obtain ⟨rfl, c556a, c556b⟩ := q_RC1.v qv554
  refine q_aload_n dX4_settings_31 rfl ?_
  refine t_getr 0 kX4 (by decide) wPX4_20 dX4_settings_32 hok gu543 rfl ?_
  refine q_iload_n dX4_settings_35 rfl ?_
  refine t_aald "GroupFilters$Link" dX4_settings_36 hok au543 rfl (by rw [bu543]; exact vp_in_nI (by omega) (by omega)) (fun p557 hp557 => ?_)
  have kp557 := cu543 _ _ hp557
  refine q_iload_n dX4_settings_37 rfl ?_
  refine q_iload_n dX4_settings_38 rfl ?_
  refine q_iload dX4_settings_39 rfl ?_
  obtain ⟨pu558, qu558, ru558, su558, gu558, au558, bu558, cu558, du558, eu558, fu558⟩ := id kp557
  refine t_callV (M' := mX1_set) [.int (a2), .int (a3), .int (a4)] [] kX1 dX4_settings_41 wPX4_42v wIX1_set wSX1_set iX1_set oX1_set rfl hok gu558 (sX1_set Sc Γ n kp557 (a2) (a3) (a4)) (Nat.le_of_ble_eq_true rfl) (Nat.le_of_ble_eq_true rfl) (Nat.le_of_ble_eq_true rfl) (Nat.le_of_ble_eq_true rfl) (Nat.le_of_ble_eq_true rfl) rfl (fun v559 h qv559 hok => ?_) (fun e560 h qe560 hok => absurd qe560 (by intro q; cases q))
  obtain rfl := Sum.inl.inj qv559
  refine q_aload_n dX4_settings_44 rfl ?_
  refine t_getr 0 kX4 (by decide) wPX4_20 dX4_settings_45 hok gu543 rfl ?_
  refine q_iload_n dX4_settings_48 rfl ?_
  refine t_aald "GroupFilters$Link" dX4_settings_49 hok au543 rfl (by rw [bu543]; exact vp_in_nI (by omega) (by omega)) (fun p561 hp561 => ?_)
  have kp561 := cu543 _ _ hp561
  obtain ⟨pu562, qu562, ru562, su562, gu562, au562, bu562, cu562, du562, eu562, fu562⟩ := id kp561
  refine t_callV (M' := mX1_grace) [] [] kX1 dX4_settings_50 wPX4_45v wIX1_grace wSX1_grace iX1_grace oX1_grace rfl hok gu562 (sX1_grace Sc Γ n kp561) (Nat.le_of_ble_eq_true rfl) (Nat.le_of_ble_eq_true rfl) (Nat.le_of_ble_eq_true rfl) (Nat.le_of_ble_eq_true rfl) (Nat.le_of_ble_eq_true rfl) rfl (fun v563 h qv563 hok => ?_) (fun e564 h qe564 hok => absurd qe564 (by intro q; obtain ⟨_, q⟩ := q; cases q))
  obtain ⟨x565, qx565⟩ := qv563
  obtain rfl := Sum.inl.inj qx565
  exact q_iret dX4_settings_53 rfl (rfl) ⟨Or.inl ⟨_, rfl⟩, hok, rfl⟩
set_option maxRecDepth 20000 in
set_option maxHeartbeats 4000000 in
theorem sX4_report (Sc : q_S) (Γ : Nat → q_K) (n : Nat) {a0 many : Nat} (b0 : kGF Γ a0 many) (hm1 : 1 ≤ many) (hm4 : many ≤ 4) (a1 : Int32) (a2 : Int32) (a3 : Int32) (a4 : Int32) : q_safe Sc Γ mX4_report [.ref a0, .int (a1), .int (a2), .int (a3), .int (a4)] n 4 24 (q_XI (fun x => x < 2)) := by
  intro h hok
  show q_A Sc mX4_report 0 [.ref a0, .int (a1), .int (a2), .int (a3), .int (a4), .retAddr 0] [] h n 4 24 (fun O h' n' => (q_XI (fun x => x < 2)) O ∧ q_ok Γ h' ∧ n' = n)
  refine q_iload_n dX4_report_0 rfl ?_
  refine q_aload_n dX4_report_1 rfl ?_
  obtain ⟨pu566, qu566, ru566, gu566, au566, bu566, cu566, du566⟩ := id b0
  refine t_getr 0 kX4 (by decide) wPX4_20 dX4_report_2 hok gu566 rfl ?_
  refine t_alen dX4_report_5 hok au566 rfl ?_
  refine t_callS (M' := mX4_checkIndex) [.int (a1), .int (nI (ru566.length))] [] dX4_report_6 wPX4_34 wTX4_checkIndex wNX4 iX4_checkIndex oX4_checkIndex rfl hok (sX4_checkIndex Sc Γ n (a1) (nI (ru566.length))) (Nat.le_of_ble_eq_true rfl) (Nat.le_of_ble_eq_true rfl) (Nat.le_of_ble_eq_true rfl) (Nat.le_of_ble_eq_true rfl) (Nat.le_of_ble_eq_true rfl) rfl (fun v567 h qv567 hok => ?_) (fun e568 h qe568 hok => ?_)
  rotate_left
  · exact t_out rfl ⟨Or.inr ⟨_, rfl, by have h9 := q_RC0.x qe568; subst h9; decide⟩, hok, rfl⟩
  obtain ⟨rfl, c569a, c569b⟩ := q_RC0.v qv567
  obtain ⟨g570, hg570, rfl⟩ := q_chk (by omega) c569a c569b
  refine q_iload_n dX4_report_9 rfl ?_
  refine q_bipush (v := nI 8) dX4_report_10 rfl ?_
  refine t_callS (M' := mX4_checkIndex) [.int (a2), .int (nI 8)] [] dX4_report_12 wPX4_34 wTX4_checkIndex wNX4 iX4_checkIndex oX4_checkIndex rfl hok (sX4_checkIndex Sc Γ n (a2) (nI 8)) (Nat.le_of_ble_eq_true rfl) (Nat.le_of_ble_eq_true rfl) (Nat.le_of_ble_eq_true rfl) (Nat.le_of_ble_eq_true rfl) (Nat.le_of_ble_eq_true rfl) rfl (fun v571 h qv571 hok => ?_) (fun e572 h qe572 hok => ?_)
  rotate_left
  · exact t_out rfl ⟨Or.inr ⟨_, rfl, by have h9 := q_RC0.x qe572; subst h9; decide⟩, hok, rfl⟩
  obtain ⟨rfl, c573a, c573b⟩ := q_RC0.v qv571
  obtain ⟨g574, hg574, rfl⟩ := q_chk (by omega) c573a c573b
  refine q_iload_n dX4_report_15 rfl ?_
  refine q_iconst (v := nI 0) dX4_report_16 rfl ?_
  refine q_iconst (v := nI 5) dX4_report_17 rfl ?_
  refine t_callS (M' := mX4_checkNumber) [.int (a3), .int (nI 0), .int (nI 5)] [] dX4_report_18 wPX4_38 wTX4_checkNumber wNX4 iX4_checkNumber oX4_checkNumber rfl hok (sX4_checkNumber Sc Γ n (a3) (nI 0) (nI 5)) (Nat.le_of_ble_eq_true rfl) (Nat.le_of_ble_eq_true rfl) (Nat.le_of_ble_eq_true rfl) (Nat.le_of_ble_eq_true rfl) (Nat.le_of_ble_eq_true rfl) rfl (fun v575 h qv575 hok => ?_) (fun e576 h qe576 hok => ?_)
  rotate_left
  · exact t_out rfl ⟨Or.inr ⟨_, rfl, by have h9 := q_RC1.x qe576; subst h9; decide⟩, hok, rfl⟩
  obtain ⟨rfl, c577a, c577b⟩ := q_RC1.v qv575
  refine q_iload dX4_report_21 rfl ?_
  refine q_iconst (v := nI 0) dX4_report_23 rfl ?_
  refine q_ldc dX4_report_24 wPX4_49 ?_
  refine t_callS (M' := mX4_checkNumber) [.int (a4), .int (nI 0), .int (65535)] [] dX4_report_26 wPX4_38 wTX4_checkNumber wNX4 iX4_checkNumber oX4_checkNumber rfl hok (sX4_checkNumber Sc Γ n (a4) (nI 0) (65535)) (Nat.le_of_ble_eq_true rfl) (Nat.le_of_ble_eq_true rfl) (Nat.le_of_ble_eq_true rfl) (Nat.le_of_ble_eq_true rfl) (Nat.le_of_ble_eq_true rfl) rfl (fun v578 h qv578 hok => ?_) (fun e579 h qe579 hok => ?_)
  rotate_left
  · exact t_out rfl ⟨Or.inr ⟨_, rfl, by have h9 := q_RC1.x qe579; subst h9; decide⟩, hok, rfl⟩
  obtain ⟨rfl, c580a, c580b⟩ := q_RC1.v qv578
  refine q_aload_n dX4_report_29 rfl ?_
  refine t_getr 1 kX4 (by decide) wPX4_30 dX4_report_30 hok gu566 rfl ?_
  obtain ⟨pu581, qu581, ru581, su581, gu581, au581, bu581, cu581, du581⟩ := id du566
  refine t_geti 4 kX3 (by decide) wPX4_50 dX4_report_33 hok gu581 rfl (fun x582 => ?_)
  refine t_istore [.ref a0, .int (nI g570), .int (nI g574), .int (a3), .int (a4), .int (x582)] (Or.inr ⟨rfl, dX4_report_36⟩) (by decide) rfl ?_
  refine q_aload_n dX4_report_38 rfl ?_
  refine t_getr 0 kX4 (by decide) wPX4_20 dX4_report_39 hok gu566 rfl ?_
  refine q_iload_n dX4_report_42 rfl ?_
  refine t_aald "GroupFilters$Link" dX4_report_43 hok au566 rfl (by rw [bu566]; exact vp_in_nI (by omega) (by omega)) (fun p583 hp583 => ?_)
  have kp583 := cu566 _ _ hp583
  refine q_aload_n dX4_report_44 rfl ?_
  refine t_getr 1 kX4 (by decide) wPX4_30 dX4_report_45 hok gu566 rfl ?_
  refine q_iload_n dX4_report_48 rfl ?_
  refine q_iload_n dX4_report_49 rfl ?_
  refine q_iload dX4_report_50 rfl ?_
  obtain ⟨pu584, qu584, ru584, su584, gu584, au584, bu584, cu584, du584, eu584, fu584⟩ := id kp583
  refine t_callV (M' := mX1_hearReport) [.ref qu566, .int (nI g574), .int (a3), .int (a4)] [] kX1 dX4_report_52 wPX4_54v wIX1_hearReport wSX1_hearReport iX1_hearReport oX1_hearReport rfl hok gu584 (sX1_hearReport Sc Γ n kp583 du566 (g574) (by omega) (a3) (a4)) (Nat.le_of_ble_eq_true rfl) (Nat.le_of_ble_eq_true rfl) (Nat.le_of_ble_eq_true rfl) (Nat.le_of_ble_eq_true rfl) (Nat.le_of_ble_eq_true rfl) rfl (fun v585 h qv585 hok => ?_) (fun e586 h qe586 hok => absurd qe586 (by intro q; cases q))
  obtain rfl := Sum.inl.inj qv585
  refine q_aload_n dX4_report_55 rfl ?_
  refine t_getr 1 kX4 (by decide) wPX4_30 dX4_report_56 hok gu566 rfl ?_
  obtain ⟨pu587, qu587, ru587, su587, gu587, au587, bu587, cu587, du587⟩ := id du566
  refine t_geti 4 kX3 (by decide) wPX4_50 dX4_report_59 hok gu587 rfl (fun x588 => ?_)
  refine q_iload dX4_report_62 rfl ?_
  refine q_isub dX4_report_64 ?_
  generalize (x588) - (x582) = z589
  exact q_iret dX4_report_65 rfl (rfl) ⟨Or.inl ⟨_, rfl⟩, hok, rfl⟩
set_option maxRecDepth 20000 in
set_option maxHeartbeats 4000000 in
theorem sX4_query (Sc : q_S) (Γ : Nat → q_K) (n : Nat) {a0 many : Nat} (b0 : kGF Γ a0 many) (hm1 : 1 ≤ many) (hm4 : many ≤ 4) (a1 : Int32) (a2 : Int32) (a3 : Int32) (a4 : Int32) (a5 : Int32) (b5 : q_bl a5) : q_safe Sc Γ mX4_query [.ref a0, .int (a1), .int (a2), .int (a3), .int (a4), .int (a5)] n 4 24 (q_XB (fun x => x < 2)) := by
  intro h hok
  show q_A Sc mX4_query 0 [.ref a0, .int (a1), .int (a2), .int (a3), .int (a4), .int (a5)] [] h n 4 24 (fun O h' n' => (q_XB (fun x => x < 2)) O ∧ q_ok Γ h' ∧ n' = n)
  refine q_iload_n dX4_query_0 rfl ?_
  refine q_aload_n dX4_query_1 rfl ?_
  obtain ⟨pu590, qu590, ru590, gu590, au590, bu590, cu590, du590⟩ := id b0
  refine t_getr 0 kX4 (by decide) wPX4_20 dX4_query_2 hok gu590 rfl ?_
  refine t_alen dX4_query_5 hok au590 rfl ?_
  refine t_callS (M' := mX4_checkIndex) [.int (a1), .int (nI (ru590.length))] [] dX4_query_6 wPX4_34 wTX4_checkIndex wNX4 iX4_checkIndex oX4_checkIndex rfl hok (sX4_checkIndex Sc Γ n (a1) (nI (ru590.length))) (Nat.le_of_ble_eq_true rfl) (Nat.le_of_ble_eq_true rfl) (Nat.le_of_ble_eq_true rfl) (Nat.le_of_ble_eq_true rfl) (Nat.le_of_ble_eq_true rfl) rfl (fun v591 h qv591 hok => ?_) (fun e592 h qe592 hok => ?_)
  rotate_left
  · exact t_out rfl ⟨Or.inr ⟨_, rfl, by have h9 := q_RC0.x qe592; subst h9; decide⟩, hok, rfl⟩
  obtain ⟨rfl, c593a, c593b⟩ := q_RC0.v qv591
  obtain ⟨g594, hg594, rfl⟩ := q_chk (by omega) c593a c593b
  refine q_iload_n dX4_query_9 rfl ?_
  refine q_iconst (v := nI 0) dX4_query_10 rfl ?_
  refine q_sipush (v := nI 999) dX4_query_11 rfl ?_
  refine t_callS (M' := mX4_checkNumber) [.int (a2), .int (nI 0), .int (nI 999)] [] dX4_query_14 wPX4_38 wTX4_checkNumber wNX4 iX4_checkNumber oX4_checkNumber rfl hok (sX4_checkNumber Sc Γ n (a2) (nI 0) (nI 999)) (Nat.le_of_ble_eq_true rfl) (Nat.le_of_ble_eq_true rfl) (Nat.le_of_ble_eq_true rfl) (Nat.le_of_ble_eq_true rfl) (Nat.le_of_ble_eq_true rfl) rfl (fun v595 h qv595 hok => ?_) (fun e596 h qe596 hok => ?_)
  rotate_left
  · exact t_out rfl ⟨Or.inr ⟨_, rfl, by have h9 := q_RC1.x qe596; subst h9; decide⟩, hok, rfl⟩
  obtain ⟨rfl, c597a, c597b⟩ := q_RC1.v qv595
  refine q_iload_n dX4_query_17 rfl ?_
  refine q_iconst (v := -1) dX4_query_18 rfl ?_
  refine q_icmp_eq (tgt := 28) dX4_query_19 (by decide) (fun c598 => ?_) (fun c598 => ?_)
  ·
    refine q_iload dX4_query_28 rfl ?_
    refine q_iconst (v := nI 0) dX4_query_30 rfl ?_
    refine q_ldc dX4_query_31 wPX4_49 ?_
    refine t_callS (M' := mX4_checkNumber) [.int (a4), .int (nI 0), .int (65535)] [] dX4_query_33 wPX4_38 wTX4_checkNumber wNX4 iX4_checkNumber oX4_checkNumber rfl hok (sX4_checkNumber Sc Γ n (a4) (nI 0) (65535)) (Nat.le_of_ble_eq_true rfl) (Nat.le_of_ble_eq_true rfl) (Nat.le_of_ble_eq_true rfl) (Nat.le_of_ble_eq_true rfl) (Nat.le_of_ble_eq_true rfl) rfl (fun v599 h qv599 hok => ?_) (fun e600 h qe600 hok => ?_)
    rotate_left
    · exact t_out rfl ⟨Or.inr ⟨_, rfl, by have h9 := q_RC1.x qe600; subst h9; decide⟩, hok, rfl⟩
    obtain ⟨rfl, c601a, c601b⟩ := q_RC1.v qv599
    refine q_iload_n dX4_query_36 rfl ?_
    refine q_sipush (v := nI 500) dX4_query_37 rfl ?_
    refine q_icmp_ge (tgt := 75) dX4_query_40 (by decide) (fun c602 => ?_) (fun c602 => ?_)
    ·
      refine q_aload_n dX4_query_75 rfl ?_
      refine t_getr 0 kX4 (by decide) wPX4_20 dX4_query_76 hok gu590 rfl ?_
      refine q_iload_n dX4_query_79 rfl ?_
      refine t_aald "GroupFilters$Link" dX4_query_80 hok au590 rfl (by rw [bu590]; exact vp_in_nI (by omega) (by omega)) (fun p603 hp603 => ?_)
      have kp603 := cu590 _ _ hp603
      obtain ⟨pu604, qu604, ru604, su604, gu604, au604, bu604, cu604, du604, eu604, fu604⟩ := id kp603
      refine t_callV (M' := mX1_asks) [] [] kX1 dX4_query_81 wPX4_64v wIX1_asks wSX1_asks iX1_asks oX1_asks rfl hok gu604 (sX1_asks Sc Γ n kp603) (Nat.le_of_ble_eq_true rfl) (Nat.le_of_ble_eq_true rfl) (Nat.le_of_ble_eq_true rfl) (Nat.le_of_ble_eq_true rfl) (Nat.le_of_ble_eq_true rfl) rfl (fun v605 h qv605 hok => ?_) (fun e606 h qe606 hok => absurd qe606 (by intro q; obtain ⟨_, q, _⟩ := q; cases q))
      obtain ⟨x607, qx607, bx607⟩ := qv605
      obtain rfl := Sum.inl.inj qx607
      exact q_iret dX4_query_84 rfl (q_bl.nar bx607) ⟨Or.inl ⟨_, rfl, bx607⟩, hok, rfl⟩
    ·
      refine q_aload_n dX4_query_43 rfl ?_
      refine t_getr 0 kX4 (by decide) wPX4_20 dX4_query_44 hok gu590 rfl ?_
      refine q_iload_n dX4_query_47 rfl ?_
      refine t_aald "GroupFilters$Link" dX4_query_48 hok au590 rfl (by rw [bu590]; exact vp_in_nI (by omega) (by omega)) (fun p608 hp608 => ?_)
      have kp608 := cu590 _ _ hp608
      refine q_iload_n dX4_query_49 rfl ?_
      obtain ⟨pu609, qu609, ru609, su609, gu609, au609, bu609, cu609, du609, eu609, fu609⟩ := id kp608
      refine t_callV (M' := mX1_yieldTo) [.int (a2)] [] kX1 dX4_query_50 wPX4_58v wIX1_yieldTo wSX1_yieldTo iX1_yieldTo oX1_yieldTo rfl hok gu609 (sX1_yieldTo Sc Γ n kp608 (a2)) (Nat.le_of_ble_eq_true rfl) (Nat.le_of_ble_eq_true rfl) (Nat.le_of_ble_eq_true rfl) (Nat.le_of_ble_eq_true rfl) (Nat.le_of_ble_eq_true rfl) rfl (fun v610 h qv610 hok => ?_) (fun e611 h qe611 hok => absurd qe611 (by intro q; cases q))
      obtain rfl := Sum.inl.inj qv610
      refine q_iload_n dX4_query_53 rfl ?_
      refine q_iconst (v := -1) dX4_query_54 rfl ?_
      refine q_icmp_eq (tgt := 75) dX4_query_55 (by decide) (fun c612 => ?_) (fun c612 => ?_)
      rotate_left
      · exact absurd c598 c612
      refine q_aload_n dX4_query_75 rfl ?_
      refine t_getr 0 kX4 (by decide) wPX4_20 dX4_query_76 hok gu590 rfl ?_
      refine q_iload_n dX4_query_79 rfl ?_
      refine t_aald "GroupFilters$Link" dX4_query_80 hok au590 rfl (by rw [bu590]; exact vp_in_nI (by omega) (by omega)) (fun p613 hp613 => ?_)
      have kp613 := cu590 _ _ hp613
      obtain ⟨pu614, qu614, ru614, su614, gu614, au614, bu614, cu614, du614, eu614, fu614⟩ := id kp613
      refine t_callV (M' := mX1_asks) [] [] kX1 dX4_query_81 wPX4_64v wIX1_asks wSX1_asks iX1_asks oX1_asks rfl hok gu614 (sX1_asks Sc Γ n kp613) (Nat.le_of_ble_eq_true rfl) (Nat.le_of_ble_eq_true rfl) (Nat.le_of_ble_eq_true rfl) (Nat.le_of_ble_eq_true rfl) (Nat.le_of_ble_eq_true rfl) rfl (fun v615 h qv615 hok => ?_) (fun e616 h qe616 hok => absurd qe616 (by intro q; obtain ⟨_, q, _⟩ := q; cases q))
      obtain ⟨x617, qx617, bx617⟩ := qv615
      obtain rfl := Sum.inl.inj qx617
      exact q_iret dX4_query_84 rfl (q_bl.nar bx617) ⟨Or.inl ⟨_, rfl, bx617⟩, hok, rfl⟩
  ·
    refine q_iload_n dX4_query_22 rfl ?_
    refine q_bipush (v := nI 8) dX4_query_23 rfl ?_
    refine t_callS (M' := mX4_checkIndex) [.int (a3), .int (nI 8)] [] dX4_query_25 wPX4_34 wTX4_checkIndex wNX4 iX4_checkIndex oX4_checkIndex rfl hok (sX4_checkIndex Sc Γ n (a3) (nI 8)) (Nat.le_of_ble_eq_true rfl) (Nat.le_of_ble_eq_true rfl) (Nat.le_of_ble_eq_true rfl) (Nat.le_of_ble_eq_true rfl) (Nat.le_of_ble_eq_true rfl) rfl (fun v618 h qv618 hok => ?_) (fun e619 h qe619 hok => ?_)
    rotate_left
    · exact t_out rfl ⟨Or.inr ⟨_, rfl, by have h9 := q_RC0.x qe619; subst h9; decide⟩, hok, rfl⟩
    obtain ⟨rfl, c620a, c620b⟩ := q_RC0.v qv618
    obtain ⟨g621, hg621, rfl⟩ := q_chk (by omega) c620a c620b
    refine q_iload dX4_query_28 rfl ?_
    refine q_iconst (v := nI 0) dX4_query_30 rfl ?_
    refine q_ldc dX4_query_31 wPX4_49 ?_
    refine t_callS (M' := mX4_checkNumber) [.int (a4), .int (nI 0), .int (65535)] [] dX4_query_33 wPX4_38 wTX4_checkNumber wNX4 iX4_checkNumber oX4_checkNumber rfl hok (sX4_checkNumber Sc Γ n (a4) (nI 0) (65535)) (Nat.le_of_ble_eq_true rfl) (Nat.le_of_ble_eq_true rfl) (Nat.le_of_ble_eq_true rfl) (Nat.le_of_ble_eq_true rfl) (Nat.le_of_ble_eq_true rfl) rfl (fun v622 h qv622 hok => ?_) (fun e623 h qe623 hok => ?_)
    rotate_left
    · exact t_out rfl ⟨Or.inr ⟨_, rfl, by have h9 := q_RC1.x qe623; subst h9; decide⟩, hok, rfl⟩
    obtain ⟨rfl, c624a, c624b⟩ := q_RC1.v qv622
    refine q_iload_n dX4_query_36 rfl ?_
    refine q_sipush (v := nI 500) dX4_query_37 rfl ?_
    refine q_icmp_ge (tgt := 75) dX4_query_40 (by decide) (fun c625 => ?_) (fun c625 => ?_)
    ·
      refine q_aload_n dX4_query_75 rfl ?_
      refine t_getr 0 kX4 (by decide) wPX4_20 dX4_query_76 hok gu590 rfl ?_
      refine q_iload_n dX4_query_79 rfl ?_
      refine t_aald "GroupFilters$Link" dX4_query_80 hok au590 rfl (by rw [bu590]; exact vp_in_nI (by omega) (by omega)) (fun p626 hp626 => ?_)
      have kp626 := cu590 _ _ hp626
      obtain ⟨pu627, qu627, ru627, su627, gu627, au627, bu627, cu627, du627, eu627, fu627⟩ := id kp626
      refine t_callV (M' := mX1_asks) [] [] kX1 dX4_query_81 wPX4_64v wIX1_asks wSX1_asks iX1_asks oX1_asks rfl hok gu627 (sX1_asks Sc Γ n kp626) (Nat.le_of_ble_eq_true rfl) (Nat.le_of_ble_eq_true rfl) (Nat.le_of_ble_eq_true rfl) (Nat.le_of_ble_eq_true rfl) (Nat.le_of_ble_eq_true rfl) rfl (fun v628 h qv628 hok => ?_) (fun e629 h qe629 hok => absurd qe629 (by intro q; obtain ⟨_, q, _⟩ := q; cases q))
      obtain ⟨x630, qx630, bx630⟩ := qv628
      obtain rfl := Sum.inl.inj qx630
      exact q_iret dX4_query_84 rfl (q_bl.nar bx630) ⟨Or.inl ⟨_, rfl, bx630⟩, hok, rfl⟩
    ·
      refine q_aload_n dX4_query_43 rfl ?_
      refine t_getr 0 kX4 (by decide) wPX4_20 dX4_query_44 hok gu590 rfl ?_
      refine q_iload_n dX4_query_47 rfl ?_
      refine t_aald "GroupFilters$Link" dX4_query_48 hok au590 rfl (by rw [bu590]; exact vp_in_nI (by omega) (by omega)) (fun p631 hp631 => ?_)
      have kp631 := cu590 _ _ hp631
      refine q_iload_n dX4_query_49 rfl ?_
      obtain ⟨pu632, qu632, ru632, su632, gu632, au632, bu632, cu632, du632, eu632, fu632⟩ := id kp631
      refine t_callV (M' := mX1_yieldTo) [.int (a2)] [] kX1 dX4_query_50 wPX4_58v wIX1_yieldTo wSX1_yieldTo iX1_yieldTo oX1_yieldTo rfl hok gu632 (sX1_yieldTo Sc Γ n kp631 (a2)) (Nat.le_of_ble_eq_true rfl) (Nat.le_of_ble_eq_true rfl) (Nat.le_of_ble_eq_true rfl) (Nat.le_of_ble_eq_true rfl) (Nat.le_of_ble_eq_true rfl) rfl (fun v633 h qv633 hok => ?_) (fun e634 h qe634 hok => absurd qe634 (by intro q; cases q))
      obtain rfl := Sum.inl.inj qv633
      refine q_iload_n dX4_query_53 rfl ?_
      refine q_iconst (v := -1) dX4_query_54 rfl ?_
      refine q_icmp_eq (tgt := 75) dX4_query_55 (by decide) (fun c635 => ?_) (fun c635 => ?_)
      ·
        refine q_aload_n dX4_query_75 rfl ?_
        refine t_getr 0 kX4 (by decide) wPX4_20 dX4_query_76 hok gu590 rfl ?_
        refine q_iload_n dX4_query_79 rfl ?_
        refine t_aald "GroupFilters$Link" dX4_query_80 hok au590 rfl (by rw [bu590]; exact vp_in_nI (by omega) (by omega)) (fun p636 hp636 => ?_)
        have kp636 := cu590 _ _ hp636
        obtain ⟨pu637, qu637, ru637, su637, gu637, au637, bu637, cu637, du637, eu637, fu637⟩ := id kp636
        refine t_callV (M' := mX1_asks) [] [] kX1 dX4_query_81 wPX4_64v wIX1_asks wSX1_asks iX1_asks oX1_asks rfl hok gu637 (sX1_asks Sc Γ n kp636) (Nat.le_of_ble_eq_true rfl) (Nat.le_of_ble_eq_true rfl) (Nat.le_of_ble_eq_true rfl) (Nat.le_of_ble_eq_true rfl) (Nat.le_of_ble_eq_true rfl) rfl (fun v638 h qv638 hok => ?_) (fun e639 h qe639 hok => absurd qe639 (by intro q; obtain ⟨_, q, _⟩ := q; cases q))
        obtain ⟨x640, qx640, bx640⟩ := qv638
        obtain rfl := Sum.inl.inj qx640
        exact q_iret dX4_query_84 rfl (q_bl.nar bx640) ⟨Or.inl ⟨_, rfl, bx640⟩, hok, rfl⟩
      ·
        refine q_iload dX4_query_58 rfl ?_
        refine q_if_ne (tgt := 75) dX4_query_60 (by decide) (fun c641 => ?_) (fun c641 => ?_)
        ·
          refine q_aload_n dX4_query_75 rfl ?_
          refine t_getr 0 kX4 (by decide) wPX4_20 dX4_query_76 hok gu590 rfl ?_
          refine q_iload_n dX4_query_79 rfl ?_
          refine t_aald "GroupFilters$Link" dX4_query_80 hok au590 rfl (by rw [bu590]; exact vp_in_nI (by omega) (by omega)) (fun p642 hp642 => ?_)
          have kp642 := cu590 _ _ hp642
          obtain ⟨pu643, qu643, ru643, su643, gu643, au643, bu643, cu643, du643, eu643, fu643⟩ := id kp642
          refine t_callV (M' := mX1_asks) [] [] kX1 dX4_query_81 wPX4_64v wIX1_asks wSX1_asks iX1_asks oX1_asks rfl hok gu643 (sX1_asks Sc Γ n kp642) (Nat.le_of_ble_eq_true rfl) (Nat.le_of_ble_eq_true rfl) (Nat.le_of_ble_eq_true rfl) (Nat.le_of_ble_eq_true rfl) (Nat.le_of_ble_eq_true rfl) rfl (fun v644 h qv644 hok => ?_) (fun e645 h qe645 hok => absurd qe645 (by intro q; obtain ⟨_, q, _⟩ := q; cases q))
          obtain ⟨x646, qx646, bx646⟩ := qv644
          obtain rfl := Sum.inl.inj qx646
          exact q_iret dX4_query_84 rfl (q_bl.nar bx646) ⟨Or.inl ⟨_, rfl, bx646⟩, hok, rfl⟩
        ·
          refine q_aload_n dX4_query_63 rfl ?_
          refine t_getr 0 kX4 (by decide) wPX4_20 dX4_query_64 hok gu590 rfl ?_
          refine q_iload_n dX4_query_67 rfl ?_
          refine t_aald "GroupFilters$Link" dX4_query_68 hok au590 rfl (by rw [bu590]; exact vp_in_nI (by omega) (by omega)) (fun p647 hp647 => ?_)
          have kp647 := cu590 _ _ hp647
          refine q_iload_n dX4_query_69 rfl ?_
          refine q_iload dX4_query_70 rfl ?_
          obtain ⟨pu648, qu648, ru648, su648, gu648, au648, bu648, cu648, du648, eu648, fu648⟩ := id kp647
          refine t_callV (M' := mX1_hearQuery) [.int (nI g621), .int (a4)] [] kX1 dX4_query_72 wPX4_61v wIX1_hearQuery wSX1_hearQuery iX1_hearQuery oX1_hearQuery rfl hok gu648 (sX1_hearQuery Sc Γ n kp647 (g621) (by omega) (a4)) (Nat.le_of_ble_eq_true rfl) (Nat.le_of_ble_eq_true rfl) (Nat.le_of_ble_eq_true rfl) (Nat.le_of_ble_eq_true rfl) (Nat.le_of_ble_eq_true rfl) rfl (fun v649 h qv649 hok => ?_) (fun e650 h qe650 hok => absurd qe650 (by intro q; cases q))
          obtain rfl := Sum.inl.inj qv649
          refine q_aload_n dX4_query_75 rfl ?_
          refine t_getr 0 kX4 (by decide) wPX4_20 dX4_query_76 hok gu590 rfl ?_
          refine q_iload_n dX4_query_79 rfl ?_
          refine t_aald "GroupFilters$Link" dX4_query_80 hok au590 rfl (by rw [bu590]; exact vp_in_nI (by omega) (by omega)) (fun p651 hp651 => ?_)
          have kp651 := cu590 _ _ hp651
          obtain ⟨pu652, qu652, ru652, su652, gu652, au652, bu652, cu652, du652, eu652, fu652⟩ := id kp651
          refine t_callV (M' := mX1_asks) [] [] kX1 dX4_query_81 wPX4_64v wIX1_asks wSX1_asks iX1_asks oX1_asks rfl hok gu652 (sX1_asks Sc Γ n kp651) (Nat.le_of_ble_eq_true rfl) (Nat.le_of_ble_eq_true rfl) (Nat.le_of_ble_eq_true rfl) (Nat.le_of_ble_eq_true rfl) (Nat.le_of_ble_eq_true rfl) rfl (fun v653 h qv653 hok => ?_) (fun e654 h qe654 hok => absurd qe654 (by intro q; obtain ⟨_, q, _⟩ := q; cases q))
          obtain ⟨x655, qx655, bx655⟩ := qv653
          obtain rfl := Sum.inl.inj qx655
          exact q_iret dX4_query_84 rfl (q_bl.nar bx655) ⟨Or.inl ⟨_, rfl, bx655⟩, hok, rfl⟩
set_option maxRecDepth 20000 in
set_option maxHeartbeats 4000000 in
theorem sX4_tick (Sc : q_S) (Γ : Nat → q_K) (n : Nat) {a0 many : Nat} (b0 : kGF Γ a0 many) (hm1 : 1 ≤ many) (hm4 : many ≤ 4) (a1 : Int32) : q_safe Sc Γ mX4_tick [.ref a0, .int (a1)] n 1 6 (q_XI (fun x => x = 1)) := by
  intro h hok
  show q_A Sc mX4_tick 0 [.ref a0, .int (a1), .retAddr 0, .retAddr 0] [] h n 1 6 (fun O h' n' => (q_XI (fun x => x = 1)) O ∧ q_ok Γ h' ∧ n' = n)
  refine q_iload_n dX4_tick_0 rfl ?_
  refine q_iconst (v := nI 0) dX4_tick_1 rfl ?_
  refine q_sipush (v := nI 2000) dX4_tick_2 rfl ?_
  refine t_callS (M' := mX4_checkNumber) [.int (a1), .int (nI 0), .int (nI 2000)] [] dX4_tick_5 wPX4_38 wTX4_checkNumber wNX4 iX4_checkNumber oX4_checkNumber rfl hok (sX4_checkNumber Sc Γ n (a1) (nI 0) (nI 2000)) (Nat.le_of_ble_eq_true rfl) (Nat.le_of_ble_eq_true rfl) (Nat.le_of_ble_eq_true rfl) (Nat.le_of_ble_eq_true rfl) (Nat.le_of_ble_eq_true rfl) rfl (fun v656 h qv656 hok => ?_) (fun e657 h qe657 hok => ?_)
  rotate_left
  · exact t_out rfl ⟨Or.inr ⟨_, rfl, by have h9 := q_RC1.x qe657; subst h9; decide⟩, hok, rfl⟩
  obtain ⟨rfl, c658a, c658b⟩ := q_RC1.v qv656
  obtain ⟨g659, hg659, rfl⟩ := q_chk2 (by omega) c658a c658b
  refine q_aload_n dX4_tick_8 rfl ?_
  obtain ⟨pu660, qu660, ru660, gu660, au660, bu660, cu660, du660⟩ := id b0
  refine t_getr 1 kX4 (by decide) wPX4_30 dX4_tick_9 hok gu660 rfl ?_
  obtain ⟨pu661, qu661, ru661, su661, gu661, au661, bu661, cu661, du661⟩ := id du660
  refine t_geti 4 kX3 (by decide) wPX4_50 dX4_tick_12 hok gu661 rfl (fun x662 => ?_)
  refine t_istore [.ref a0, .int (nI g659), .int (x662), .retAddr 0] (Or.inl ⟨2, rfl, rfl, dX4_tick_15⟩) (by decide) rfl ?_
  refine q_iconst (v := nI 0) dX4_tick_16 rfl ?_
  refine t_istore [.ref a0, .int (nI g659), .int (x662), .int (nI 0)] (Or.inl ⟨3, rfl, rfl, dX4_tick_17⟩) (by decide) rfl ?_
  have hl663 : ∀ (d665 k664 : Nat) (h : q_H), k664 + d665 = ru660.length → q_ok Γ h → q_A Sc mX4_tick 18 [.ref a0, .int (nI g659), .int (x662), .int (nI k664)] [] h n 0 0 (fun O h' n' => (q_XI (fun x => x = 1)) O ∧ q_ok Γ h' ∧ n' = n) := by
    intro d665
    induction d665 with
    | zero =>
      intro k664  h el663 hok
      refine q_iload_n dX4_tick_18 rfl ?_
      refine q_aload_n dX4_tick_19 rfl ?_
      refine t_getr 0 kX4 (by decide) wPX4_20 dX4_tick_20 hok gu660 rfl ?_
      refine t_alen dX4_tick_23 hok au660 rfl ?_
      refine t_icmp_ge_n (tgt := 43) (by omega) (by omega) dX4_tick_24 (by decide) (fun c666 => ?_) (fun c666 => ?_)
      rotate_left
      · exact absurd c666 (by omega)
      refine q_aload_n dX4_tick_43 rfl ?_
      refine q_iload_n dX4_tick_44 rfl ?_
      refine t_callV (M' := mX4_runClocks) [.int (nI g659)] [] kX4 dX4_tick_45 wPX4_71v wIX4_runClocks wSX4_runClocks iX4_runClocks oX4_runClocks rfl hok gu660 (sX4_runClocks Sc Γ n b0 hm1 hm4 (g659) (by omega)) (Nat.le_of_ble_eq_true rfl) (Nat.le_of_ble_eq_true rfl) (Nat.le_of_ble_eq_true rfl) (Nat.le_of_ble_eq_true rfl) (Nat.le_of_ble_eq_true rfl) rfl (fun v667 h qv667 hok => ?_) (fun e668 h qe668 hok => absurd qe668 (by intro q; cases q))
      obtain rfl := Sum.inl.inj qv667
      refine q_aload_n dX4_tick_48 rfl ?_
      refine t_getr 1 kX4 (by decide) wPX4_30 dX4_tick_49 hok gu660 rfl ?_
      obtain ⟨pu669, qu669, ru669, su669, gu669, au669, bu669, cu669, du669⟩ := id du660
      refine t_geti 4 kX3 (by decide) wPX4_50 dX4_tick_52 hok gu669 rfl (fun x670 => ?_)
      refine q_iload_n dX4_tick_55 rfl ?_
      refine q_isub dX4_tick_56 ?_
      generalize (x670) - (x662) = z671
      exact q_iret dX4_tick_57 rfl (rfl) ⟨Or.inl ⟨_, rfl⟩, hok, rfl⟩
    | succ d665 ihl663 =>
      intro k664  h el663 hok
      refine q_iload_n dX4_tick_18 rfl ?_
      refine q_aload_n dX4_tick_19 rfl ?_
      refine t_getr 0 kX4 (by decide) wPX4_20 dX4_tick_20 hok gu660 rfl ?_
      refine t_alen dX4_tick_23 hok au660 rfl ?_
      refine t_icmp_ge_n (tgt := 43) (by omega) (by omega) dX4_tick_24 (by decide) (fun c672 => ?_) (fun c672 => ?_)
      · exact absurd c672 (by omega)
      refine q_aload_n dX4_tick_27 rfl ?_
      refine t_getr 0 kX4 (by decide) wPX4_20 dX4_tick_28 hok gu660 rfl ?_
      refine q_iload_n dX4_tick_31 rfl ?_
      refine t_aald "GroupFilters$Link" dX4_tick_32 hok au660 rfl (by rw [bu660]; exact vp_in_nI (by omega) (by omega)) (fun p673 hp673 => ?_)
      have kp673 := cu660 _ _ hp673
      refine q_iload_n dX4_tick_33 rfl ?_
      obtain ⟨pu674, qu674, ru674, su674, gu674, au674, bu674, cu674, du674, eu674, fu674⟩ := id kp673
      refine t_callV (M' := mX1_ageFilters) [.int (nI g659)] [] kX1 dX4_tick_34 wPX4_68v wIX1_ageFilters wSX1_ageFilters iX1_ageFilters oX1_ageFilters rfl hok gu674 (sX1_ageFilters Sc Γ n kp673 (nI g659)) (Nat.le_of_ble_eq_true rfl) (Nat.le_of_ble_eq_true rfl) (Nat.le_of_ble_eq_true rfl) (Nat.le_of_ble_eq_true rfl) (Nat.le_of_ble_eq_true rfl) rfl (fun v675 h qv675 hok => ?_) (fun e676 h qe676 hok => absurd qe676 (by intro q; cases q))
      obtain rfl := Sum.inl.inj qv675
      refine t_iinc_n [.ref a0, .int (nI g659), .int (x662), .int (nI (k664 + 1))] dX4_tick_37 rfl (by decide) rfl ?_
      refine q_goto (tgt := 18) dX4_tick_40 (by decide) ?_
      exact ihl663 (k664 + 1)  h (by omega) hok
  exact hl663 (ru660.length) 0  h (by omega) hok
set_option maxRecDepth 20000 in
set_option maxHeartbeats 4000000 in
theorem sX4_member (Sc : q_S) (Γ : Nat → q_K) (n : Nat) {a0 many : Nat} (b0 : kGF Γ a0 many) (hm1 : 1 ≤ many) (hm4 : many ≤ 4) (a1 : Int32) (a2 : Int32) (a3 : Int32) (a4 : Int32) (b4 : q_bl a4) (a5 : Int32) : q_safe Sc Γ mX4_member [.ref a0, .int (a1), .int (a2), .int (a3), .int (a4), .int (a5)] n 4 24 (q_XI (fun x => x < 2)) := by
  intro h hok
  show q_A Sc mX4_member 0 [.ref a0, .int (a1), .int (a2), .int (a3), .int (a4), .int (a5), .retAddr 0] [] h n 4 24 (fun O h' n' => (q_XI (fun x => x < 2)) O ∧ q_ok Γ h' ∧ n' = n)
  refine q_iload_n dX4_member_0 rfl ?_
  refine q_aload_n dX4_member_1 rfl ?_
  obtain ⟨pu677, qu677, ru677, gu677, au677, bu677, cu677, du677⟩ := id b0
  refine t_getr 0 kX4 (by decide) wPX4_20 dX4_member_2 hok gu677 rfl ?_
  refine t_alen dX4_member_5 hok au677 rfl ?_
  refine t_callS (M' := mX4_checkIndex) [.int (a1), .int (nI (ru677.length))] [] dX4_member_6 wPX4_34 wTX4_checkIndex wNX4 iX4_checkIndex oX4_checkIndex rfl hok (sX4_checkIndex Sc Γ n (a1) (nI (ru677.length))) (Nat.le_of_ble_eq_true rfl) (Nat.le_of_ble_eq_true rfl) (Nat.le_of_ble_eq_true rfl) (Nat.le_of_ble_eq_true rfl) (Nat.le_of_ble_eq_true rfl) rfl (fun v678 h qv678 hok => ?_) (fun e679 h qe679 hok => ?_)
  rotate_left
  · exact t_out rfl ⟨Or.inr ⟨_, rfl, by have h9 := q_RC0.x qe679; subst h9; decide⟩, hok, rfl⟩
  obtain ⟨rfl, c680a, c680b⟩ := q_RC0.v qv678
  obtain ⟨g681, hg681, rfl⟩ := q_chk (by omega) c680a c680b
  refine q_iload_n dX4_member_9 rfl ?_
  refine q_bipush (v := nI 6) dX4_member_10 rfl ?_
  refine t_callS (M' := mX4_checkIndex) [.int (a2), .int (nI 6)] [] dX4_member_12 wPX4_34 wTX4_checkIndex wNX4 iX4_checkIndex oX4_checkIndex rfl hok (sX4_checkIndex Sc Γ n (a2) (nI 6)) (Nat.le_of_ble_eq_true rfl) (Nat.le_of_ble_eq_true rfl) (Nat.le_of_ble_eq_true rfl) (Nat.le_of_ble_eq_true rfl) (Nat.le_of_ble_eq_true rfl) rfl (fun v682 h qv682 hok => ?_) (fun e683 h qe683 hok => ?_)
  rotate_left
  · exact t_out rfl ⟨Or.inr ⟨_, rfl, by have h9 := q_RC0.x qe683; subst h9; decide⟩, hok, rfl⟩
  obtain ⟨rfl, c684a, c684b⟩ := q_RC0.v qv682
  obtain ⟨g685, hg685, rfl⟩ := q_chk (by omega) c684a c684b
  refine q_iload_n dX4_member_15 rfl ?_
  refine q_bipush (v := nI 8) dX4_member_16 rfl ?_
  refine t_callS (M' := mX4_checkIndex) [.int (a3), .int (nI 8)] [] dX4_member_18 wPX4_34 wTX4_checkIndex wNX4 iX4_checkIndex oX4_checkIndex rfl hok (sX4_checkIndex Sc Γ n (a3) (nI 8)) (Nat.le_of_ble_eq_true rfl) (Nat.le_of_ble_eq_true rfl) (Nat.le_of_ble_eq_true rfl) (Nat.le_of_ble_eq_true rfl) (Nat.le_of_ble_eq_true rfl) rfl (fun v686 h qv686 hok => ?_) (fun e687 h qe687 hok => ?_)
  rotate_left
  · exact t_out rfl ⟨Or.inr ⟨_, rfl, by have h9 := q_RC0.x qe687; subst h9; decide⟩, hok, rfl⟩
  obtain ⟨rfl, c688a, c688b⟩ := q_RC0.v qv686
  obtain ⟨g689, hg689, rfl⟩ := q_chk (by omega) c688a c688b
  refine q_iload dX4_member_21 rfl ?_
  refine q_iconst (v := nI 0) dX4_member_23 rfl ?_
  refine q_ldc dX4_member_24 wPX4_49 ?_
  refine t_callS (M' := mX4_checkNumber) [.int (a5), .int (nI 0), .int (65535)] [] dX4_member_26 wPX4_38 wTX4_checkNumber wNX4 iX4_checkNumber oX4_checkNumber rfl hok (sX4_checkNumber Sc Γ n (a5) (nI 0) (65535)) (Nat.le_of_ble_eq_true rfl) (Nat.le_of_ble_eq_true rfl) (Nat.le_of_ble_eq_true rfl) (Nat.le_of_ble_eq_true rfl) (Nat.le_of_ble_eq_true rfl) rfl (fun v690 h qv690 hok => ?_) (fun e691 h qe691 hok => ?_)
  rotate_left
  · exact t_out rfl ⟨Or.inr ⟨_, rfl, by have h9 := q_RC1.x qe691; subst h9; decide⟩, hok, rfl⟩
  obtain ⟨rfl, c692a, c692b⟩ := q_RC1.v qv690
  refine q_aload_n dX4_member_29 rfl ?_
  refine t_getr 1 kX4 (by decide) wPX4_30 dX4_member_30 hok gu677 rfl ?_
  obtain ⟨pu693, qu693, ru693, su693, gu693, au693, bu693, cu693, du693⟩ := id du677
  refine t_geti 4 kX3 (by decide) wPX4_50 dX4_member_33 hok gu693 rfl (fun x694 => ?_)
  refine t_istore [.ref a0, .int (nI g681), .int (nI g685), .int (nI g689), .int (a4), .int (a5), .int (x694)] (Or.inr ⟨rfl, dX4_member_36⟩) (by decide) rfl ?_
  refine q_aload_n dX4_member_38 rfl ?_
  refine t_getr 0 kX4 (by decide) wPX4_20 dX4_member_39 hok gu677 rfl ?_
  refine q_iload_n dX4_member_42 rfl ?_
  refine t_aald "GroupFilters$Link" dX4_member_43 hok au677 rfl (by rw [bu677]; exact vp_in_nI (by omega) (by omega)) (fun p695 hp695 => ?_)
  have kp695 := cu677 _ _ hp695
  refine q_aload_n dX4_member_44 rfl ?_
  refine t_getr 1 kX4 (by decide) wPX4_30 dX4_member_45 hok gu677 rfl ?_
  refine q_iload_n dX4_member_48 rfl ?_
  refine q_iload_n dX4_member_49 rfl ?_
  refine q_iload dX4_member_50 rfl ?_
  refine q_iload dX4_member_52 rfl ?_
  obtain ⟨pu696, qu696, ru696, su696, gu696, au696, bu696, cu696, du696, eu696, fu696⟩ := id kp695
  refine t_callV (M' := mX1_changeWish) [.ref qu677, .int (nI g685), .int (nI g689), .int (a4), .int (a5)] [] kX1 dX4_member_54 wPX4_74v wIX1_changeWish wSX1_changeWish iX1_changeWish oX1_changeWish rfl hok gu696 (sX1_changeWish Sc Γ n kp695 du677 (g685) (by omega) (g689) (by omega) (a4) (b4) (a5)) (Nat.le_of_ble_eq_true rfl) (Nat.le_of_ble_eq_true rfl) (Nat.le_of_ble_eq_true rfl) (Nat.le_of_ble_eq_true rfl) (Nat.le_of_ble_eq_true rfl) rfl (fun v697 h qv697 hok => ?_) (fun e698 h qe698 hok => absurd qe698 (by intro q; cases q))
  obtain rfl := Sum.inl.inj qv697
  refine q_aload_n dX4_member_57 rfl ?_
  refine t_getr 1 kX4 (by decide) wPX4_30 dX4_member_58 hok gu677 rfl ?_
  obtain ⟨pu699, qu699, ru699, su699, gu699, au699, bu699, cu699, du699⟩ := id du677
  refine t_geti 4 kX3 (by decide) wPX4_50 dX4_member_61 hok gu699 rfl (fun x700 => ?_)
  refine q_iload dX4_member_64 rfl ?_
  refine q_isub dX4_member_66 ?_
  generalize (x700) - (x694) = z701
  exact q_iret dX4_member_67 rfl (rfl) ⟨Or.inl ⟨_, rfl⟩, hok, rfl⟩
set_option maxRecDepth 20000 in
set_option maxHeartbeats 4000000 in
theorem sX4_answer (Sc : q_S) (Γ : Nat → q_K) (n : Nat) {a0 many : Nat} (b0 : kGF Γ a0 many) (hm1 : 1 ≤ many) (hm4 : many ≤ 4) (a1 : Int32) (a2 : Int32) : q_safe Sc Γ mX4_answer [.ref a0, .int (a1), .int (a2)] n 2 12 (q_XI (fun x => x = 0)) := by
  intro h hok
  show q_A Sc mX4_answer 0 [.ref a0, .int (a1), .int (a2)] [] h n 2 12 (fun O h' n' => (q_XI (fun x => x = 0)) O ∧ q_ok Γ h' ∧ n' = n)
  refine q_iload_n dX4_answer_0 rfl ?_
  refine q_aload_n dX4_answer_1 rfl ?_
  obtain ⟨pu702, qu702, ru702, gu702, au702, bu702, cu702, du702⟩ := id b0
  refine t_getr 0 kX4 (by decide) wPX4_20 dX4_answer_2 hok gu702 rfl ?_
  refine t_alen dX4_answer_5 hok au702 rfl ?_
  refine t_callS (M' := mX4_checkIndex) [.int (a1), .int (nI (ru702.length))] [] dX4_answer_6 wPX4_34 wTX4_checkIndex wNX4 iX4_checkIndex oX4_checkIndex rfl hok (sX4_checkIndex Sc Γ n (a1) (nI (ru702.length))) (Nat.le_of_ble_eq_true rfl) (Nat.le_of_ble_eq_true rfl) (Nat.le_of_ble_eq_true rfl) (Nat.le_of_ble_eq_true rfl) (Nat.le_of_ble_eq_true rfl) rfl (fun v703 h qv703 hok => ?_) (fun e704 h qe704 hok => ?_)
  rotate_left
  · exact t_out rfl ⟨Or.inr ⟨_, rfl, by have h9 := q_RC0.x qe704; subst h9; decide⟩, hok, rfl⟩
  obtain ⟨rfl, c705a, c705b⟩ := q_RC0.v qv703
  obtain ⟨g706, hg706, rfl⟩ := q_chk (by omega) c705a c705b
  refine q_iload_n dX4_answer_9 rfl ?_
  refine q_bipush (v := nI 6) dX4_answer_10 rfl ?_
  refine t_callS (M' := mX4_checkIndex) [.int (a2), .int (nI 6)] [] dX4_answer_12 wPX4_34 wTX4_checkIndex wNX4 iX4_checkIndex oX4_checkIndex rfl hok (sX4_checkIndex Sc Γ n (a2) (nI 6)) (Nat.le_of_ble_eq_true rfl) (Nat.le_of_ble_eq_true rfl) (Nat.le_of_ble_eq_true rfl) (Nat.le_of_ble_eq_true rfl) (Nat.le_of_ble_eq_true rfl) rfl (fun v707 h qv707 hok => ?_) (fun e708 h qe708 hok => ?_)
  rotate_left
  · exact t_out rfl ⟨Or.inr ⟨_, rfl, by have h9 := q_RC0.x qe708; subst h9; decide⟩, hok, rfl⟩
  obtain ⟨rfl, c709a, c709b⟩ := q_RC0.v qv707
  obtain ⟨g710, hg710, rfl⟩ := q_chk (by omega) c709a c709b
  refine q_aload_n dX4_answer_15 rfl ?_
  refine t_getr 0 kX4 (by decide) wPX4_20 dX4_answer_16 hok gu702 rfl ?_
  refine q_iload_n dX4_answer_19 rfl ?_
  refine t_aald "GroupFilters$Link" dX4_answer_20 hok au702 rfl (by rw [bu702]; exact vp_in_nI (by omega) (by omega)) (fun p711 hp711 => ?_)
  have kp711 := cu702 _ _ hp711
  refine q_aload_n dX4_answer_21 rfl ?_
  refine t_getr 1 kX4 (by decide) wPX4_30 dX4_answer_22 hok gu702 rfl ?_
  refine q_iload_n dX4_answer_25 rfl ?_
  obtain ⟨pu712, qu712, ru712, su712, gu712, au712, bu712, cu712, du712, eu712, fu712⟩ := id kp711
  refine t_callV (M' := mX1_letAnswer) [.ref qu702, .int (nI g710)] [] kX1 dX4_answer_26 wPX4_78v wIX1_letAnswer wSX1_letAnswer iX1_letAnswer oX1_letAnswer rfl hok gu712 (sX1_letAnswer Sc Γ n kp711 du702 (g710) (by omega)) (Nat.le_of_ble_eq_true rfl) (Nat.le_of_ble_eq_true rfl) (Nat.le_of_ble_eq_true rfl) (Nat.le_of_ble_eq_true rfl) (Nat.le_of_ble_eq_true rfl) rfl (fun v713 h qv713 hok => ?_) (fun e714 h qe714 hok => absurd qe714 (by intro q; obtain ⟨_, q⟩ := q; cases q))
  obtain ⟨x715, qx715⟩ := qv713
  obtain rfl := Sum.inl.inj qx715
  exact q_iret dX4_answer_29 rfl (rfl) ⟨Or.inl ⟨_, rfl⟩, hok, rfl⟩
set_option maxRecDepth 20000 in
set_option maxHeartbeats 4000000 in
theorem sX4_wanted (Sc : q_S) (Γ : Nat → q_K) (n : Nat) {a0 many : Nat} (b0 : kGF Γ a0 many) (hm1 : 1 ≤ many) (hm4 : many ≤ 4) (a1 : Int32) (a2 : Int32) (a3 : Int32) : q_safe Sc Γ mX4_wanted [.ref a0, .int (a1), .int (a2), .int (a3)] n 3 18 (q_XB (fun x => x = 0)) := by
  intro h hok
  show q_A Sc mX4_wanted 0 [.ref a0, .int (a1), .int (a2), .int (a3)] [] h n 3 18 (fun O h' n' => (q_XB (fun x => x = 0)) O ∧ q_ok Γ h' ∧ n' = n)
  refine q_aload_n dX4_wanted_0 rfl ?_
  refine q_iload_n dX4_wanted_1 rfl ?_
  refine q_iload_n dX4_wanted_2 rfl ?_
  refine q_iload_n dX4_wanted_3 rfl ?_
  obtain ⟨pu716, qu716, ru716, gu716, au716, bu716, cu716, du716⟩ := id b0
  refine t_callV (M' := mX4_checkPlace) [.int (a1), .int (a2), .int (a3)] [] kX4 dX4_wanted_4 wPX4_82v wIX4_checkPlace wSX4_checkPlace iX4_checkPlace oX4_checkPlace rfl hok gu716 (sX4_checkPlace Sc Γ n b0 hm1 hm4 (a1) (a2) (a3)) (Nat.le_of_ble_eq_true rfl) (Nat.le_of_ble_eq_true rfl) (Nat.le_of_ble_eq_true rfl) (Nat.le_of_ble_eq_true rfl) (Nat.le_of_ble_eq_true rfl) rfl (fun v717 h qv717 hok => ?_) (fun e718 h qe718 hok => ?_)
  rotate_left
  · exact t_out rfl ⟨Or.inr ⟨_, rfl, by have h9 := q_RP.x qe718; subst h9; decide⟩, hok, rfl⟩
  obtain ⟨rfl, ⟨g719, hg719, rfl⟩, ⟨g720, hg720, rfl⟩, ⟨g721, hg721, rfl⟩⟩ := q_RP.v qv717
  refine q_aload_n dX4_wanted_7 rfl ?_
  refine t_getr 0 kX4 (by decide) wPX4_20 dX4_wanted_8 hok gu716 rfl ?_
  refine q_iload_n dX4_wanted_11 rfl ?_
  refine t_aald "GroupFilters$Link" dX4_wanted_12 hok au716 rfl (by rw [bu716]; exact vp_in_nI (by omega) (by omega)) (fun p722 hp722 => ?_)
  have kp722 := cu716 _ _ hp722
  refine q_iload_n dX4_wanted_13 rfl ?_
  refine q_iload_n dX4_wanted_14 rfl ?_
  obtain ⟨pu723, qu723, ru723, su723, gu723, au723, bu723, cu723, du723, eu723, fu723⟩ := id kp722
  refine t_callV (M' := mX1_hasMemberFor) [.int (nI g720), .int (nI g721)] [] kX1 dX4_wanted_15 wPX4_85v wIX1_hasMemberFor wSX1_hasMemberFor iX1_hasMemberFor oX1_hasMemberFor rfl hok gu723 (sX1_hasMemberFor Sc Γ n kp722 (g720) (by omega) (nI g721)) (Nat.le_of_ble_eq_true rfl) (Nat.le_of_ble_eq_true rfl) (Nat.le_of_ble_eq_true rfl) (Nat.le_of_ble_eq_true rfl) (Nat.le_of_ble_eq_true rfl) rfl (fun v724 h qv724 hok => ?_) (fun e725 h qe725 hok => absurd qe725 (by intro q; obtain ⟨_, q, _⟩ := q; cases q))
  obtain ⟨x726, qx726, bx726⟩ := qv724
  obtain rfl := Sum.inl.inj qx726
  exact q_iret dX4_wanted_18 rfl (q_bl.nar bx726) ⟨Or.inl ⟨_, rfl, bx726⟩, hok, rfl⟩
set_option maxRecDepth 20000 in
set_option maxHeartbeats 4000000 in
theorem sX4_passed (Sc : q_S) (Γ : Nat → q_K) (n : Nat) {a0 many : Nat} (b0 : kGF Γ a0 many) (hm1 : 1 ≤ many) (hm4 : many ≤ 4) (a1 : Int32) (a2 : Int32) (a3 : Int32) : q_safe Sc Γ mX4_passed [.ref a0, .int (a1), .int (a2), .int (a3)] n 3 18 (q_XI (fun x => x = 0)) := by
  intro h hok
  show q_A Sc mX4_passed 0 [.ref a0, .int (a1), .int (a2), .int (a3), .retAddr 0, .retAddr 0] [] h n 3 18 (fun O h' n' => (q_XI (fun x => x = 0)) O ∧ q_ok Γ h' ∧ n' = n)
  refine q_aload_n dX4_passed_0 rfl ?_
  refine q_iload_n dX4_passed_1 rfl ?_
  refine q_iload_n dX4_passed_2 rfl ?_
  refine q_iload_n dX4_passed_3 rfl ?_
  obtain ⟨pu727, qu727, ru727, gu727, au727, bu727, cu727, du727⟩ := id b0
  refine t_callV (M' := mX4_checkPlace) [.int (a1), .int (a2), .int (a3)] [] kX4 dX4_passed_4 wPX4_82v wIX4_checkPlace wSX4_checkPlace iX4_checkPlace oX4_checkPlace rfl hok gu727 (sX4_checkPlace Sc Γ n b0 hm1 hm4 (a1) (a2) (a3)) (Nat.le_of_ble_eq_true rfl) (Nat.le_of_ble_eq_true rfl) (Nat.le_of_ble_eq_true rfl) (Nat.le_of_ble_eq_true rfl) (Nat.le_of_ble_eq_true rfl) rfl (fun v728 h qv728 hok => ?_) (fun e729 h qe729 hok => ?_)
  rotate_left
  · exact t_out rfl ⟨Or.inr ⟨_, rfl, by have h9 := q_RP.x qe729; subst h9; decide⟩, hok, rfl⟩
  obtain ⟨rfl, ⟨g730, hg730, rfl⟩, ⟨g731, hg731, rfl⟩, ⟨g732, hg732, rfl⟩⟩ := q_RP.v qv728
  refine q_iconst (v := nI 0) dX4_passed_7 rfl ?_
  refine t_istore [.ref a0, .int (nI g730), .int (nI g731), .int (nI g732), .int (nI 0), .retAddr 0] (Or.inr ⟨rfl, dX4_passed_8⟩) (by decide) rfl ?_
  refine q_iconst (v := nI 0) dX4_passed_10 rfl ?_
  refine t_istore [.ref a0, .int (nI g730), .int (nI g731), .int (nI g732), .int (nI 0), .int (nI 0)] (Or.inr ⟨rfl, dX4_passed_11⟩) (by decide) rfl ?_
  have hl733 : ∀ (d735 k734 : Nat) (x736 : Int32) (h : q_H), k734 + d735 = ru727.length → q_ok Γ h → q_A Sc mX4_passed 13 [.ref a0, .int (nI g730), .int (nI g731), .int (nI g732), .int (x736), .int (nI k734)] [] h n 0 0 (fun O h' n' => (q_XI (fun x => x = 0)) O ∧ q_ok Γ h' ∧ n' = n) := by
    intro d735
    induction d735 with
    | zero =>
      intro k734 x736 h el733 hok
      refine q_iload dX4_passed_13 rfl ?_
      refine q_aload_n dX4_passed_15 rfl ?_
      refine t_getr 0 kX4 (by decide) wPX4_20 dX4_passed_16 hok gu727 rfl ?_
      refine t_alen dX4_passed_19 hok au727 rfl ?_
      refine t_icmp_ge_n (tgt := 63) (by omega) (by omega) dX4_passed_20 (by decide) (fun c737 => ?_) (fun c737 => ?_)
      rotate_left
      · exact absurd c737 (by omega)
      refine q_iload dX4_passed_63 rfl ?_
      exact q_iret dX4_passed_65 rfl (rfl) ⟨Or.inl ⟨_, rfl⟩, hok, rfl⟩
    | succ d735 ihl733 =>
      intro k734 x736 h el733 hok
      refine q_iload dX4_passed_13 rfl ?_
      refine q_aload_n dX4_passed_15 rfl ?_
      refine t_getr 0 kX4 (by decide) wPX4_20 dX4_passed_16 hok gu727 rfl ?_
      refine t_alen dX4_passed_19 hok au727 rfl ?_
      refine t_icmp_ge_n (tgt := 63) (by omega) (by omega) dX4_passed_20 (by decide) (fun c738 => ?_) (fun c738 => ?_)
      · exact absurd c738 (by omega)
      refine q_iload dX4_passed_23 rfl ?_
      refine q_iload_n dX4_passed_25 rfl ?_
      refine q_icmp_eq (tgt := 57) dX4_passed_26 (by decide) (fun c739 => ?_) (fun c739 => ?_)
      ·
        refine t_iinc_n [.ref a0, .int (nI g730), .int (nI g731), .int (nI g732), .int (x736), .int (nI (k734 + 1))] dX4_passed_57 rfl (by decide) rfl ?_
        refine q_goto (tgt := 13) dX4_passed_60 (by decide) ?_
        exact ihl733 (k734 + 1) (x736) h (by omega) hok
      ·
        refine q_aload_n dX4_passed_29 rfl ?_
        refine t_getr 0 kX4 (by decide) wPX4_20 dX4_passed_30 hok gu727 rfl ?_
        refine q_iload dX4_passed_33 rfl ?_
        refine t_aald "GroupFilters$Link" dX4_passed_35 hok au727 rfl (by rw [bu727]; exact vp_in_nI (by omega) (by omega)) (fun p740 hp740 => ?_)
        have kp740 := cu727 _ _ hp740
        obtain ⟨pu741, qu741, ru741, su741, gu741, au741, bu741, cu741, du741, eu741, fu741⟩ := id kp740
        refine t_getr 1 kX1 (by decide) wPX4_89 dX4_passed_36 hok gu741 rfl ?_
        refine q_iload_n dX4_passed_39 rfl ?_
        refine t_aald "GroupFilters$Filter" dX4_passed_40 hok au741 rfl (by rw [bu741]; exact vp_in_nI (by omega) (by omega)) (fun p742 hp742 => ?_)
        have kp742 := cu741 _ _ hp742
        refine q_iload_n dX4_passed_41 rfl ?_
        obtain ⟨tu743, gu743, au743⟩ := id kp742
        refine t_callV (M' := mX0_lets) [.int (nI g732)] [] kX0 dX4_passed_42 wPX4_93v wIX0_lets wSX0_lets iX0_lets oX0_lets rfl hok gu743 (sX0_lets Sc Γ n kp742 (nI g732)) (Nat.le_of_ble_eq_true rfl) (Nat.le_of_ble_eq_true rfl) (Nat.le_of_ble_eq_true rfl) (Nat.le_of_ble_eq_true rfl) (Nat.le_of_ble_eq_true rfl) rfl (fun v744 h qv744 hok => ?_) (fun e745 h qe745 hok => absurd qe745 (by intro q; obtain ⟨_, q, _⟩ := q; cases q))
        obtain ⟨x746, qx746, bx746⟩ := qv744
        obtain rfl := Sum.inl.inj qx746
        refine q_if_eq (tgt := 57) dX4_passed_45 (by decide) (fun c747 => ?_) (fun c747 => ?_)
        ·
          refine t_iinc_n [.ref a0, .int (nI g730), .int (nI g731), .int (nI g732), .int (x736), .int (nI (k734 + 1))] dX4_passed_57 rfl (by decide) rfl ?_
          refine q_goto (tgt := 13) dX4_passed_60 (by decide) ?_
          exact ihl733 (k734 + 1) (x736) h (by omega) hok
        ·
          refine q_iload dX4_passed_48 rfl ?_
          refine q_iconst (v := nI 1) dX4_passed_50 rfl ?_
          refine q_iload dX4_passed_51 rfl ?_
          refine q_ishl dX4_passed_53 ?_
          generalize (nI 1) <<< ((nI k734) &&& 31) = z748
          refine q_ior dX4_passed_54 ?_
          generalize (x736) ||| (z748) = z749
          refine t_istore [.ref a0, .int (nI g730), .int (nI g731), .int (nI g732), .int (z749), .int (nI k734)] (Or.inr ⟨rfl, dX4_passed_55⟩) (by decide) rfl ?_
          refine t_iinc_n [.ref a0, .int (nI g730), .int (nI g731), .int (nI g732), .int (z749), .int (nI (k734 + 1))] dX4_passed_57 rfl (by decide) rfl ?_
          refine q_goto (tgt := 13) dX4_passed_60 (by decide) ?_
          exact ihl733 (k734 + 1) (z749) h (by omega) hok
  exact hl733 (ru727.length) 0 (nI 0) h (by omega) hok
set_option maxRecDepth 20000 in
set_option maxHeartbeats 4000000 in
theorem sX4_mode (Sc : q_S) (Γ : Nat → q_K) (n : Nat) {a0 many : Nat} (b0 : kGF Γ a0 many) (hm1 : 1 ≤ many) (hm4 : many ≤ 4) (a1 : Int32) (a2 : Int32) : q_safe Sc Γ mX4_mode [.ref a0, .int (a1), .int (a2)] n 2 12 (q_XI (fun x => x = 0)) := by
  intro h hok
  show q_A Sc mX4_mode 0 [.ref a0, .int (a1), .int (a2)] [] h n 2 12 (fun O h' n' => (q_XI (fun x => x = 0)) O ∧ q_ok Γ h' ∧ n' = n)
  refine q_aload_n dX4_mode_0 rfl ?_
  refine q_iload_n dX4_mode_1 rfl ?_
  refine q_iload_n dX4_mode_2 rfl ?_
  obtain ⟨pu750, qu750, ru750, gu750, au750, bu750, cu750, du750⟩ := id b0
  refine t_callV (M' := mX4_filterAt) [.int (a1), .int (a2)] [] kX4 dX4_mode_3 wPX4_99v wIX4_filterAt wSX4_filterAt iX4_filterAt oX4_filterAt rfl hok gu750 (sX4_filterAt Sc Γ n b0 hm1 hm4 (a1) (a2)) (Nat.le_of_ble_eq_true rfl) (Nat.le_of_ble_eq_true rfl) (Nat.le_of_ble_eq_true rfl) (Nat.le_of_ble_eq_true rfl) (Nat.le_of_ble_eq_true rfl) rfl (fun v751 h qv751 hok => ?_) (fun e752 h qe752 hok => ?_)
  rotate_left
  · exact t_out rfl ⟨Or.inr ⟨_, rfl, by have h9 := q_RF.x qe752; subst h9; decide⟩, hok, rfl⟩
  obtain ⟨j753, rfl, kj753⟩ := q_RF.v qv751
  obtain ⟨tu754, gu754, au754⟩ := id kj753
  refine t_callV (M' := mX0_state) [] [] kX0 dX4_mode_6 wPX4_103v wIX0_state wSX0_state iX0_state oX0_state rfl hok gu754 (sX0_state Sc Γ n kj753) (Nat.le_of_ble_eq_true rfl) (Nat.le_of_ble_eq_true rfl) (Nat.le_of_ble_eq_true rfl) (Nat.le_of_ble_eq_true rfl) (Nat.le_of_ble_eq_true rfl) rfl (fun v755 h qv755 hok => ?_) (fun e756 h qe756 hok => absurd qe756 (by intro q; obtain ⟨_, q⟩ := q; cases q))
  obtain ⟨x757, qx757⟩ := qv755
  obtain rfl := Sum.inl.inj qx757
  exact q_iret dX4_mode_9 rfl (rfl) ⟨Or.inl ⟨_, rfl⟩, hok, rfl⟩
set_option maxRecDepth 20000 in
set_option maxHeartbeats 4000000 in
theorem sX4_sources (Sc : q_S) (Γ : Nat → q_K) (n : Nat) {a0 many : Nat} (b0 : kGF Γ a0 many) (hm1 : 1 ≤ many) (hm4 : many ≤ 4) (a1 : Int32) (a2 : Int32) (a3 : Int32) (b3 : q_bl a3) : q_safe Sc Γ mX4_sources [.ref a0, .int (a1), .int (a2), .int (a3)] n 2 12 (q_XI (fun x => x = 0)) := by
  intro h hok
  show q_A Sc mX4_sources 0 [.ref a0, .int (a1), .int (a2), .int (a3), .retAddr 0] [] h n 2 12 (fun O h' n' => (q_XI (fun x => x = 0)) O ∧ q_ok Γ h' ∧ n' = n)
  refine q_aload_n dX4_sources_0 rfl ?_
  refine q_iload_n dX4_sources_1 rfl ?_
  refine q_iload_n dX4_sources_2 rfl ?_
  obtain ⟨pu758, qu758, ru758, gu758, au758, bu758, cu758, du758⟩ := id b0
  refine t_callV (M' := mX4_filterAt) [.int (a1), .int (a2)] [] kX4 dX4_sources_3 wPX4_99v wIX4_filterAt wSX4_filterAt iX4_filterAt oX4_filterAt rfl hok gu758 (sX4_filterAt Sc Γ n b0 hm1 hm4 (a1) (a2)) (Nat.le_of_ble_eq_true rfl) (Nat.le_of_ble_eq_true rfl) (Nat.le_of_ble_eq_true rfl) (Nat.le_of_ble_eq_true rfl) (Nat.le_of_ble_eq_true rfl) rfl (fun v759 h qv759 hok => ?_) (fun e760 h qe760 hok => ?_)
  rotate_left
  · exact t_out rfl ⟨Or.inr ⟨_, rfl, by have h9 := q_RF.x qe760; subst h9; decide⟩, hok, rfl⟩
  obtain ⟨j761, rfl, kj761⟩ := q_RF.v qv759
  refine q_astore dX4_sources_6 (by decide) ?_
  refine q_iload_n dX4_sources_8 rfl ?_
  refine q_if_eq (tgt := 20) dX4_sources_9 (by decide) (fun c762 => ?_) (fun c762 => ?_)
  ·
    refine q_aload dX4_sources_20 rfl ?_
    obtain ⟨tu763, gu763, au763⟩ := id kj761
    refine t_geti 3 kX0 (by decide) wPX4_109 dX4_sources_22 hok gu763 rfl (fun x764 => ?_)
    exact q_iret dX4_sources_25 rfl (rfl) ⟨Or.inl ⟨_, rfl⟩, hok, rfl⟩
  ·
    refine q_aload dX4_sources_12 rfl ?_
    obtain ⟨tu765, gu765, au765⟩ := id kj761
    refine t_geti 2 kX0 (by decide) wPX4_106 dX4_sources_14 hok gu765 rfl (fun x766 => ?_)
    refine q_goto (tgt := 25) dX4_sources_17 (by decide) ?_
    exact q_iret dX4_sources_25 rfl (rfl) ⟨Or.inl ⟨_, rfl⟩, hok, rfl⟩
set_option maxRecDepth 20000 in
set_option maxHeartbeats 4000000 in
theorem sX4_timer (Sc : q_S) (Γ : Nat → q_K) (n : Nat) {a0 many : Nat} (b0 : kGF Γ a0 many) (hm1 : 1 ≤ many) (hm4 : many ≤ 4) (a1 : Int32) (a2 : Int32) (a3 : Int32) : q_safe Sc Γ mX4_timer [.ref a0, .int (a1), .int (a2), .int (a3)] n 3 18 (q_XI (fun x => x = 0)) := by
  intro h hok
  show q_A Sc mX4_timer 0 [.ref a0, .int (a1), .int (a2), .int (a3)] [] h n 3 18 (fun O h' n' => (q_XI (fun x => x = 0)) O ∧ q_ok Γ h' ∧ n' = n)
  refine q_aload_n dX4_timer_0 rfl ?_
  refine q_iload_n dX4_timer_1 rfl ?_
  refine q_iload_n dX4_timer_2 rfl ?_
  refine q_iload_n dX4_timer_3 rfl ?_
  obtain ⟨pu767, qu767, ru767, gu767, au767, bu767, cu767, du767⟩ := id b0
  refine t_callV (M' := mX4_checkPlace) [.int (a1), .int (a2), .int (a3)] [] kX4 dX4_timer_4 wPX4_82v wIX4_checkPlace wSX4_checkPlace iX4_checkPlace oX4_checkPlace rfl hok gu767 (sX4_checkPlace Sc Γ n b0 hm1 hm4 (a1) (a2) (a3)) (Nat.le_of_ble_eq_true rfl) (Nat.le_of_ble_eq_true rfl) (Nat.le_of_ble_eq_true rfl) (Nat.le_of_ble_eq_true rfl) (Nat.le_of_ble_eq_true rfl) rfl (fun v768 h qv768 hok => ?_) (fun e769 h qe769 hok => ?_)
  rotate_left
  · exact t_out rfl ⟨Or.inr ⟨_, rfl, by have h9 := q_RP.x qe769; subst h9; decide⟩, hok, rfl⟩
  obtain ⟨rfl, ⟨g770, hg770, rfl⟩, ⟨g771, hg771, rfl⟩, ⟨g772, hg772, rfl⟩⟩ := q_RP.v qv768
  refine q_aload_n dX4_timer_7 rfl ?_
  refine t_getr 0 kX4 (by decide) wPX4_20 dX4_timer_8 hok gu767 rfl ?_
  refine q_iload_n dX4_timer_11 rfl ?_
  refine t_aald "GroupFilters$Link" dX4_timer_12 hok au767 rfl (by rw [bu767]; exact vp_in_nI (by omega) (by omega)) (fun p773 hp773 => ?_)
  have kp773 := cu767 _ _ hp773
  obtain ⟨pu774, qu774, ru774, su774, gu774, au774, bu774, cu774, du774, eu774, fu774⟩ := id kp773
  refine t_getr 1 kX1 (by decide) wPX4_89 dX4_timer_13 hok gu774 rfl ?_
  refine q_iload_n dX4_timer_16 rfl ?_
  refine t_aald "GroupFilters$Filter" dX4_timer_17 hok au774 rfl (by rw [bu774]; exact vp_in_nI (by omega) (by omega)) (fun p775 hp775 => ?_)
  have kp775 := cu774 _ _ hp775
  obtain ⟨tu776, gu776, au776⟩ := id kp775
  refine t_getr 0 kX0 (by decide) wPX4_112 dX4_timer_18 hok gu776 rfl ?_
  refine q_iload_n dX4_timer_21 rfl ?_
  refine t_iald dX4_timer_22 hok au776 (by exact vp_in_nI (by omega) (by omega)) (fun x777 => ?_)
  exact q_iret dX4_timer_23 rfl (rfl) ⟨Or.inl ⟨_, rfl⟩, hok, rfl⟩
set_option maxRecDepth 20000 in
set_option maxHeartbeats 4000000 in
theorem sX4_groupTimer (Sc : q_S) (Γ : Nat → q_K) (n : Nat) {a0 many : Nat} (b0 : kGF Γ a0 many) (hm1 : 1 ≤ many) (hm4 : many ≤ 4) (a1 : Int32) (a2 : Int32) : q_safe Sc Γ mX4_groupTimer [.ref a0, .int (a1), .int (a2)] n 2 12 (q_XI (fun x => x = 0)) := by
  intro h hok
  show q_A Sc mX4_groupTimer 0 [.ref a0, .int (a1), .int (a2)] [] h n 2 12 (fun O h' n' => (q_XI (fun x => x = 0)) O ∧ q_ok Γ h' ∧ n' = n)
  refine q_aload_n dX4_groupTimer_0 rfl ?_
  refine q_iload_n dX4_groupTimer_1 rfl ?_
  refine q_iload_n dX4_groupTimer_2 rfl ?_
  obtain ⟨pu778, qu778, ru778, gu778, au778, bu778, cu778, du778⟩ := id b0
  refine t_callV (M' := mX4_filterAt) [.int (a1), .int (a2)] [] kX4 dX4_groupTimer_3 wPX4_99v wIX4_filterAt wSX4_filterAt iX4_filterAt oX4_filterAt rfl hok gu778 (sX4_filterAt Sc Γ n b0 hm1 hm4 (a1) (a2)) (Nat.le_of_ble_eq_true rfl) (Nat.le_of_ble_eq_true rfl) (Nat.le_of_ble_eq_true rfl) (Nat.le_of_ble_eq_true rfl) (Nat.le_of_ble_eq_true rfl) rfl (fun v779 h qv779 hok => ?_) (fun e780 h qe780 hok => ?_)
  rotate_left
  · exact t_out rfl ⟨Or.inr ⟨_, rfl, by have h9 := q_RF.x qe780; subst h9; decide⟩, hok, rfl⟩
  obtain ⟨j781, rfl, kj781⟩ := q_RF.v qv779
  obtain ⟨tu782, gu782, au782⟩ := id kj781
  refine t_geti 4 kX0 (by decide) wPX4_116 dX4_groupTimer_6 hok gu782 rfl (fun x783 => ?_)
  exact q_iret dX4_groupTimer_9 rfl (rfl) ⟨Or.inl ⟨_, rfl⟩, hok, rfl⟩
set_option maxRecDepth 20000 in
set_option maxHeartbeats 4000000 in
theorem sX4_asked (Sc : q_S) (Γ : Nat → q_K) (n : Nat) {a0 many : Nat} (b0 : kGF Γ a0 many) (hm1 : 1 ≤ many) (hm4 : many ≤ 4) (a1 : Int32) (a2 : Int32) : q_safe Sc Γ mX4_asked [.ref a0, .int (a1), .int (a2)] n 2 12 (q_XI (fun x => x < 2)) := by
  intro h hok
  show q_A Sc mX4_asked 0 [.ref a0, .int (a1), .int (a2)] [] h n 2 12 (fun O h' n' => (q_XI (fun x => x < 2)) O ∧ q_ok Γ h' ∧ n' = n)
  refine q_iload_n dX4_asked_0 rfl ?_
  refine q_aload_n dX4_asked_1 rfl ?_
  obtain ⟨pu784, qu784, ru784, gu784, au784, bu784, cu784, du784⟩ := id b0
  refine t_getr 1 kX4 (by decide) wPX4_30 dX4_asked_2 hok gu784 rfl ?_
  obtain ⟨pu785, qu785, ru785, su785, gu785, au785, bu785, cu785, du785⟩ := id du784
  refine t_geti 4 kX3 (by decide) wPX4_50 dX4_asked_5 hok gu785 rfl (fun x786 => ?_)
  refine q_bipush (v := nI 40) dX4_asked_8 rfl ?_
  refine t_callS (M' := mJ9_min_7cf53) [.int (x786), .int (nI 40)] [.int (a1)] dX4_asked_10 wPX4_9 wTJ9_min_7cf53 wNJ9 iJ9_min_7cf53 oJ9_min_7cf53 rfl hok (sJ9_min_7cf53 Sc Γ n (x786) (nI 40)) (Nat.le_of_ble_eq_true rfl) (Nat.le_of_ble_eq_true rfl) (Nat.le_of_ble_eq_true rfl) (Nat.le_of_ble_eq_true rfl) (Nat.le_of_ble_eq_true rfl) rfl (fun v787 h qv787 hok => ?_) (fun e788 h qe788 hok => absurd qe788 (by intro q; obtain ⟨_, q⟩ := q; cases q))
  obtain ⟨x789, qx789⟩ := qv787
  obtain rfl := Sum.inl.inj qx789
  refine t_callS (M' := mX4_checkIndex) [.int (a1), .int (x789)] [] dX4_asked_13 wPX4_34 wTX4_checkIndex wNX4 iX4_checkIndex oX4_checkIndex rfl hok (sX4_checkIndex Sc Γ n (a1) (x789)) (Nat.le_of_ble_eq_true rfl) (Nat.le_of_ble_eq_true rfl) (Nat.le_of_ble_eq_true rfl) (Nat.le_of_ble_eq_true rfl) (Nat.le_of_ble_eq_true rfl) rfl (fun v790 h qv790 hok => ?_) (fun e791 h qe791 hok => ?_)
  rotate_left
  · exact t_out rfl ⟨Or.inr ⟨_, rfl, by have h9 := q_RC0.x qe791; subst h9; decide⟩, hok, rfl⟩
  obtain ⟨rfl, c792a, c792b⟩ := q_RC0.v qv790
  refine q_iload_n dX4_asked_16 rfl ?_
  refine q_iconst (v := nI 0) dX4_asked_17 rfl ?_
  refine q_iconst (v := nI 3) dX4_asked_18 rfl ?_
  refine t_callS (M' := mX4_checkNumber) [.int (a2), .int (nI 0), .int (nI 3)] [] dX4_asked_19 wPX4_38 wTX4_checkNumber wNX4 iX4_checkNumber oX4_checkNumber rfl hok (sX4_checkNumber Sc Γ n (a2) (nI 0) (nI 3)) (Nat.le_of_ble_eq_true rfl) (Nat.le_of_ble_eq_true rfl) (Nat.le_of_ble_eq_true rfl) (Nat.le_of_ble_eq_true rfl) (Nat.le_of_ble_eq_true rfl) rfl (fun v793 h qv793 hok => ?_) (fun e794 h qe794 hok => ?_)
  rotate_left
  · exact t_out rfl ⟨Or.inr ⟨_, rfl, by have h9 := q_RC1.x qe794; subst h9; decide⟩, hok, rfl⟩
  obtain ⟨rfl, c795a, c795b⟩ := q_RC1.v qv793
  refine q_aload_n dX4_asked_22 rfl ?_
  refine t_getr 1 kX4 (by decide) wPX4_30 dX4_asked_23 hok gu784 rfl ?_
  refine q_iload_n dX4_asked_26 rfl ?_
  refine q_iload_n dX4_asked_27 rfl ?_
  obtain ⟨pu796, qu796, ru796, su796, gu796, au796, bu796, cu796, du796⟩ := id du784
  refine t_callV (M' := mX3_look) [.int (a1), .int (a2)] [] kX3 dX4_asked_28 wPX4_119v wIX3_look wSX3_look iX3_look oX3_look rfl hok gu796 (sX3_look Sc Γ n du784 (a1) (a2)) (Nat.le_of_ble_eq_true rfl) (Nat.le_of_ble_eq_true rfl) (Nat.le_of_ble_eq_true rfl) (Nat.le_of_ble_eq_true rfl) (Nat.le_of_ble_eq_true rfl) rfl (fun v797 h qv797 hok => ?_) (fun e798 h qe798 hok => absurd qe798 (by intro q; obtain ⟨_, q⟩ := q; cases q))
  obtain ⟨x799, qx799⟩ := qv797
  obtain rfl := Sum.inl.inj qx799
  exact q_iret dX4_asked_31 rfl (rfl) ⟨Or.inl ⟨_, rfl⟩, hok, rfl⟩
set_option maxRecDepth 20000 in
set_option maxHeartbeats 4000000 in
theorem sX4_told (Sc : q_S) (Γ : Nat → q_K) (n : Nat) {a0 many : Nat} (b0 : kGF Γ a0 many) (hm1 : 1 ≤ many) (hm4 : many ≤ 4) (a1 : Int32) (a2 : Int32) : q_safe Sc Γ mX4_told [.ref a0, .int (a1), .int (a2)] n 2 12 (q_XI (fun x => x < 2)) := by
  intro h hok
  show q_A Sc mX4_told 0 [.ref a0, .int (a1), .int (a2), .retAddr 0] [] h n 2 12 (fun O h' n' => (q_XI (fun x => x < 2)) O ∧ q_ok Γ h' ∧ n' = n)
  refine q_iload_n dX4_told_0 rfl ?_
  refine q_aload_n dX4_told_1 rfl ?_
  obtain ⟨pu800, qu800, ru800, gu800, au800, bu800, cu800, du800⟩ := id b0
  refine t_getr 0 kX4 (by decide) wPX4_20 dX4_told_2 hok gu800 rfl ?_
  refine t_alen dX4_told_5 hok au800 rfl ?_
  refine t_callS (M' := mX4_checkIndex) [.int (a1), .int (nI (ru800.length))] [] dX4_told_6 wPX4_34 wTX4_checkIndex wNX4 iX4_checkIndex oX4_checkIndex rfl hok (sX4_checkIndex Sc Γ n (a1) (nI (ru800.length))) (Nat.le_of_ble_eq_true rfl) (Nat.le_of_ble_eq_true rfl) (Nat.le_of_ble_eq_true rfl) (Nat.le_of_ble_eq_true rfl) (Nat.le_of_ble_eq_true rfl) rfl (fun v801 h qv801 hok => ?_) (fun e802 h qe802 hok => ?_)
  rotate_left
  · exact t_out rfl ⟨Or.inr ⟨_, rfl, by have h9 := q_RC0.x qe802; subst h9; decide⟩, hok, rfl⟩
  obtain ⟨rfl, c803a, c803b⟩ := q_RC0.v qv801
  obtain ⟨g804, hg804, rfl⟩ := q_chk (by omega) c803a c803b
  refine q_iload_n dX4_told_9 rfl ?_
  refine q_iconst (v := nI 0) dX4_told_10 rfl ?_
  refine q_iconst (v := nI 5) dX4_told_11 rfl ?_
  refine t_callS (M' := mX4_checkNumber) [.int (a2), .int (nI 0), .int (nI 5)] [] dX4_told_12 wPX4_38 wTX4_checkNumber wNX4 iX4_checkNumber oX4_checkNumber rfl hok (sX4_checkNumber Sc Γ n (a2) (nI 0) (nI 5)) (Nat.le_of_ble_eq_true rfl) (Nat.le_of_ble_eq_true rfl) (Nat.le_of_ble_eq_true rfl) (Nat.le_of_ble_eq_true rfl) (Nat.le_of_ble_eq_true rfl) rfl (fun v805 h qv805 hok => ?_) (fun e806 h qe806 hok => ?_)
  rotate_left
  · exact t_out rfl ⟨Or.inr ⟨_, rfl, by have h9 := q_RC1.x qe806; subst h9; decide⟩, hok, rfl⟩
  obtain ⟨rfl, c807a, c807b⟩ := q_RC1.v qv805
  refine q_aload_n dX4_told_15 rfl ?_
  refine t_getr 0 kX4 (by decide) wPX4_20 dX4_told_16 hok gu800 rfl ?_
  refine q_iload_n dX4_told_19 rfl ?_
  refine t_aald "GroupFilters$Link" dX4_told_20 hok au800 rfl (by rw [bu800]; exact vp_in_nI (by omega) (by omega)) (fun p808 hp808 => ?_)
  have kp808 := cu800 _ _ hp808
  refine q_astore_n dX4_told_21 (by decide) ?_
  refine q_iload_n dX4_told_22 rfl ?_
  rcases q_sw a2 0 5 (by decide) with hw809 | ⟨jw809, hw809, ew809⟩
  ·
    refine q_tableOut (tgt := 92) dX4_told_23 (by simpa using hw809) (by decide) ?_
    refine q_aload_n dX4_told_92 rfl ?_
    obtain ⟨pu810, qu810, ru810, su810, gu810, au810, bu810, cu810, du810, eu810, fu810⟩ := id kp808
    refine t_callV (M' := mX1_asks) [] [] kX1 dX4_told_93 wPX4_64v wIX1_asks wSX1_asks iX1_asks oX1_asks rfl hok gu810 (sX1_asks Sc Γ n kp808) (Nat.le_of_ble_eq_true rfl) (Nat.le_of_ble_eq_true rfl) (Nat.le_of_ble_eq_true rfl) (Nat.le_of_ble_eq_true rfl) (Nat.le_of_ble_eq_true rfl) rfl (fun v811 h qv811 hok => ?_) (fun e812 h qe812 hok => absurd qe812 (by intro q; obtain ⟨_, q, _⟩ := q; cases q))
    obtain ⟨x813, qx813, bx813⟩ := qv811
    obtain rfl := Sum.inl.inj qx813
    refine q_if_eq (tgt := 106) dX4_told_96 (by decide) (fun c814 => ?_) (fun c814 => ?_)
    ·
      refine q_iconst (v := nI 0) dX4_told_106 rfl ?_
      exact q_iret dX4_told_107 rfl (rfl) ⟨Or.inl ⟨_, rfl⟩, hok, rfl⟩
    ·
      refine q_aload_n dX4_told_99 rfl ?_
      refine t_geti 7 kX1 (by decide) wPX4_128 dX4_told_100 hok gu810 rfl (fun x815 => ?_)
      refine q_goto (tgt := 107) dX4_told_103 (by decide) ?_
      exact q_iret dX4_told_107 rfl (rfl) ⟨Or.inl ⟨_, rfl⟩, hok, rfl⟩
  ·
    rcases (show jw809 = 0 ∨ jw809 = 1 ∨ jw809 = 2 ∨ jw809 = 3 ∨ jw809 = 4 by omega) with rfl | rfl | rfl | rfl | rfl
    ·
      refine q_tableIn (off := 33) (tgt := 56) dX4_told_23 (by rw [ew809]; decide) (by rw [ew809]; decide) (by rw [ew809]; rfl) (by decide) ?_
      refine q_aload_n dX4_told_56 rfl ?_
      obtain ⟨pu816, qu816, ru816, su816, gu816, au816, bu816, cu816, du816, eu816, fu816⟩ := id kp808
      refine t_callV (M' := mX1_grace) [] [] kX1 dX4_told_57 wPX4_45v wIX1_grace wSX1_grace iX1_grace oX1_grace rfl hok gu816 (sX1_grace Sc Γ n kp808) (Nat.le_of_ble_eq_true rfl) (Nat.le_of_ble_eq_true rfl) (Nat.le_of_ble_eq_true rfl) (Nat.le_of_ble_eq_true rfl) (Nat.le_of_ble_eq_true rfl) rfl (fun v817 h qv817 hok => ?_) (fun e818 h qe818 hok => absurd qe818 (by intro q; obtain ⟨_, q⟩ := q; cases q))
      obtain ⟨x819, qx819⟩ := qv817
      obtain rfl := Sum.inl.inj qx819
      exact q_iret dX4_told_60 rfl (rfl) ⟨Or.inl ⟨_, rfl⟩, hok, rfl⟩
    ·
      refine q_tableIn (off := 38) (tgt := 61) dX4_told_23 (by rw [ew809]; decide) (by rw [ew809]; decide) (by rw [ew809]; rfl) (by decide) ?_
      refine q_aload_n dX4_told_61 rfl ?_
      obtain ⟨pu820, qu820, ru820, su820, gu820, au820, bu820, cu820, du820, eu820, fu820⟩ := id kp808
      refine t_callV (M' := mX1_last) [] [] kX1 dX4_told_62 wPX4_122v wIX1_last wSX1_last iX1_last oX1_last rfl hok gu820 (sX1_last Sc Γ n kp808) (Nat.le_of_ble_eq_true rfl) (Nat.le_of_ble_eq_true rfl) (Nat.le_of_ble_eq_true rfl) (Nat.le_of_ble_eq_true rfl) (Nat.le_of_ble_eq_true rfl) rfl (fun v821 h qv821 hok => ?_) (fun e822 h qe822 hok => absurd qe822 (by intro q; obtain ⟨_, q⟩ := q; cases q))
      obtain ⟨x823, qx823⟩ := qv821
      obtain rfl := Sum.inl.inj qx823
      exact q_iret dX4_told_65 rfl (rfl) ⟨Or.inl ⟨_, rfl⟩, hok, rfl⟩
    ·
      refine q_tableIn (off := 43) (tgt := 66) dX4_told_23 (by rw [ew809]; decide) (by rw [ew809]; decide) (by rw [ew809]; rfl) (by decide) ?_
      refine q_aload_n dX4_told_66 rfl ?_
      obtain ⟨pu824, qu824, ru824, su824, gu824, au824, bu824, cu824, du824, eu824, fu824⟩ := id kp808
      refine t_geti 6 kX1 (by decide) wPX4_125 dX4_told_67 hok gu824 rfl (fun x825 => ?_)
      exact q_iret dX4_told_70 rfl (rfl) ⟨Or.inl ⟨_, rfl⟩, hok, rfl⟩
    ·
      refine q_tableIn (off := 48) (tgt := 71) dX4_told_23 (by rw [ew809]; decide) (by rw [ew809]; decide) (by rw [ew809]; rfl) (by decide) ?_
      refine q_aload_n dX4_told_71 rfl ?_
      obtain ⟨pu826, qu826, ru826, su826, gu826, au826, bu826, cu826, du826, eu826, fu826⟩ := id kp808
      refine t_callV (M' := mX1_asks) [] [] kX1 dX4_told_72 wPX4_64v wIX1_asks wSX1_asks iX1_asks oX1_asks rfl hok gu826 (sX1_asks Sc Γ n kp808) (Nat.le_of_ble_eq_true rfl) (Nat.le_of_ble_eq_true rfl) (Nat.le_of_ble_eq_true rfl) (Nat.le_of_ble_eq_true rfl) (Nat.le_of_ble_eq_true rfl) rfl (fun v827 h qv827 hok => ?_) (fun e828 h qe828 hok => absurd qe828 (by intro q; obtain ⟨_, q, _⟩ := q; cases q))
      obtain ⟨x829, qx829, bx829⟩ := qv827
      obtain rfl := Sum.inl.inj qx829
      refine q_if_eq (tgt := 82) dX4_told_75 (by decide) (fun c830 => ?_) (fun c830 => ?_)
      ·
        refine q_aload_n dX4_told_82 rfl ?_
        refine t_geti 7 kX1 (by decide) wPX4_128 dX4_told_83 hok gu826 rfl (fun x831 => ?_)
        exact q_iret dX4_told_86 rfl (rfl) ⟨Or.inl ⟨_, rfl⟩, hok, rfl⟩
      ·
        refine q_iconst (v := nI 0) dX4_told_78 rfl ?_
        refine q_goto (tgt := 86) dX4_told_79 (by decide) ?_
        exact q_iret dX4_told_86 rfl (rfl) ⟨Or.inl ⟨_, rfl⟩, hok, rfl⟩
    ·
      refine q_tableIn (off := 64) (tgt := 87) dX4_told_23 (by rw [ew809]; decide) (by rw [ew809]; decide) (by rw [ew809]; rfl) (by decide) ?_
      refine q_aload_n dX4_told_87 rfl ?_
      obtain ⟨pu832, qu832, ru832, su832, gu832, au832, bu832, cu832, du832, eu832, fu832⟩ := id kp808
      refine t_callV (M' := mX1_records) [] [] kX1 dX4_told_88 wPX4_131v wIX1_records wSX1_records iX1_records oX1_records rfl hok gu832 (sX1_records Sc Γ n kp808) (Nat.le_of_ble_eq_true rfl) (Nat.le_of_ble_eq_true rfl) (Nat.le_of_ble_eq_true rfl) (Nat.le_of_ble_eq_true rfl) (Nat.le_of_ble_eq_true rfl) rfl (fun v833 h qv833 hok => ?_) (fun e834 h qe834 hok => absurd qe834 (by intro q; obtain ⟨_, q⟩ := q; cases q))
      obtain ⟨x835, qx835⟩ := qv833
      obtain rfl := Sum.inl.inj qx835
      exact q_iret dX4_told_91 rfl (rfl) ⟨Or.inl ⟨_, rfl⟩, hok, rfl⟩
set_option maxRecDepth 20000 in
set_option maxHeartbeats 4000000 in
theorem sX4_sent (Sc : q_S) (Γ : Nat → q_K) (n : Nat) {a0 many : Nat} (b0 : kGF Γ a0 many) (hm1 : 1 ≤ many) (hm4 : many ≤ 4) : q_safe Sc Γ mX4_sent [.ref a0] n 0 0 (q_RI) := by
  intro h hok
  show q_A Sc mX4_sent 0 [.ref a0] [] h n 0 0 (fun O h' n' => (q_RI) O ∧ q_ok Γ h' ∧ n' = n)
  refine q_aload_n dX4_sent_0 rfl ?_
  obtain ⟨pu836, qu836, ru836, gu836, au836, bu836, cu836, du836⟩ := id b0
  refine t_getr 1 kX4 (by decide) wPX4_30 dX4_sent_1 hok gu836 rfl ?_
  obtain ⟨pu837, qu837, ru837, su837, gu837, au837, bu837, cu837, du837⟩ := id du836
  refine t_geti 4 kX3 (by decide) wPX4_50 dX4_sent_4 hok gu837 rfl (fun x838 => ?_)
  exact q_iret dX4_sent_7 rfl (rfl) ⟨⟨_, rfl⟩, hok, rfl⟩
set_option maxRecDepth 20000 in
set_option maxHeartbeats 4000000 in
theorem sX4_clear (Sc : q_S) (Γ : Nat → q_K) (n : Nat) {a0 many : Nat} (b0 : kGF Γ a0 many) (hm1 : 1 ≤ many) (hm4 : many ≤ 4) : q_safe Sc Γ mX4_clear [.ref a0] n 0 0 (q_RV) := by
  intro h hok
  show q_A Sc mX4_clear 0 [.ref a0, .retAddr 0] [] h n 0 0 (fun O h' n' => (q_RV) O ∧ q_ok Γ h' ∧ n' = n)
  refine q_iconst (v := nI 0) dX4_clear_0 rfl ?_
  refine t_istore [.ref a0, .int (nI 0)] (Or.inl ⟨1, rfl, rfl, dX4_clear_1⟩) (by decide) rfl ?_
  obtain ⟨pu839, qu839, ru839, gu839, au839, bu839, cu839, du839⟩ := id b0
  have hl840 : ∀ (d842 k841 : Nat) (h : q_H), k841 + d842 = ru839.length → q_ok Γ h → q_A Sc mX4_clear 2 [.ref a0, .int (nI k841)] [] h n 0 0 (fun O h' n' => (q_RV) O ∧ q_ok Γ h' ∧ n' = n) := by
    intro d842
    induction d842 with
    | zero =>
      intro k841  h el840 hok
      refine q_iload_n dX4_clear_2 rfl ?_
      refine q_aload_n dX4_clear_3 rfl ?_
      refine t_getr 0 kX4 (by decide) wPX4_20 dX4_clear_4 hok gu839 rfl ?_
      refine t_alen dX4_clear_7 hok au839 rfl ?_
      refine t_icmp_ge_n (tgt := 26) (by omega) (by omega) dX4_clear_8 (by decide) (fun c843 => ?_) (fun c843 => ?_)
      rotate_left
      · exact absurd c843 (by omega)
      refine q_aload_n dX4_clear_26 rfl ?_
      refine t_getr 1 kX4 (by decide) wPX4_30 dX4_clear_27 hok gu839 rfl ?_
      obtain ⟨pu844, qu844, ru844, su844, gu844, au844, bu844, cu844, du844⟩ := id du839
      refine t_callV (M' := mX3_reset) [] [] kX3 dX4_clear_30 wPX4_137v wIX3_reset wSX3_reset iX3_reset oX3_reset rfl hok gu844 (sX3_reset Sc Γ n du839) (Nat.le_of_ble_eq_true rfl) (Nat.le_of_ble_eq_true rfl) (Nat.le_of_ble_eq_true rfl) (Nat.le_of_ble_eq_true rfl) (Nat.le_of_ble_eq_true rfl) rfl (fun v845 h qv845 hok => ?_) (fun e846 h qe846 hok => absurd qe846 (by intro q; cases q))
      obtain rfl := Sum.inl.inj qv845
      exact q_vret dX4_clear_33 rfl ⟨rfl, hok, rfl⟩
    | succ d842 ihl840 =>
      intro k841  h el840 hok
      refine q_iload_n dX4_clear_2 rfl ?_
      refine q_aload_n dX4_clear_3 rfl ?_
      refine t_getr 0 kX4 (by decide) wPX4_20 dX4_clear_4 hok gu839 rfl ?_
      refine t_alen dX4_clear_7 hok au839 rfl ?_
      refine t_icmp_ge_n (tgt := 26) (by omega) (by omega) dX4_clear_8 (by decide) (fun c847 => ?_) (fun c847 => ?_)
      · exact absurd c847 (by omega)
      refine q_aload_n dX4_clear_11 rfl ?_
      refine t_getr 0 kX4 (by decide) wPX4_20 dX4_clear_12 hok gu839 rfl ?_
      refine q_iload_n dX4_clear_15 rfl ?_
      refine t_aald "GroupFilters$Link" dX4_clear_16 hok au839 rfl (by rw [bu839]; exact vp_in_nI (by omega) (by omega)) (fun p848 hp848 => ?_)
      have kp848 := cu839 _ _ hp848
      obtain ⟨pu849, qu849, ru849, su849, gu849, au849, bu849, cu849, du849, eu849, fu849⟩ := id kp848
      refine t_callV (M' := mX1_reset) [] [] kX1 dX4_clear_17 wPX4_134v wIX1_reset wSX1_reset iX1_reset oX1_reset rfl hok gu849 (sX1_reset Sc Γ n kp848) (Nat.le_of_ble_eq_true rfl) (Nat.le_of_ble_eq_true rfl) (Nat.le_of_ble_eq_true rfl) (Nat.le_of_ble_eq_true rfl) (Nat.le_of_ble_eq_true rfl) rfl (fun v850 h qv850 hok => ?_) (fun e851 h qe851 hok => absurd qe851 (by intro q; cases q))
      obtain rfl := Sum.inl.inj qv850
      refine t_iinc_n [.ref a0, .int (nI (k841 + 1))] dX4_clear_20 rfl (by decide) rfl ?_
      refine q_goto (tgt := 2) dX4_clear_23 (by decide) ?_
      exact ihl840 (k841 + 1)  h (by omega) hok
  exact hl840 (ru839.length) 0  h (by omega) hok
