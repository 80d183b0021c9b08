set_option maxRecDepth 20000 in
set_option maxHeartbeats 4000000 in
theorem sX4_settings (Sc : q_S) (Γ : Nat → q_K) (n : Nat) {a0 many : Nat} (b0 : kGF Γ a0 many) (hm1 : 1 ≤ many) (hm4 : many ≤ 4) (a1 : Int32) (a2 : Int32) (a3 : Int32) (a4 : Int32) : q_safe Sc Γ mX4_settings [.ref a0, .int (a1), .int (a2), .int (a3), .int (a4)] n 4 24 (q_XI (fun x => x < 2)) := by
  intro h hok
  show q_A Sc mX4_settings 0 [.ref a0, .int (a1), .int (a2), .int (a3), .int (a4)] [] h n 4 24 (fun O h' n' => (q_XI (fun x => x < 2)) O ∧ q_ok Γ h' ∧ n' = n)
  refine q_iload_n dX4_settings_0 rfl ?_
  refine q_aload_n dX4_settings_1 rfl ?_
  obtain ⟨pu427, qu427, ru427, gu427, au427, bu427, cu427, du427⟩ := id b0
  refine t_getr 0 kX4 (by decide) wPX4_20 dX4_settings_2 hok gu427 rfl ?_
  refine t_alen dX4_settings_5 hok au427 rfl ?_
  refine t_callS (M' := mX4_checkIndex) [.int (a1), .int (nI (ru427.length))] [] dX4_settings_6 wPX4_34 wTX4_checkIndex wNX4 iX4_checkIndex oX4_checkIndex rfl hok (sX4_checkIndex Sc Γ n (a1) (nI (ru427.length))) (Nat.le_of_ble_eq_true rfl) (Nat.le_of_ble_eq_true rfl) (Nat.le_of_ble_eq_true rfl) (Nat.le_of_ble_eq_true rfl) (Nat.le_of_ble_eq_true rfl) rfl (fun v428 h qv428 hok => ?_) (fun e429 h qe429 hok => ?_)
  rotate_left
  · exact t_out rfl ⟨Or.inr ⟨_, rfl, by have h9 := q_RC0.x qe429; subst h9; decide⟩, hok, rfl⟩
  obtain ⟨rfl, c430a, c430b⟩ := q_RC0.v qv428
  obtain ⟨g431, hg431, rfl⟩ := q_chk (by omega) c430a c430b
  refine q_iload_n dX4_settings_9 rfl ?_
  refine q_iconst (v := nI 1) dX4_settings_10 rfl ?_
  refine q_bipush (v := nI 7) dX4_settings_11 rfl ?_
  refine t_callS (M' := mX4_checkNumber) [.int (a2), .int (nI 1), .int (nI 7)] [] dX4_settings_13 wPX4_38 wTX4_checkNumber wNX4 iX4_checkNumber oX4_checkNumber rfl hok (sX4_checkNumber Sc Γ n (a2) (nI 1) (nI 7)) (Nat.le_of_ble_eq_true rfl) (Nat.le_of_ble_eq_true rfl) (Nat.le_of_ble_eq_true rfl) (Nat.le_of_ble_eq_true rfl) (Nat.le_of_ble_eq_true rfl) rfl (fun v432 h qv432 hok => ?_) (fun e433 h qe433 hok => ?_)
  rotate_left
  · exact t_out rfl ⟨Or.inr ⟨_, rfl, by have h9 := q_RC1.x qe433; subst h9; decide⟩, hok, rfl⟩
  obtain ⟨rfl, c434a, c434b⟩ := q_RC1.v qv432
  refine q_iload_n dX4_settings_16 rfl ?_
  refine q_iconst (v := nI 1) dX4_settings_17 rfl ?_
  refine q_sipush (v := nI 200) dX4_settings_18 rfl ?_
  refine t_callS (M' := mX4_checkNumber) [.int (a3), .int (nI 1), .int (nI 200)] [] dX4_settings_21 wPX4_38 wTX4_checkNumber wNX4 iX4_checkNumber oX4_checkNumber rfl hok (sX4_checkNumber Sc Γ n (a3) (nI 1) (nI 200)) (Nat.le_of_ble_eq_true rfl) (Nat.le_of_ble_eq_true rfl) (Nat.le_of_ble_eq_true rfl) (Nat.le_of_ble_eq_true rfl) (Nat.le_of_ble_eq_true rfl) rfl (fun v435 h qv435 hok => ?_) (fun e436 h qe436 hok => ?_)
  rotate_left
  · exact t_out rfl ⟨Or.inr ⟨_, rfl, by have h9 := q_RC1.x qe436; subst h9; decide⟩, hok, rfl⟩
  obtain ⟨rfl, c437a, c437b⟩ := q_RC1.v qv435
  refine q_iload dX4_settings_24 rfl ?_
  refine q_iconst (v := nI 1) dX4_settings_26 rfl ?_
  refine q_iload_n dX4_settings_27 rfl ?_
  refine t_callS (M' := mX4_checkNumber) [.int (a4), .int (nI 1), .int (a3)] [] dX4_settings_28 wPX4_38 wTX4_checkNumber wNX4 iX4_checkNumber oX4_checkNumber rfl hok (sX4_checkNumber Sc Γ n (a4) (nI 1) (a3)) (Nat.le_of_ble_eq_true rfl) (Nat.le_of_ble_eq_true rfl) (Nat.le_of_ble_eq_true rfl) (Nat.le_of_ble_eq_true rfl) (Nat.le_of_ble_eq_true rfl) rfl (fun v438 h qv438 hok => ?_) (fun e439 h qe439 hok => ?_)
  rotate_left
  · exact t_out rfl ⟨Or.inr ⟨_, rfl, by have h9 := q_RC1.x qe439; subst h9; decide⟩, hok, rfl⟩
  obtain ⟨rfl, c440a, c440b⟩ := q_RC1.v qv438
  refine q_aload_n dX4_settings_31 rfl ?_
  refine t_getr 0 kX4 (by decide) wPX4_20 dX4_settings_32 hok gu427 rfl ?_
  refine q_iload_n dX4_settings_35 rfl ?_
  refine t_aald "GroupFilters$Link" dX4_settings_36 hok au427 rfl (by rw [bu427]; exact vp_in_nI (by omega) (by omega)) (fun p441 hp441 => ?_)
  have kp441 := cu427 _ _ hp441
  refine q_iload_n dX4_settings_37 rfl ?_
  refine q_iload_n dX4_settings_38 rfl ?_
  refine q_iload dX4_settings_39 rfl ?_
  obtain ⟨pu442, qu442, ru442, su442, gu442, au442, bu442, cu442, du442, eu442, fu442⟩ := id kp441
  refine t_callV (M' := mX1_set) [.int (a2), .int (a3), .int (a4)] [] kX1 dX4_settings_41 wPX4_42v wIX1_set wSX1_set iX1_set oX1_set rfl hok gu442 (sX1_set Sc Γ n kp441 (a2) (a3) (a4)) (Nat.le_of_ble_eq_true rfl) (Nat.le_of_ble_eq_true rfl) (Nat.le_of_ble_eq_true rfl) (Nat.le_of_ble_eq_true rfl) (Nat.le_of_ble_eq_true rfl) rfl (fun v443 h qv443 hok => ?_) (fun e444 h qe444 hok => absurd qe444 (by intro q; cases q))
  obtain rfl := Sum.inl.inj qv443
  refine q_aload_n dX4_settings_44 rfl ?_
  refine t_getr 0 kX4 (by decide) wPX4_20 dX4_settings_45 hok gu427 rfl ?_
  refine q_iload_n dX4_settings_48 rfl ?_
  refine t_aald "GroupFilters$Link" dX4_settings_49 hok au427 rfl (by rw [bu427]; exact vp_in_nI (by omega) (by omega)) (fun p445 hp445 => ?_)
  have kp445 := cu427 _ _ hp445
  obtain ⟨pu446, qu446, ru446, su446, gu446, au446, bu446, cu446, du446, eu446, fu446⟩ := id kp445
  refine t_callV (M' := mX1_grace) [] [] kX1 dX4_settings_50 wPX4_45v wIX1_grace wSX1_grace iX1_grace oX1_grace rfl hok gu446 (sX1_grace Sc Γ n kp445) (Nat.le_of_ble_eq_true rfl) (Nat.le_of_ble_eq_true rfl) (Nat.le_of_ble_eq_true rfl) (Nat.le_of_ble_eq_true rfl) (Nat.le_of_ble_eq_true rfl) rfl (fun v447 h qv447 hok => ?_) (fun e448 h qe448 hok => absurd qe448 (by intro q; obtain ⟨_, q⟩ := q; cases q))
  obtain ⟨x449, qx449⟩ := qv447
  obtain rfl := Sum.inl.inj qx449
  exact q_iret dX4_settings_53 rfl (rfl) ⟨Or.inl ⟨_, rfl⟩, hok, rfl⟩
set_option maxRecDepth 20000 in
set_option maxHeartbeats 4000000 in
theorem sX4_report (Sc : q_S) (Γ : Nat → q_K) (n : Nat) {a0 many : Nat} (b0 : kGF Γ a0 many) (hm1 : 1 ≤ many) (hm4 : many ≤ 4) (a1 : Int32) (a2 : Int32) (a3 : Int32) (a4 : Int32) : q_safe Sc Γ mX4_report [.ref a0, .int (a1), .int (a2), .int (a3), .int (a4)] n 4 24 (q_XI (fun x => x < 2)) := by
  intro h hok
  show q_A Sc mX4_report 0 [.ref a0, .int (a1), .int (a2), .int (a3), .int (a4), .retAddr 0] [] h n 4 24 (fun O h' n' => (q_XI (fun x => x < 2)) O ∧ q_ok Γ h' ∧ n' = n)
  refine q_iload_n dX4_report_0 rfl ?_
  refine q_aload_n dX4_report_1 rfl ?_
  obtain ⟨pu450, qu450, ru450, gu450, au450, bu450, cu450, du450⟩ := id b0
  refine t_getr 0 kX4 (by decide) wPX4_20 dX4_report_2 hok gu450 rfl ?_
  refine t_alen dX4_report_5 hok au450 rfl ?_
  refine t_callS (M' := mX4_checkIndex) [.int (a1), .int (nI (ru450.length))] [] dX4_report_6 wPX4_34 wTX4_checkIndex wNX4 iX4_checkIndex oX4_checkIndex rfl hok (sX4_checkIndex Sc Γ n (a1) (nI (ru450.length))) (Nat.le_of_ble_eq_true rfl) (Nat.le_of_ble_eq_true rfl) (Nat.le_of_ble_eq_true rfl) (Nat.le_of_ble_eq_true rfl) (Nat.le_of_ble_eq_true rfl) rfl (fun v451 h qv451 hok => ?_) (fun e452 h qe452 hok => ?_)
  rotate_left
  · exact t_out rfl ⟨Or.inr ⟨_, rfl, by have h9 := q_RC0.x qe452; subst h9; decide⟩, hok, rfl⟩
  obtain ⟨rfl, c453a, c453b⟩ := q_RC0.v qv451
  obtain ⟨g454, hg454, rfl⟩ := q_chk (by omega) c453a c453b
  refine q_iload_n dX4_report_9 rfl ?_
  refine q_bipush (v := nI 8) dX4_report_10 rfl ?_
  refine t_callS (M' := mX4_checkIndex) [.int (a2), .int (nI 8)] [] dX4_report_12 wPX4_34 wTX4_checkIndex wNX4 iX4_checkIndex oX4_checkIndex rfl hok (sX4_checkIndex Sc Γ n (a2) (nI 8)) (Nat.le_of_ble_eq_true rfl) (Nat.le_of_ble_eq_true rfl) (Nat.le_of_ble_eq_true rfl) (Nat.le_of_ble_eq_true rfl) (Nat.le_of_ble_eq_true rfl) rfl (fun v455 h qv455 hok => ?_) (fun e456 h qe456 hok => ?_)
  rotate_left
  · exact t_out rfl ⟨Or.inr ⟨_, rfl, by have h9 := q_RC0.x qe456; subst h9; decide⟩, hok, rfl⟩
  obtain ⟨rfl, c457a, c457b⟩ := q_RC0.v qv455
  obtain ⟨g458, hg458, rfl⟩ := q_chk (by omega) c457a c457b
  refine q_iload_n dX4_report_15 rfl ?_
  refine q_iconst (v := nI 0) dX4_report_16 rfl ?_
  refine q_iconst (v := nI 5) dX4_report_17 rfl ?_
  refine t_callS (M' := mX4_checkNumber) [.int (a3), .int (nI 0), .int (nI 5)] [] dX4_report_18 wPX4_38 wTX4_checkNumber wNX4 iX4_checkNumber oX4_checkNumber rfl hok (sX4_checkNumber Sc Γ n (a3) (nI 0) (nI 5)) (Nat.le_of_ble_eq_true rfl) (Nat.le_of_ble_eq_true rfl) (Nat.le_of_ble_eq_true rfl) (Nat.le_of_ble_eq_true rfl) (Nat.le_of_ble_eq_true rfl) rfl (fun v459 h qv459 hok => ?_) (fun e460 h qe460 hok => ?_)
  rotate_left
  · exact t_out rfl ⟨Or.inr ⟨_, rfl, by have h9 := q_RC1.x qe460; subst h9; decide⟩, hok, rfl⟩
  obtain ⟨rfl, c461a, c461b⟩ := q_RC1.v qv459
  refine q_iload dX4_report_21 rfl ?_
  refine q_iconst (v := nI 0) dX4_report_23 rfl ?_
  refine q_ldc dX4_report_24 wPX4_49 ?_
  refine t_callS (M' := mX4_checkNumber) [.int (a4), .int (nI 0), .int (65535)] [] dX4_report_26 wPX4_38 wTX4_checkNumber wNX4 iX4_checkNumber oX4_checkNumber rfl hok (sX4_checkNumber Sc Γ n (a4) (nI 0) (65535)) (Nat.le_of_ble_eq_true rfl) (Nat.le_of_ble_eq_true rfl) (Nat.le_of_ble_eq_true rfl) (Nat.le_of_ble_eq_true rfl) (Nat.le_of_ble_eq_true rfl) rfl (fun v462 h qv462 hok => ?_) (fun e463 h qe463 hok => ?_)
  rotate_left
  · exact t_out rfl ⟨Or.inr ⟨_, rfl, by have h9 := q_RC1.x qe463; subst h9; decide⟩, hok, rfl⟩
  obtain ⟨rfl, c464a, c464b⟩ := q_RC1.v qv462
  refine q_aload_n dX4_report_29 rfl ?_
  refine t_getr 1 kX4 (by decide) wPX4_30 dX4_report_30 hok gu450 rfl ?_
  obtain ⟨pu465, qu465, ru465, su465, gu465, au465, bu465, cu465, du465⟩ := id du450
  refine t_geti 4 kX3 (by decide) wPX4_50 dX4_report_33 hok gu465 rfl (fun x466 => ?_)
  refine t_istore [.ref a0, .int (nI g454), .int (nI g458), .int (a3), .int (a4), .int (x466)] (Or.inr ⟨rfl, dX4_report_36⟩) (by decide) rfl ?_
  refine q_aload_n dX4_report_38 rfl ?_
  refine t_getr 0 kX4 (by decide) wPX4_20 dX4_report_39 hok gu450 rfl ?_
  refine q_iload_n dX4_report_42 rfl ?_
  refine t_aald "GroupFilters$Link" dX4_report_43 hok au450 rfl (by rw [bu450]; exact vp_in_nI (by omega) (by omega)) (fun p467 hp467 => ?_)
  have kp467 := cu450 _ _ hp467
  refine q_aload_n dX4_report_44 rfl ?_
  refine t_getr 1 kX4 (by decide) wPX4_30 dX4_report_45 hok gu450 rfl ?_
  refine q_iload_n dX4_report_48 rfl ?_
  refine q_iload_n dX4_report_49 rfl ?_
  refine q_iload dX4_report_50 rfl ?_
  obtain ⟨pu468, qu468, ru468, su468, gu468, au468, bu468, cu468, du468, eu468, fu468⟩ := id kp467
  refine t_callV (M' := mX1_hearReport) [.ref qu450, .int (nI g458), .int (a3), .int (a4)] [] kX1 dX4_report_52 wPX4_54v wIX1_hearReport wSX1_hearReport iX1_hearReport oX1_hearReport rfl hok gu468 (sX1_hearReport Sc Γ n kp467 du450 (g458) (by omega) (a3) (a4)) (Nat.le_of_ble_eq_true rfl) (Nat.le_of_ble_eq_true rfl) (Nat.le_of_ble_eq_true rfl) (Nat.le_of_ble_eq_true rfl) (Nat.le_of_ble_eq_true rfl) rfl (fun v469 h qv469 hok => ?_) (fun e470 h qe470 hok => absurd qe470 (by intro q; cases q))
  obtain rfl := Sum.inl.inj qv469
  refine q_aload_n dX4_report_55 rfl ?_
  refine t_getr 1 kX4 (by decide) wPX4_30 dX4_report_56 hok gu450 rfl ?_
  obtain ⟨pu471, qu471, ru471, su471, gu471, au471, bu471, cu471, du471⟩ := id du450
  refine t_geti 4 kX3 (by decide) wPX4_50 dX4_report_59 hok gu471 rfl (fun x472 => ?_)
  refine q_iload dX4_report_62 rfl ?_
  refine q_isub dX4_report_64 ?_
  generalize (x472) - (x466) = z473
  exact q_iret dX4_report_65 rfl (rfl) ⟨Or.inl ⟨_, rfl⟩, hok, rfl⟩
set_option maxRecDepth 20000 in
set_option maxHeartbeats 4000000 in
theorem sX4_query (Sc : q_S) (Γ : Nat → q_K) (n : Nat) {a0 many : Nat} (b0 : kGF Γ a0 many) (hm1 : 1 ≤ many) (hm4 : many ≤ 4) (a1 : Int32) (a2 : Int32) (a3 : Int32) (a4 : Int32) (a5 : Int32) (b5 : q_bl a5) : q_safe Sc Γ mX4_query [.ref a0, .int (a1), .int (a2), .int (a3), .int (a4), .int (a5)] n 4 24 (q_XB (fun x => x < 2)) := by
  intro h hok
  show q_A Sc mX4_query 0 [.ref a0, .int (a1), .int (a2), .int (a3), .int (a4), .int (a5)] [] h n 4 24 (fun O h' n' => (q_XB (fun x => x < 2)) O ∧ q_ok Γ h' ∧ n' = n)
  refine q_iload_n dX4_query_0 rfl ?_
  refine q_aload_n dX4_query_1 rfl ?_
  obtain ⟨pu474, qu474, ru474, gu474, au474, bu474, cu474, du474⟩ := id b0
  refine t_getr 0 kX4 (by decide) wPX4_20 dX4_query_2 hok gu474 rfl ?_
  refine t_alen dX4_query_5 hok au474 rfl ?_
  refine t_callS (M' := mX4_checkIndex) [.int (a1), .int (nI (ru474.length))] [] dX4_query_6 wPX4_34 wTX4_checkIndex wNX4 iX4_checkIndex oX4_checkIndex rfl hok (sX4_checkIndex Sc Γ n (a1) (nI (ru474.length))) (Nat.le_of_ble_eq_true rfl) (Nat.le_of_ble_eq_true rfl) (Nat.le_of_ble_eq_true rfl) (Nat.le_of_ble_eq_true rfl) (Nat.le_of_ble_eq_true rfl) rfl (fun v475 h qv475 hok => ?_) (fun e476 h qe476 hok => ?_)
  rotate_left
  · exact t_out rfl ⟨Or.inr ⟨_, rfl, by have h9 := q_RC0.x qe476; subst h9; decide⟩, hok, rfl⟩
  obtain ⟨rfl, c477a, c477b⟩ := q_RC0.v qv475
  obtain ⟨g478, hg478, rfl⟩ := q_chk (by omega) c477a c477b
  refine q_iload_n dX4_query_9 rfl ?_
  refine q_iconst (v := nI 0) dX4_query_10 rfl ?_
  refine q_sipush (v := nI 999) dX4_query_11 rfl ?_
  refine t_callS (M' := mX4_checkNumber) [.int (a2), .int (nI 0), .int (nI 999)] [] dX4_query_14 wPX4_38 wTX4_checkNumber wNX4 iX4_checkNumber oX4_checkNumber rfl hok (sX4_checkNumber Sc Γ n (a2) (nI 0) (nI 999)) (Nat.le_of_ble_eq_true rfl) (Nat.le_of_ble_eq_true rfl) (Nat.le_of_ble_eq_true rfl) (Nat.le_of_ble_eq_true rfl) (Nat.le_of_ble_eq_true rfl) rfl (fun v479 h qv479 hok => ?_) (fun e480 h qe480 hok => ?_)
  rotate_left
  · exact t_out rfl ⟨Or.inr ⟨_, rfl, by have h9 := q_RC1.x qe480; subst h9; decide⟩, hok, rfl⟩
  obtain ⟨rfl, c481a, c481b⟩ := q_RC1.v qv479
  refine q_iload_n dX4_query_17 rfl ?_
  refine q_iconst (v := -1) dX4_query_18 rfl ?_
  refine q_icmp_eq (tgt := 28) dX4_query_19 (by decide) (fun c482 => ?_) (fun c482 => ?_)
  ·
    refine q_iload dX4_query_28 rfl ?_
    refine q_iconst (v := nI 0) dX4_query_30 rfl ?_
    refine q_ldc dX4_query_31 wPX4_49 ?_
    refine t_callS (M' := mX4_checkNumber) [.int (a4), .int (nI 0), .int (65535)] [] dX4_query_33 wPX4_38 wTX4_checkNumber wNX4 iX4_checkNumber oX4_checkNumber rfl hok (sX4_checkNumber Sc Γ n (a4) (nI 0) (65535)) (Nat.le_of_ble_eq_true rfl) (Nat.le_of_ble_eq_true rfl) (Nat.le_of_ble_eq_true rfl) (Nat.le_of_ble_eq_true rfl) (Nat.le_of_ble_eq_true rfl) rfl (fun v483 h qv483 hok => ?_) (fun e484 h qe484 hok => ?_)
    rotate_left
    · exact t_out rfl ⟨Or.inr ⟨_, rfl, by have h9 := q_RC1.x qe484; subst h9; decide⟩, hok, rfl⟩
    obtain ⟨rfl, c485a, c485b⟩ := q_RC1.v qv483
    refine q_iload_n dX4_query_36 rfl ?_
    refine q_sipush (v := nI 500) dX4_query_37 rfl ?_
    refine q_icmp_ge (tgt := 75) dX4_query_40 (by decide) (fun c486 => ?_) (fun c486 => ?_)
    ·
      refine q_aload_n dX4_query_75 rfl ?_
      refine t_getr 0 kX4 (by decide) wPX4_20 dX4_query_76 hok gu474 rfl ?_
      refine q_iload_n dX4_query_79 rfl ?_
      refine t_aald "GroupFilters$Link" dX4_query_80 hok au474 rfl (by rw [bu474]; exact vp_in_nI (by omega) (by omega)) (fun p487 hp487 => ?_)
      have kp487 := cu474 _ _ hp487
      obtain ⟨pu488, qu488, ru488, su488, gu488, au488, bu488, cu488, du488, eu488, fu488⟩ := id kp487
      refine t_callV (M' := mX1_asks) [] [] kX1 dX4_query_81 wPX4_64v wIX1_asks wSX1_asks iX1_asks oX1_asks rfl hok gu488 (sX1_asks Sc Γ n kp487) (Nat.le_of_ble_eq_true rfl) (Nat.le_of_ble_eq_true rfl) (Nat.le_of_ble_eq_true rfl) (Nat.le_of_ble_eq_true rfl) (Nat.le_of_ble_eq_true rfl) rfl (fun v489 h qv489 hok => ?_) (fun e490 h qe490 hok => absurd qe490 (by intro q; obtain ⟨_, q, _⟩ := q; cases q))
      obtain ⟨x491, qx491, bx491⟩ := qv489
      obtain rfl := Sum.inl.inj qx491
      exact q_iret dX4_query_84 rfl (q_bl.nar bx491) ⟨Or.inl ⟨_, rfl, bx491⟩, hok, rfl⟩
    ·
      refine q_aload_n dX4_query_43 rfl ?_
      refine t_getr 0 kX4 (by decide) wPX4_20 dX4_query_44 hok gu474 rfl ?_
      refine q_iload_n dX4_query_47 rfl ?_
      refine t_aald "GroupFilters$Link" dX4_query_48 hok au474 rfl (by rw [bu474]; exact vp_in_nI (by omega) (by omega)) (fun p492 hp492 => ?_)
      have kp492 := cu474 _ _ hp492
      refine q_iload_n dX4_query_49 rfl ?_
      obtain ⟨pu493, qu493, ru493, su493, gu493, au493, bu493, cu493, du493, eu493, fu493⟩ := id kp492
      refine t_callV (M' := mX1_yieldTo) [.int (a2)] [] kX1 dX4_query_50 wPX4_58v wIX1_yieldTo wSX1_yieldTo iX1_yieldTo oX1_yieldTo rfl hok gu493 (sX1_yieldTo Sc Γ n kp492 (a2)) (Nat.le_of_ble_eq_true rfl) (Nat.le_of_ble_eq_true rfl) (Nat.le_of_ble_eq_true rfl) (Nat.le_of_ble_eq_true rfl) (Nat.le_of_ble_eq_true rfl) rfl (fun v494 h qv494 hok => ?_) (fun e495 h qe495 hok => absurd qe495 (by intro q; cases q))
      obtain rfl := Sum.inl.inj qv494
      refine q_iload_n dX4_query_53 rfl ?_
      refine q_iconst (v := -1) dX4_query_54 rfl ?_
      refine q_icmp_eq (tgt := 75) dX4_query_55 (by decide) (fun c496 => ?_) (fun c496 => ?_)
      rotate_left
      · exact absurd c482 c496
      refine q_aload_n dX4_query_75 rfl ?_
      refine t_getr 0 kX4 (by decide) wPX4_20 dX4_query_76 hok gu474 rfl ?_
      refine q_iload_n dX4_query_79 rfl ?_
      refine t_aald "GroupFilters$Link" dX4_query_80 hok au474 rfl (by rw [bu474]; exact vp_in_nI (by omega) (by omega)) (fun p497 hp497 => ?_)
      have kp497 := cu474 _ _ hp497
      obtain ⟨pu498, qu498, ru498, su498, gu498, au498, bu498, cu498, du498, eu498, fu498⟩ := id kp497
      refine t_callV (M' := mX1_asks) [] [] kX1 dX4_query_81 wPX4_64v wIX1_asks wSX1_asks iX1_asks oX1_asks rfl hok gu498 (sX1_asks Sc Γ n kp497) (Nat.le_of_ble_eq_true rfl) (Nat.le_of_ble_eq_true rfl) (Nat.le_of_ble_eq_true rfl) (Nat.le_of_ble_eq_true rfl) (Nat.le_of_ble_eq_true rfl) rfl (fun v499 h qv499 hok => ?_) (fun e500 h qe500 hok => absurd qe500 (by intro q; obtain ⟨_, q, _⟩ := q; cases q))
      obtain ⟨x501, qx501, bx501⟩ := qv499
      obtain rfl := Sum.inl.inj qx501
      exact q_iret dX4_query_84 rfl (q_bl.nar bx501) ⟨Or.inl ⟨_, rfl, bx501⟩, hok, rfl⟩
  ·
    refine q_iload_n dX4_query_22 rfl ?_
    refine q_bipush (v := nI 8) dX4_query_23 rfl ?_
    refine t_callS (M' := mX4_checkIndex) [.int (a3), .int (nI 8)] [] dX4_query_25 wPX4_34 wTX4_checkIndex wNX4 iX4_checkIndex oX4_checkIndex rfl hok (sX4_checkIndex Sc Γ n (a3) (nI 8)) (Nat.le_of_ble_eq_true rfl) (Nat.le_of_ble_eq_true rfl) (Nat.le_of_ble_eq_true rfl) (Nat.le_of_ble_eq_true rfl) (Nat.le_of_ble_eq_true rfl) rfl (fun v502 h qv502 hok => ?_) (fun e503 h qe503 hok => ?_)
    rotate_left
    · exact t_out rfl ⟨Or.inr ⟨_, rfl, by have h9 := q_RC0.x qe503; subst h9; decide⟩, hok, rfl⟩
    obtain ⟨rfl, c504a, c504b⟩ := q_RC0.v qv502
    obtain ⟨g505, hg505, rfl⟩ := q_chk (by omega) c504a c504b
    refine q_iload dX4_query_28 rfl ?_
    refine q_iconst (v := nI 0) dX4_query_30 rfl ?_
    refine q_ldc dX4_query_31 wPX4_49 ?_
    refine t_callS (M' := mX4_checkNumber) [.int (a4), .int (nI 0), .int (65535)] [] dX4_query_33 wPX4_38 wTX4_checkNumber wNX4 iX4_checkNumber oX4_checkNumber rfl hok (sX4_checkNumber Sc Γ n (a4) (nI 0) (65535)) (Nat.le_of_ble_eq_true rfl) (Nat.le_of_ble_eq_true rfl) (Nat.le_of_ble_eq_true rfl) (Nat.le_of_ble_eq_true rfl) (Nat.le_of_ble_eq_true rfl) rfl (fun v506 h qv506 hok => ?_) (fun e507 h qe507 hok => ?_)
    rotate_left
    · exact t_out rfl ⟨Or.inr ⟨_, rfl, by have h9 := q_RC1.x qe507; subst h9; decide⟩, hok, rfl⟩
    obtain ⟨rfl, c508a, c508b⟩ := q_RC1.v qv506
    refine q_iload_n dX4_query_36 rfl ?_
    refine q_sipush (v := nI 500) dX4_query_37 rfl ?_
    refine q_icmp_ge (tgt := 75) dX4_query_40 (by decide) (fun c509 => ?_) (fun c509 => ?_)
    ·
      refine q_aload_n dX4_query_75 rfl ?_
      refine t_getr 0 kX4 (by decide) wPX4_20 dX4_query_76 hok gu474 rfl ?_
      refine q_iload_n dX4_query_79 rfl ?_
      refine t_aald "GroupFilters$Link" dX4_query_80 hok au474 rfl (by rw [bu474]; exact vp_in_nI (by omega) (by omega)) (fun p510 hp510 => ?_)
      have kp510 := cu474 _ _ hp510
      obtain ⟨pu511, qu511, ru511, su511, gu511, au511, bu511, cu511, du511, eu511, fu511⟩ := id kp510
      refine t_callV (M' := mX1_asks) [] [] kX1 dX4_query_81 wPX4_64v wIX1_asks wSX1_asks iX1_asks oX1_asks rfl hok gu511 (sX1_asks Sc Γ n kp510) (Nat.le_of_ble_eq_true rfl) (Nat.le_of_ble_eq_true rfl) (Nat.le_of_ble_eq_true rfl) (Nat.le_of_ble_eq_true rfl) (Nat.le_of_ble_eq_true rfl) rfl (fun v512 h qv512 hok => ?_) (fun e513 h qe513 hok => absurd qe513 (by intro q; obtain ⟨_, q, _⟩ := q; cases q))
      obtain ⟨x514, qx514, bx514⟩ := qv512
      obtain rfl := Sum.inl.inj qx514
      exact q_iret dX4_query_84 rfl (q_bl.nar bx514) ⟨Or.inl ⟨_, rfl, bx514⟩, hok, rfl⟩
    ·
      refine q_aload_n dX4_query_43 rfl ?_
      refine t_getr 0 kX4 (by decide) wPX4_20 dX4_query_44 hok gu474 rfl ?_
      refine q_iload_n dX4_query_47 rfl ?_
      refine t_aald "GroupFilters$Link" dX4_query_48 hok au474 rfl (by rw [bu474]; exact vp_in_nI (by omega) (by omega)) (fun p515 hp515 => ?_)
      have kp515 := cu474 _ _ hp515
      refine q_iload_n dX4_query_49 rfl ?_
      obtain ⟨pu516, qu516, ru516, su516, gu516, au516, bu516, cu516, du516, eu516, fu516⟩ := id kp515
      refine t_callV (M' := mX1_yieldTo) [.int (a2)] [] kX1 dX4_query_50 wPX4_58v wIX1_yieldTo wSX1_yieldTo iX1_yieldTo oX1_yieldTo rfl hok gu516 (sX1_yieldTo Sc Γ n kp515 (a2)) (Nat.le_of_ble_eq_true rfl) (Nat.le_of_ble_eq_true rfl) (Nat.le_of_ble_eq_true rfl) (Nat.le_of_ble_eq_true rfl) (Nat.le_of_ble_eq_true rfl) rfl (fun v517 h qv517 hok => ?_) (fun e518 h qe518 hok => absurd qe518 (by intro q; cases q))
      obtain rfl := Sum.inl.inj qv517
      refine q_iload_n dX4_query_53 rfl ?_
      refine q_iconst (v := -1) dX4_query_54 rfl ?_
      refine q_icmp_eq (tgt := 75) dX4_query_55 (by decide) (fun c519 => ?_) (fun c519 => ?_)
      ·
        refine q_aload_n dX4_query_75 rfl ?_
        refine t_getr 0 kX4 (by decide) wPX4_20 dX4_query_76 hok gu474 rfl ?_
        refine q_iload_n dX4_query_79 rfl ?_
        refine t_aald "GroupFilters$Link" dX4_query_80 hok au474 rfl (by rw [bu474]; exact vp_in_nI (by omega) (by omega)) (fun p520 hp520 => ?_)
        have kp520 := cu474 _ _ hp520
        obtain ⟨pu521, qu521, ru521, su521, gu521, au521, bu521, cu521, du521, eu521, fu521⟩ := id kp520
        refine t_callV (M' := mX1_asks) [] [] kX1 dX4_query_81 wPX4_64v wIX1_asks wSX1_asks iX1_asks oX1_asks rfl hok gu521 (sX1_asks Sc Γ n kp520) (Nat.le_of_ble_eq_true rfl) (Nat.le_of_ble_eq_true rfl) (Nat.le_of_ble_eq_true rfl) (Nat.le_of_ble_eq_true rfl) (Nat.le_of_ble_eq_true rfl) rfl (fun v522 h qv522 hok => ?_) (fun e523 h qe523 hok => absurd qe523 (by intro q; obtain ⟨_, q, _⟩ := q; cases q))
        obtain ⟨x524, qx524, bx524⟩ := qv522
        obtain rfl := Sum.inl.inj qx524
        exact q_iret dX4_query_84 rfl (q_bl.nar bx524) ⟨Or.inl ⟨_, rfl, bx524⟩, hok, rfl⟩
      ·
        refine q_iload dX4_query_58 rfl ?_
        refine q_if_ne (tgt := 75) dX4_query_60 (by decide) (fun c525 => ?_) (fun c525 => ?_)
        ·
          refine q_aload_n dX4_query_75 rfl ?_
          refine t_getr 0 kX4 (by decide) wPX4_20 dX4_query_76 hok gu474 rfl ?_
          refine q_iload_n dX4_query_79 rfl ?_
          refine t_aald "GroupFilters$Link" dX4_query_80 hok au474 rfl (by rw [bu474]; exact vp_in_nI (by omega) (by omega)) (fun p526 hp526 => ?_)
          have kp526 := cu474 _ _ hp526
          obtain ⟨pu527, qu527, ru527, su527, gu527, au527, bu527, cu527, du527, eu527, fu527⟩ := id kp526
          refine t_callV (M' := mX1_asks) [] [] kX1 dX4_query_81 wPX4_64v wIX1_asks wSX1_asks iX1_asks oX1_asks rfl hok gu527 (sX1_asks Sc Γ n kp526) (Nat.le_of_ble_eq_true rfl) (Nat.le_of_ble_eq_true rfl) (Nat.le_of_ble_eq_true rfl) (Nat.le_of_ble_eq_true rfl) (Nat.le_of_ble_eq_true rfl) rfl (fun v528 h qv528 hok => ?_) (fun e529 h qe529 hok => absurd qe529 (by intro q; obtain ⟨_, q, _⟩ := q; cases q))
          obtain ⟨x530, qx530, bx530⟩ := qv528
          obtain rfl := Sum.inl.inj qx530
          exact q_iret dX4_query_84 rfl (q_bl.nar bx530) ⟨Or.inl ⟨_, rfl, bx530⟩, hok, rfl⟩
        ·
          refine q_aload_n dX4_query_63 rfl ?_
          refine t_getr 0 kX4 (by decide) wPX4_20 dX4_query_64 hok gu474 rfl ?_
          refine q_iload_n dX4_query_67 rfl ?_
          refine t_aald "GroupFilters$Link" dX4_query_68 hok au474 rfl (by rw [bu474]; exact vp_in_nI (by omega) (by omega)) (fun p531 hp531 => ?_)
          have kp531 := cu474 _ _ hp531
          refine q_iload_n dX4_query_69 rfl ?_
          refine q_iload dX4_query_70 rfl ?_
          obtain ⟨pu532, qu532, ru532, su532, gu532, au532, bu532, cu532, du532, eu532, fu532⟩ := id kp531
          refine t_callV (M' := mX1_hearQuery) [.int (nI g505), .int (a4)] [] kX1 dX4_query_72 wPX4_61v wIX1_hearQuery wSX1_hearQuery iX1_hearQuery oX1_hearQuery rfl hok gu532 (sX1_hearQuery Sc Γ n kp531 (g505) (by omega) (a4)) (Nat.le_of_ble_eq_true rfl) (Nat.le_of_ble_eq_true rfl) (Nat.le_of_ble_eq_true rfl) (Nat.le_of_ble_eq_true rfl) (Nat.le_of_ble_eq_true rfl) rfl (fun v533 h qv533 hok => ?_) (fun e534 h qe534 hok => absurd qe534 (by intro q; cases q))
          obtain rfl := Sum.inl.inj qv533
          refine q_aload_n dX4_query_75 rfl ?_
          refine t_getr 0 kX4 (by decide) wPX4_20 dX4_query_76 hok gu474 rfl ?_
          refine q_iload_n dX4_query_79 rfl ?_
          refine t_aald "GroupFilters$Link" dX4_query_80 hok au474 rfl (by rw [bu474]; exact vp_in_nI (by omega) (by omega)) (fun p535 hp535 => ?_)
          have kp535 := cu474 _ _ hp535
          obtain ⟨pu536, qu536, ru536, su536, gu536, au536, bu536, cu536, du536, eu536, fu536⟩ := id kp535
          refine t_callV (M' := mX1_asks) [] [] kX1 dX4_query_81 wPX4_64v wIX1_asks wSX1_asks iX1_asks oX1_asks rfl hok gu536 (sX1_asks Sc Γ n kp535) (Nat.le_of_ble_eq_true rfl) (Nat.le_of_ble_eq_true rfl) (Nat.le_of_ble_eq_true rfl) (Nat.le_of_ble_eq_true rfl) (Nat.le_of_ble_eq_true rfl) rfl (fun v537 h qv537 hok => ?_) (fun e538 h qe538 hok => absurd qe538 (by intro q; obtain ⟨_, q, _⟩ := q; cases q))
          obtain ⟨x539, qx539, bx539⟩ := qv537
          obtain rfl := Sum.inl.inj qx539
          exact q_iret dX4_query_84 rfl (q_bl.nar bx539) ⟨Or.inl ⟨_, rfl, bx539⟩, hok, rfl⟩
set_option maxRecDepth 20000 in
set_option maxHeartbeats 4000000 in
theorem sX4_tick (Sc : q_S) (Γ : Nat → q_K) (n : Nat) {a0 many : Nat} (b0 : kGF Γ a0 many) (hm1 : 1 ≤ many) (hm4 : many ≤ 4) (a1 : Int32) : q_safe Sc Γ mX4_tick [.ref a0, .int (a1)] n 1 6 (q_XI (fun x => x = 1)) := by
  intro h hok
  show q_A Sc mX4_tick 0 [.ref a0, .int (a1), .retAddr 0, .retAddr 0] [] h n 1 6 (fun O h' n' => (q_XI (fun x => x = 1)) O ∧ q_ok Γ h' ∧ n' = n)
  refine q_iload_n dX4_tick_0 rfl ?_
  refine q_iconst (v := nI 0) dX4_tick_1 rfl ?_
  refine q_sipush (v := nI 2000) dX4_tick_2 rfl ?_
  refine t_callS (M' := mX4_checkNumber) [.int (a1), .int (nI 0), .int (nI 2000)] [] dX4_tick_5 wPX4_38 wTX4_checkNumber wNX4 iX4_checkNumber oX4_checkNumber rfl hok (sX4_checkNumber Sc Γ n (a1) (nI 0) (nI 2000)) (Nat.le_of_ble_eq_true rfl) (Nat.le_of_ble_eq_true rfl) (Nat.le_of_ble_eq_true rfl) (Nat.le_of_ble_eq_true rfl) (Nat.le_of_ble_eq_true rfl) rfl (fun v540 h qv540 hok => ?_) (fun e541 h qe541 hok => ?_)
  rotate_left
  · exact t_out rfl ⟨Or.inr ⟨_, rfl, by have h9 := q_RC1.x qe541; subst h9; decide⟩, hok, rfl⟩
  obtain ⟨rfl, c542a, c542b⟩ := q_RC1.v qv540
  obtain ⟨g543, hg543, rfl⟩ := q_chk2 (by omega) c542a c542b
  refine q_aload_n dX4_tick_8 rfl ?_
  obtain ⟨pu544, qu544, ru544, gu544, au544, bu544, cu544, du544⟩ := id b0
  refine t_getr 1 kX4 (by decide) wPX4_30 dX4_tick_9 hok gu544 rfl ?_
  obtain ⟨pu545, qu545, ru545, su545, gu545, au545, bu545, cu545, du545⟩ := id du544
  refine t_geti 4 kX3 (by decide) wPX4_50 dX4_tick_12 hok gu545 rfl (fun x546 => ?_)
  refine t_istore [.ref a0, .int (nI g543), .int (x546), .retAddr 0] (Or.inl ⟨2, rfl, rfl, dX4_tick_15⟩) (by decide) rfl ?_
  refine q_iconst (v := nI 0) dX4_tick_16 rfl ?_
  refine t_istore [.ref a0, .int (nI g543), .int (x546), .int (nI 0)] (Or.inl ⟨3, rfl, rfl, dX4_tick_17⟩) (by decide) rfl ?_
  have hl547 : ∀ (d549 k548 : Nat) (h : q_H), k548 + d549 = ru544.length → q_ok Γ h → q_A Sc mX4_tick 18 [.ref a0, .int (nI g543), .int (x546), .int (nI k548)] [] h n 0 0 (fun O h' n' => (q_XI (fun x => x = 1)) O ∧ q_ok Γ h' ∧ n' = n) := by
    intro d549
    induction d549 with
    | zero =>
      intro k548  h el547 hok
      refine q_iload_n dX4_tick_18 rfl ?_
      refine q_aload_n dX4_tick_19 rfl ?_
      refine t_getr 0 kX4 (by decide) wPX4_20 dX4_tick_20 hok gu544 rfl ?_
      refine t_alen dX4_tick_23 hok au544 rfl ?_
      refine t_icmp_ge_n (tgt := 43) (by omega) (by omega) dX4_tick_24 (by decide) (fun c550 => ?_) (fun c550 => ?_)
      rotate_left
      · exact absurd c550 (by omega)
      refine q_aload_n dX4_tick_43 rfl ?_
      refine q_iload_n dX4_tick_44 rfl ?_
      refine t_callV (M' := mX4_runClocks) [.int (nI g543)] [] kX4 dX4_tick_45 wPX4_71v wIX4_runClocks wSX4_runClocks iX4_runClocks oX4_runClocks rfl hok gu544 (sX4_runClocks Sc Γ n b0 hm1 hm4 (g543) (by omega)) (Nat.le_of_ble_eq_true rfl) (Nat.le_of_ble_eq_true rfl) (Nat.le_of_ble_eq_true rfl) (Nat.le_of_ble_eq_true rfl) (Nat.le_of_ble_eq_true rfl) rfl (fun v551 h qv551 hok => ?_) (fun e552 h qe552 hok => absurd qe552 (by intro q; cases q))
      obtain rfl := Sum.inl.inj qv551
      refine q_aload_n dX4_tick_48 rfl ?_
      refine t_getr 1 kX4 (by decide) wPX4_30 dX4_tick_49 hok gu544 rfl ?_
      obtain ⟨pu553, qu553, ru553, su553, gu553, au553, bu553, cu553, du553⟩ := id du544
      refine t_geti 4 kX3 (by decide) wPX4_50 dX4_tick_52 hok gu553 rfl (fun x554 => ?_)
      refine q_iload_n dX4_tick_55 rfl ?_
      refine q_isub dX4_tick_56 ?_
      generalize (x554) - (x546) = z555
      exact q_iret dX4_tick_57 rfl (rfl) ⟨Or.inl ⟨_, rfl⟩, hok, rfl⟩
    | succ d549 ihl547 =>
      intro k548  h el547 hok
      refine q_iload_n dX4_tick_18 rfl ?_
      refine q_aload_n dX4_tick_19 rfl ?_
      refine t_getr 0 kX4 (by decide) wPX4_20 dX4_tick_20 hok gu544 rfl ?_
      refine t_alen dX4_tick_23 hok au544 rfl ?_
      refine t_icmp_ge_n (tgt := 43) (by omega) (by omega) dX4_tick_24 (by decide) (fun c556 => ?_) (fun c556 => ?_)
      · exact absurd c556 (by omega)
      refine q_aload_n dX4_tick_27 rfl ?_
      refine t_getr 0 kX4 (by decide) wPX4_20 dX4_tick_28 hok gu544 rfl ?_
      refine q_iload_n dX4_tick_31 rfl ?_
      refine t_aald "GroupFilters$Link" dX4_tick_32 hok au544 rfl (by rw [bu544]; exact vp_in_nI (by omega) (by omega)) (fun p557 hp557 => ?_)
      have kp557 := cu544 _ _ hp557
      refine q_iload_n dX4_tick_33 rfl ?_
      obtain ⟨pu558, qu558, ru558, su558, gu558, au558, bu558, cu558, du558, eu558, fu558⟩ := id kp557
      refine t_callV (M' := mX1_ageFilters) [.int (nI g543)] [] kX1 dX4_tick_34 wPX4_68v wIX1_ageFilters wSX1_ageFilters iX1_ageFilters oX1_ageFilters rfl hok gu558 (sX1_ageFilters Sc Γ n kp557 (nI g543)) (Nat.le_of_ble_eq_true rfl) (Nat.le_of_ble_eq_true rfl) (Nat.le_of_ble_eq_true rfl) (Nat.le_of_ble_eq_true rfl) (Nat.le_of_ble_eq_true rfl) rfl (fun v559 h qv559 hok => ?_) (fun e560 h qe560 hok => absurd qe560 (by intro q; cases q))
      obtain rfl := Sum.inl.inj qv559
      refine t_iinc_n [.ref a0, .int (nI g543), .int (x546), .int (nI (k548 + 1))] dX4_tick_37 rfl (by decide) rfl ?_
      refine q_goto (tgt := 18) dX4_tick_40 (by decide) ?_
      exact ihl547 (k548 + 1)  h (by omega) hok
  exact hl547 (ru544.length) 0  h (by omega) hok
set_option maxRecDepth 20000 in
set_option maxHeartbeats 4000000 in
theorem sX4_passed (Sc : q_S) (Γ : Nat → q_K) (n : Nat) {a0 many : Nat} (b0 : kGF Γ a0 many) (hm1 : 1 ≤ many) (hm4 : many ≤ 4) (a1 : Int32) (a2 : Int32) (a3 : Int32) : q_safe Sc Γ mX4_passed [.ref a0, .int (a1), .int (a2), .int (a3)] n 3 18 (q_XI (fun x => x = 0)) := by
  intro h hok
  show q_A Sc mX4_passed 0 [.ref a0, .int (a1), .int (a2), .int (a3), .retAddr 0, .retAddr 0] [] h n 3 18 (fun O h' n' => (q_XI (fun x => x = 0)) O ∧ q_ok Γ h' ∧ n' = n)
  refine q_aload_n dX4_passed_0 rfl ?_
  refine q_iload_n dX4_passed_1 rfl ?_
  refine q_iload_n dX4_passed_2 rfl ?_
  refine q_iload_n dX4_passed_3 rfl ?_
  obtain ⟨pu561, qu561, ru561, gu561, au561, bu561, cu561, du561⟩ := id b0
  refine t_callV (M' := mX4_checkPlace) [.int (a1), .int (a2), .int (a3)] [] kX4 dX4_passed_4 wPX4_82v wIX4_checkPlace wSX4_checkPlace iX4_checkPlace oX4_checkPlace rfl hok gu561 (sX4_checkPlace Sc Γ n b0 hm1 hm4 (a1) (a2) (a3)) (Nat.le_of_ble_eq_true rfl) (Nat.le_of_ble_eq_true rfl) (Nat.le_of_ble_eq_true rfl) (Nat.le_of_ble_eq_true rfl) (Nat.le_of_ble_eq_true rfl) rfl (fun v562 h qv562 hok => ?_) (fun e563 h qe563 hok => ?_)
  rotate_left
  · exact t_out rfl ⟨Or.inr ⟨_, rfl, by have h9 := q_RP.x qe563; subst h9; decide⟩, hok, rfl⟩
  obtain ⟨rfl, ⟨g564, hg564, rfl⟩, ⟨g565, hg565, rfl⟩, ⟨g566, hg566, rfl⟩⟩ := q_RP.v qv562
  refine q_iconst (v := nI 0) dX4_passed_7 rfl ?_
  refine t_istore [.ref a0, .int (nI g564), .int (nI g565), .int (nI g566), .int (nI 0), .retAddr 0] (Or.inr ⟨rfl, dX4_passed_8⟩) (by decide) rfl ?_
  refine q_iconst (v := nI 0) dX4_passed_10 rfl ?_
  refine t_istore [.ref a0, .int (nI g564), .int (nI g565), .int (nI g566), .int (nI 0), .int (nI 0)] (Or.inr ⟨rfl, dX4_passed_11⟩) (by decide) rfl ?_
  have hl567 : ∀ (d569 k568 : Nat) (x570 : Int32) (h : q_H), k568 + d569 = ru561.length → q_ok Γ h → q_A Sc mX4_passed 13 [.ref a0, .int (nI g564), .int (nI g565), .int (nI g566), .int (x570), .int (nI k568)] [] h n 0 0 (fun O h' n' => (q_XI (fun x => x = 0)) O ∧ q_ok Γ h' ∧ n' = n) := by
    intro d569
    induction d569 with
    | zero =>
      intro k568 x570 h el567 hok
      refine q_iload dX4_passed_13 rfl ?_
      refine q_aload_n dX4_passed_15 rfl ?_
      refine t_getr 0 kX4 (by decide) wPX4_20 dX4_passed_16 hok gu561 rfl ?_
      refine t_alen dX4_passed_19 hok au561 rfl ?_
      refine t_icmp_ge_n (tgt := 63) (by omega) (by omega) dX4_passed_20 (by decide) (fun c571 => ?_) (fun c571 => ?_)
      rotate_left
      · exact absurd c571 (by omega)
      refine q_iload dX4_passed_63 rfl ?_
      exact q_iret dX4_passed_65 rfl (rfl) ⟨Or.inl ⟨_, rfl⟩, hok, rfl⟩
    | succ d569 ihl567 =>
      intro k568 x570 h el567 hok
      refine q_iload dX4_passed_13 rfl ?_
      refine q_aload_n dX4_passed_15 rfl ?_
      refine t_getr 0 kX4 (by decide) wPX4_20 dX4_passed_16 hok gu561 rfl ?_
      refine t_alen dX4_passed_19 hok au561 rfl ?_
      refine t_icmp_ge_n (tgt := 63) (by omega) (by omega) dX4_passed_20 (by decide) (fun c572 => ?_) (fun c572 => ?_)
      · exact absurd c572 (by omega)
      refine q_iload dX4_passed_23 rfl ?_
      refine q_iload_n dX4_passed_25 rfl ?_
      refine q_icmp_eq (tgt := 57) dX4_passed_26 (by decide) (fun c573 => ?_) (fun c573 => ?_)
      ·
        refine t_iinc_n [.ref a0, .int (nI g564), .int (nI g565), .int (nI g566), .int (x570), .int (nI (k568 + 1))] dX4_passed_57 rfl (by decide) rfl ?_
        refine q_goto (tgt := 13) dX4_passed_60 (by decide) ?_
        exact ihl567 (k568 + 1) (x570) h (by omega) hok
      ·
        refine q_aload_n dX4_passed_29 rfl ?_
        refine t_getr 0 kX4 (by decide) wPX4_20 dX4_passed_30 hok gu561 rfl ?_
        refine q_iload dX4_passed_33 rfl ?_
        refine t_aald "GroupFilters$Link" dX4_passed_35 hok au561 rfl (by rw [bu561]; exact vp_in_nI (by omega) (by omega)) (fun p574 hp574 => ?_)
        have kp574 := cu561 _ _ hp574
        obtain ⟨pu575, qu575, ru575, su575, gu575, au575, bu575, cu575, du575, eu575, fu575⟩ := id kp574
        refine t_getr 1 kX1 (by decide) wPX4_89 dX4_passed_36 hok gu575 rfl ?_
        refine q_iload_n dX4_passed_39 rfl ?_
        refine t_aald "GroupFilters$Filter" dX4_passed_40 hok au575 rfl (by rw [bu575]; exact vp_in_nI (by omega) (by omega)) (fun p576 hp576 => ?_)
        have kp576 := cu575 _ _ hp576
        refine q_iload_n dX4_passed_41 rfl ?_
        obtain ⟨tu577, gu577, au577⟩ := id kp576
        refine t_callV (M' := mX0_lets) [.int (nI g566)] [] kX0 dX4_passed_42 wPX4_93v wIX0_lets wSX0_lets iX0_lets oX0_lets rfl hok gu577 (sX0_lets Sc Γ n kp576 (nI g566)) (Nat.le_of_ble_eq_true rfl) (Nat.le_of_ble_eq_true rfl) (Nat.le_of_ble_eq_true rfl) (Nat.le_of_ble_eq_true rfl) (Nat.le_of_ble_eq_true rfl) rfl (fun v578 h qv578 hok => ?_) (fun e579 h qe579 hok => absurd qe579 (by intro q; obtain ⟨_, q, _⟩ := q; cases q))
        obtain ⟨x580, qx580, bx580⟩ := qv578
        obtain rfl := Sum.inl.inj qx580
        refine q_if_eq (tgt := 57) dX4_passed_45 (by decide) (fun c581 => ?_) (fun c581 => ?_)
        ·
          refine t_iinc_n [.ref a0, .int (nI g564), .int (nI g565), .int (nI g566), .int (x570), .int (nI (k568 + 1))] dX4_passed_57 rfl (by decide) rfl ?_
          refine q_goto (tgt := 13) dX4_passed_60 (by decide) ?_
          exact ihl567 (k568 + 1) (x570) h (by omega) hok
        ·
          refine q_iload dX4_passed_48 rfl ?_
          refine q_iconst (v := nI 1) dX4_passed_50 rfl ?_
          refine q_iload dX4_passed_51 rfl ?_
          refine q_ishl dX4_passed_53 ?_
          generalize (nI 1) <<< ((nI k568) &&& 31) = z582
          refine q_ior dX4_passed_54 ?_
          generalize (x570) ||| (z582) = z583
          refine t_istore [.ref a0, .int (nI g564), .int (nI g565), .int (nI g566), .int (z583), .int (nI k568)] (Or.inr ⟨rfl, dX4_passed_55⟩) (by decide) rfl ?_
          refine t_iinc_n [.ref a0, .int (nI g564), .int (nI g565), .int (nI g566), .int (z583), .int (nI (k568 + 1))] dX4_passed_57 rfl (by decide) rfl ?_
          refine q_goto (tgt := 13) dX4_passed_60 (by decide) ?_
          exact ihl567 (k568 + 1) (z583) h (by omega) hok
  exact hl567 (ru561.length) 0 (nI 0) h (by omega) hok
set_option maxRecDepth 20000 in
set_option maxHeartbeats 4000000 in
theorem sX4_mode (Sc : q_S) (Γ : Nat → q_K) (n : Nat) {a0 many : Nat} (b0 : kGF Γ a0 many) (hm1 : 1 ≤ many) (hm4 : many ≤ 4) (a1 : Int32) (a2 : Int32) : q_safe Sc Γ mX4_mode [.ref a0, .int (a1), .int (a2)] n 2 12 (q_XI (fun x => x = 0)) := by
  intro h hok
  show q_A Sc mX4_mode 0 [.ref a0, .int (a1), .int (a2)] [] h n 2 12 (fun O h' n' => (q_XI (fun x => x = 0)) O ∧ q_ok Γ h' ∧ n' = n)
  refine q_aload_n dX4_mode_0 rfl ?_
  refine q_iload_n dX4_mode_1 rfl ?_
  refine q_iload_n dX4_mode_2 rfl ?_
  obtain ⟨pu584, qu584, ru584, gu584, au584, bu584, cu584, du584⟩ := id b0
  refine t_callV (M' := mX4_filterAt) [.int (a1), .int (a2)] [] kX4 dX4_mode_3 wPX4_99v wIX4_filterAt wSX4_filterAt iX4_filterAt oX4_filterAt rfl hok gu584 (sX4_filterAt Sc Γ n b0 hm1 hm4 (a1) (a2)) (Nat.le_of_ble_eq_true rfl) (Nat.le_of_ble_eq_true rfl) (Nat.le_of_ble_eq_true rfl) (Nat.le_of_ble_eq_true rfl) (Nat.le_of_ble_eq_true rfl) rfl (fun v585 h qv585 hok => ?_) (fun e586 h qe586 hok => ?_)
  rotate_left
  · exact t_out rfl ⟨Or.inr ⟨_, rfl, by have h9 := q_RF.x qe586; subst h9; decide⟩, hok, rfl⟩
  obtain ⟨j587, rfl, kj587⟩ := q_RF.v qv585
  obtain ⟨tu588, gu588, au588⟩ := id kj587
  refine t_callV (M' := mX0_state) [] [] kX0 dX4_mode_6 wPX4_103v wIX0_state wSX0_state iX0_state oX0_state rfl hok gu588 (sX0_state Sc Γ n kj587) (Nat.le_of_ble_eq_true rfl) (Nat.le_of_ble_eq_true rfl) (Nat.le_of_ble_eq_true rfl) (Nat.le_of_ble_eq_true rfl) (Nat.le_of_ble_eq_true rfl) rfl (fun v589 h qv589 hok => ?_) (fun e590 h qe590 hok => absurd qe590 (by intro q; obtain ⟨_, q⟩ := q; cases q))
  obtain ⟨x591, qx591⟩ := qv589
  obtain rfl := Sum.inl.inj qx591
  exact q_iret dX4_mode_9 rfl (rfl) ⟨Or.inl ⟨_, rfl⟩, hok, rfl⟩
set_option maxRecDepth 20000 in
set_option maxHeartbeats 4000000 in
theorem sX4_sources (Sc : q_S) (Γ : Nat → q_K) (n : Nat) {a0 many : Nat} (b0 : kGF Γ a0 many) (hm1 : 1 ≤ many) (hm4 : many ≤ 4) (a1 : Int32) (a2 : Int32) (a3 : Int32) (b3 : q_bl a3) : q_safe Sc Γ mX4_sources [.ref a0, .int (a1), .int (a2), .int (a3)] n 2 12 (q_XI (fun x => x = 0)) := by
  intro h hok
  show q_A Sc mX4_sources 0 [.ref a0, .int (a1), .int (a2), .int (a3), .retAddr 0] [] h n 2 12 (fun O h' n' => (q_XI (fun x => x = 0)) O ∧ q_ok Γ h' ∧ n' = n)
  refine q_aload_n dX4_sources_0 rfl ?_
  refine q_iload_n dX4_sources_1 rfl ?_
  refine q_iload_n dX4_sources_2 rfl ?_
  obtain ⟨pu592, qu592, ru592, gu592, au592, bu592, cu592, du592⟩ := id b0
  refine t_callV (M' := mX4_filterAt) [.int (a1), .int (a2)] [] kX4 dX4_sources_3 wPX4_99v wIX4_filterAt wSX4_filterAt iX4_filterAt oX4_filterAt rfl hok gu592 (sX4_filterAt Sc Γ n b0 hm1 hm4 (a1) (a2)) (Nat.le_of_ble_eq_true rfl) (Nat.le_of_ble_eq_true rfl) (Nat.le_of_ble_eq_true rfl) (Nat.le_of_ble_eq_true rfl) (Nat.le_of_ble_eq_true rfl) rfl (fun v593 h qv593 hok => ?_) (fun e594 h qe594 hok => ?_)
  rotate_left
  · exact t_out rfl ⟨Or.inr ⟨_, rfl, by have h9 := q_RF.x qe594; subst h9; decide⟩, hok, rfl⟩
  obtain ⟨j595, rfl, kj595⟩ := q_RF.v qv593
  refine q_astore dX4_sources_6 (by decide) ?_
  refine q_iload_n dX4_sources_8 rfl ?_
  refine q_if_eq (tgt := 20) dX4_sources_9 (by decide) (fun c596 => ?_) (fun c596 => ?_)
  ·
    refine q_aload dX4_sources_20 rfl ?_
    obtain ⟨tu597, gu597, au597⟩ := id kj595
    refine t_geti 3 kX0 (by decide) wPX4_109 dX4_sources_22 hok gu597 rfl (fun x598 => ?_)
    exact q_iret dX4_sources_25 rfl (rfl) ⟨Or.inl ⟨_, rfl⟩, hok, rfl⟩
  ·
    refine q_aload dX4_sources_12 rfl ?_
    obtain ⟨tu599, gu599, au599⟩ := id kj595
    refine t_geti 2 kX0 (by decide) wPX4_106 dX4_sources_14 hok gu599 rfl (fun x600 => ?_)
    refine q_goto (tgt := 25) dX4_sources_17 (by decide) ?_
    exact q_iret dX4_sources_25 rfl (rfl) ⟨Or.inl ⟨_, rfl⟩, hok, rfl⟩
set_option maxRecDepth 20000 in
set_option maxHeartbeats 4000000 in
theorem sX4_timer (Sc : q_S) (Γ : Nat → q_K) (n : Nat) {a0 many : Nat} (b0 : kGF Γ a0 many) (hm1 : 1 ≤ many) (hm4 : many ≤ 4) (a1 : Int32) (a2 : Int32) (a3 : Int32) : q_safe Sc Γ mX4_timer [.ref a0, .int (a1), .int (a2), .int (a3)] n 3 18 (q_XI (fun x => x = 0)) := by
  intro h hok
  show q_A Sc mX4_timer 0 [.ref a0, .int (a1), .int (a2), .int (a3)] [] h n 3 18 (fun O h' n' => (q_XI (fun x => x = 0)) O ∧ q_ok Γ h' ∧ n' = n)
  refine q_aload_n dX4_timer_0 rfl ?_
  refine q_iload_n dX4_timer_1 rfl ?_
  refine q_iload_n dX4_timer_2 rfl ?_
  refine q_iload_n dX4_timer_3 rfl ?_
  obtain ⟨pu601, qu601, ru601, gu601, au601, bu601, cu601, du601⟩ := id b0
  refine t_callV (M' := mX4_checkPlace) [.int (a1), .int (a2), .int (a3)] [] kX4 dX4_timer_4 wPX4_82v wIX4_checkPlace wSX4_checkPlace iX4_checkPlace oX4_checkPlace rfl hok gu601 (sX4_checkPlace Sc Γ n b0 hm1 hm4 (a1) (a2) (a3)) (Nat.le_of_ble_eq_true rfl) (Nat.le_of_ble_eq_true rfl) (Nat.le_of_ble_eq_true rfl) (Nat.le_of_ble_eq_true rfl) (Nat.le_of_ble_eq_true rfl) rfl (fun v602 h qv602 hok => ?_) (fun e603 h qe603 hok => ?_)
  rotate_left
  · exact t_out rfl ⟨Or.inr ⟨_, rfl, by have h9 := q_RP.x qe603; subst h9; decide⟩, hok, rfl⟩
  obtain ⟨rfl, ⟨g604, hg604, rfl⟩, ⟨g605, hg605, rfl⟩, ⟨g606, hg606, rfl⟩⟩ := q_RP.v qv602
  refine q_aload_n dX4_timer_7 rfl ?_
  refine t_getr 0 kX4 (by decide) wPX4_20 dX4_timer_8 hok gu601 rfl ?_
  refine q_iload_n dX4_timer_11 rfl ?_
  refine t_aald "GroupFilters$Link" dX4_timer_12 hok au601 rfl (by rw [bu601]; exact vp_in_nI (by omega) (by omega)) (fun p607 hp607 => ?_)
  have kp607 := cu601 _ _ hp607
  obtain ⟨pu608, qu608, ru608, su608, gu608, au608, bu608, cu608, du608, eu608, fu608⟩ := id kp607
  refine t_getr 1 kX1 (by decide) wPX4_89 dX4_timer_13 hok gu608 rfl ?_
  refine q_iload_n dX4_timer_16 rfl ?_
  refine t_aald "GroupFilters$Filter" dX4_timer_17 hok au608 rfl (by rw [bu608]; exact vp_in_nI (by omega) (by omega)) (fun p609 hp609 => ?_)
  have kp609 := cu608 _ _ hp609
  obtain ⟨tu610, gu610, au610⟩ := id kp609
  refine t_getr 0 kX0 (by decide) wPX4_112 dX4_timer_18 hok gu610 rfl ?_
  refine q_iload_n dX4_timer_21 rfl ?_
  refine t_iald dX4_timer_22 hok au610 (by exact vp_in_nI (by omega) (by omega)) (fun x611 => ?_)
  exact q_iret dX4_timer_23 rfl (rfl) ⟨Or.inl ⟨_, rfl⟩, hok, rfl⟩
set_option maxRecDepth 20000 in
set_option maxHeartbeats 4000000 in
theorem sX4_groupTimer (Sc : q_S) (Γ : Nat → q_K) (n : Nat) {a0 many : Nat} (b0 : kGF Γ a0 many) (hm1 : 1 ≤ many) (hm4 : many ≤ 4) (a1 : Int32) (a2 : Int32) : q_safe Sc Γ mX4_groupTimer [.ref a0, .int (a1), .int (a2)] n 2 12 (q_XI (fun x => x = 0)) := by
  intro h hok
  show q_A Sc mX4_groupTimer 0 [.ref a0, .int (a1), .int (a2)] [] h n 2 12 (fun O h' n' => (q_XI (fun x => x = 0)) O ∧ q_ok Γ h' ∧ n' = n)
  refine q_aload_n dX4_groupTimer_0 rfl ?_
  refine q_iload_n dX4_groupTimer_1 rfl ?_
  refine q_iload_n dX4_groupTimer_2 rfl ?_
  obtain ⟨pu612, qu612, ru612, gu612, au612, bu612, cu612, du612⟩ := id b0
  refine t_callV (M' := mX4_filterAt) [.int (a1), .int (a2)] [] kX4 dX4_groupTimer_3 wPX4_99v wIX4_filterAt wSX4_filterAt iX4_filterAt oX4_filterAt rfl hok gu612 (sX4_filterAt Sc Γ n b0 hm1 hm4 (a1) (a2)) (Nat.le_of_ble_eq_true rfl) (Nat.le_of_ble_eq_true rfl) (Nat.le_of_ble_eq_true rfl) (Nat.le_of_ble_eq_true rfl) (Nat.le_of_ble_eq_true rfl) rfl (fun v613 h qv613 hok => ?_) (fun e614 h qe614 hok => ?_)
  rotate_left
  · exact t_out rfl ⟨Or.inr ⟨_, rfl, by have h9 := q_RF.x qe614; subst h9; decide⟩, hok, rfl⟩
  obtain ⟨j615, rfl, kj615⟩ := q_RF.v qv613
  obtain ⟨tu616, gu616, au616⟩ := id kj615
  refine t_geti 4 kX0 (by decide) wPX4_116 dX4_groupTimer_6 hok gu616 rfl (fun x617 => ?_)
  exact q_iret dX4_groupTimer_9 rfl (rfl) ⟨Or.inl ⟨_, rfl⟩, hok, rfl⟩
set_option maxRecDepth 20000 in
set_option maxHeartbeats 4000000 in
theorem sX4_asked (Sc : q_S) (Γ : Nat → q_K) (n : Nat) {a0 many : Nat} (b0 : kGF Γ a0 many) (hm1 : 1 ≤ many) (hm4 : many ≤ 4) (a1 : Int32) (a2 : Int32) : q_safe Sc Γ mX4_asked [.ref a0, .int (a1), .int (a2)] n 2 12 (q_XI (fun x => x < 2)) := by
  intro h hok
  show q_A Sc mX4_asked 0 [.ref a0, .int (a1), .int (a2)] [] h n 2 12 (fun O h' n' => (q_XI (fun x => x < 2)) O ∧ q_ok Γ h' ∧ n' = n)
  refine q_iload_n dX4_asked_0 rfl ?_
  refine q_aload_n dX4_asked_1 rfl ?_
  obtain ⟨pu618, qu618, ru618, gu618, au618, bu618, cu618, du618⟩ := id b0
  refine t_getr 1 kX4 (by decide) wPX4_30 dX4_asked_2 hok gu618 rfl ?_
  obtain ⟨pu619, qu619, ru619, su619, gu619, au619, bu619, cu619, du619⟩ := id du618
  refine t_geti 4 kX3 (by decide) wPX4_50 dX4_asked_5 hok gu619 rfl (fun x620 => ?_)
  refine q_bipush (v := nI 40) dX4_asked_8 rfl ?_
  refine t_callS (M' := mJ9_min_7cf53) [.int (x620), .int (nI 40)] [.int (a1)] dX4_asked_10 wPX4_9 wTJ9_min_7cf53 wNJ9 iJ9_min_7cf53 oJ9_min_7cf53 rfl hok (sJ9_min_7cf53 Sc Γ n (x620) (nI 40)) (Nat.le_of_ble_eq_true rfl) (Nat.le_of_ble_eq_true rfl) (Nat.le_of_ble_eq_true rfl) (Nat.le_of_ble_eq_true rfl) (Nat.le_of_ble_eq_true rfl) rfl (fun v621 h qv621 hok => ?_) (fun e622 h qe622 hok => absurd qe622 (by intro q; obtain ⟨_, q⟩ := q; cases q))
  obtain ⟨x623, qx623⟩ := qv621
  obtain rfl := Sum.inl.inj qx623
  refine t_callS (M' := mX4_checkIndex) [.int (a1), .int (x623)] [] dX4_asked_13 wPX4_34 wTX4_checkIndex wNX4 iX4_checkIndex oX4_checkIndex rfl hok (sX4_checkIndex Sc Γ n (a1) (x623)) (Nat.le_of_ble_eq_true rfl) (Nat.le_of_ble_eq_true rfl) (Nat.le_of_ble_eq_true rfl) (Nat.le_of_ble_eq_true rfl) (Nat.le_of_ble_eq_true rfl) rfl (fun v624 h qv624 hok => ?_) (fun e625 h qe625 hok => ?_)
  rotate_left
  · exact t_out rfl ⟨Or.inr ⟨_, rfl, by have h9 := q_RC0.x qe625; subst h9; decide⟩, hok, rfl⟩
  obtain ⟨rfl, c626a, c626b⟩ := q_RC0.v qv624
  refine q_iload_n dX4_asked_16 rfl ?_
  refine q_iconst (v := nI 0) dX4_asked_17 rfl ?_
  refine q_iconst (v := nI 3) dX4_asked_18 rfl ?_
  refine t_callS (M' := mX4_checkNumber) [.int (a2), .int (nI 0), .int (nI 3)] [] dX4_asked_19 wPX4_38 wTX4_checkNumber wNX4 iX4_checkNumber oX4_checkNumber rfl hok (sX4_checkNumber Sc Γ n (a2) (nI 0) (nI 3)) (Nat.le_of_ble_eq_true rfl) (Nat.le_of_ble_eq_true rfl) (Nat.le_of_ble_eq_true rfl) (Nat.le_of_ble_eq_true rfl) (Nat.le_of_ble_eq_true rfl) rfl (fun v627 h qv627 hok => ?_) (fun e628 h qe628 hok => ?_)
  rotate_left
  · exact t_out rfl ⟨Or.inr ⟨_, rfl, by have h9 := q_RC1.x qe628; subst h9; decide⟩, hok, rfl⟩
  obtain ⟨rfl, c629a, c629b⟩ := q_RC1.v qv627
  refine q_aload_n dX4_asked_22 rfl ?_
  refine t_getr 1 kX4 (by decide) wPX4_30 dX4_asked_23 hok gu618 rfl ?_
  refine q_iload_n dX4_asked_26 rfl ?_
  refine q_iload_n dX4_asked_27 rfl ?_
  obtain ⟨pu630, qu630, ru630, su630, gu630, au630, bu630, cu630, du630⟩ := id du618
  refine t_callV (M' := mX3_look) [.int (a1), .int (a2)] [] kX3 dX4_asked_28 wPX4_119v wIX3_look wSX3_look iX3_look oX3_look rfl hok gu630 (sX3_look Sc Γ n du618 (a1) (a2)) (Nat.le_of_ble_eq_true rfl) (Nat.le_of_ble_eq_true rfl) (Nat.le_of_ble_eq_true rfl) (Nat.le_of_ble_eq_true rfl) (Nat.le_of_ble_eq_true rfl) rfl (fun v631 h qv631 hok => ?_) (fun e632 h qe632 hok => absurd qe632 (by intro q; obtain ⟨_, q⟩ := q; cases q))
  obtain ⟨x633, qx633⟩ := qv631
  obtain rfl := Sum.inl.inj qx633
  exact q_iret dX4_asked_31 rfl (rfl) ⟨Or.inl ⟨_, rfl⟩, hok, rfl⟩
set_option maxRecDepth 20000 in
set_option maxHeartbeats 4000000 in
theorem sX4_told (Sc : q_S) (Γ : Nat → q_K) (n : Nat) {a0 many : Nat} (b0 : kGF Γ a0 many) (hm1 : 1 ≤ many) (hm4 : many ≤ 4) (a1 : Int32) (a2 : Int32) : q_safe Sc Γ mX4_told [.ref a0, .int (a1), .int (a2)] n 2 12 (q_XI (fun x => x < 2)) := by
  intro h hok
  show q_A Sc mX4_told 0 [.ref a0, .int (a1), .int (a2), .retAddr 0] [] h n 2 12 (fun O h' n' => (q_XI (fun x => x < 2)) O ∧ q_ok Γ h' ∧ n' = n)
  refine q_iload_n dX4_told_0 rfl ?_
  refine q_aload_n dX4_told_1 rfl ?_
  obtain ⟨pu634, qu634, ru634, gu634, au634, bu634, cu634, du634⟩ := id b0
  refine t_getr 0 kX4 (by decide) wPX4_20 dX4_told_2 hok gu634 rfl ?_
  refine t_alen dX4_told_5 hok au634 rfl ?_
  refine t_callS (M' := mX4_checkIndex) [.int (a1), .int (nI (ru634.length))] [] dX4_told_6 wPX4_34 wTX4_checkIndex wNX4 iX4_checkIndex oX4_checkIndex rfl hok (sX4_checkIndex Sc Γ n (a1) (nI (ru634.length))) (Nat.le_of_ble_eq_true rfl) (Nat.le_of_ble_eq_true rfl) (Nat.le_of_ble_eq_true rfl) (Nat.le_of_ble_eq_true rfl) (Nat.le_of_ble_eq_true rfl) rfl (fun v635 h qv635 hok => ?_) (fun e636 h qe636 hok => ?_)
  rotate_left
  · exact t_out rfl ⟨Or.inr ⟨_, rfl, by have h9 := q_RC0.x qe636; subst h9; decide⟩, hok, rfl⟩
  obtain ⟨rfl, c637a, c637b⟩ := q_RC0.v qv635
  obtain ⟨g638, hg638, rfl⟩ := q_chk (by omega) c637a c637b
  refine q_iload_n dX4_told_9 rfl ?_
  refine q_iconst (v := nI 0) dX4_told_10 rfl ?_
  refine q_iconst (v := nI 5) dX4_told_11 rfl ?_
  refine t_callS (M' := mX4_checkNumber) [.int (a2), .int (nI 0), .int (nI 5)] [] dX4_told_12 wPX4_38 wTX4_checkNumber wNX4 iX4_checkNumber oX4_checkNumber rfl hok (sX4_checkNumber Sc Γ n (a2) (nI 0) (nI 5)) (Nat.le_of_ble_eq_true rfl) (Nat.le_of_ble_eq_true rfl) (Nat.le_of_ble_eq_true rfl) (Nat.le_of_ble_eq_true rfl) (Nat.le_of_ble_eq_true rfl) rfl (fun v639 h qv639 hok => ?_) (fun e640 h qe640 hok => ?_)
  rotate_left
  · exact t_out rfl ⟨Or.inr ⟨_, rfl, by have h9 := q_RC1.x qe640; subst h9; decide⟩, hok, rfl⟩
  obtain ⟨rfl, c641a, c641b⟩ := q_RC1.v qv639
  refine q_aload_n dX4_told_15 rfl ?_
  refine t_getr 0 kX4 (by decide) wPX4_20 dX4_told_16 hok gu634 rfl ?_
  refine q_iload_n dX4_told_19 rfl ?_
  refine t_aald "GroupFilters$Link" dX4_told_20 hok au634 rfl (by rw [bu634]; exact vp_in_nI (by omega) (by omega)) (fun p642 hp642 => ?_)
  have kp642 := cu634 _ _ hp642
  refine q_astore_n dX4_told_21 (by decide) ?_
  refine q_iload_n dX4_told_22 rfl ?_
  rcases q_sw a2 0 5 (by decide) with hw643 | ⟨jw643, hw643, ew643⟩
  ·
    refine q_tableOut (tgt := 92) dX4_told_23 (by simpa using hw643) (by decide) ?_
    refine q_aload_n dX4_told_92 rfl ?_
    obtain ⟨pu644, qu644, ru644, su644, gu644, au644, bu644, cu644, du644, eu644, fu644⟩ := id kp642
    refine t_callV (M' := mX1_asks) [] [] kX1 dX4_told_93 wPX4_64v wIX1_asks wSX1_asks iX1_asks oX1_asks rfl hok gu644 (sX1_asks Sc Γ n kp642) (Nat.le_of_ble_eq_true rfl) (Nat.le_of_ble_eq_true rfl) (Nat.le_of_ble_eq_true rfl) (Nat.le_of_ble_eq_true rfl) (Nat.le_of_ble_eq_true rfl) rfl (fun v645 h qv645 hok => ?_) (fun e646 h qe646 hok => absurd qe646 (by intro q; obtain ⟨_, q, _⟩ := q; cases q))
    obtain ⟨x647, qx647, bx647⟩ := qv645
    obtain rfl := Sum.inl.inj qx647
    refine q_if_eq (tgt := 106) dX4_told_96 (by decide) (fun c648 => ?_) (fun c648 => ?_)
    ·
      refine q_iconst (v := nI 0) dX4_told_106 rfl ?_
      exact q_iret dX4_told_107 rfl (rfl) ⟨Or.inl ⟨_, rfl⟩, hok, rfl⟩
    ·
      refine q_aload_n dX4_told_99 rfl ?_
      refine t_geti 7 kX1 (by decide) wPX4_128 dX4_told_100 hok gu644 rfl (fun x649 => ?_)
      refine q_goto (tgt := 107) dX4_told_103 (by decide) ?_
      exact q_iret dX4_told_107 rfl (rfl) ⟨Or.inl ⟨_, rfl⟩, hok, rfl⟩
  ·
    rcases (show jw643 = 0 ∨ jw643 = 1 ∨ jw643 = 2 ∨ jw643 = 3 ∨ jw643 = 4 by omega) with rfl | rfl | rfl | rfl | rfl
    ·
      refine q_tableIn (off := 33) (tgt := 56) dX4_told_23 (by rw [ew643]; decide) (by rw [ew643]; decide) (by rw [ew643]; rfl) (by decide) ?_
      refine q_aload_n dX4_told_56 rfl ?_
      obtain ⟨pu650, qu650, ru650, su650, gu650, au650, bu650, cu650, du650, eu650, fu650⟩ := id kp642
      refine t_callV (M' := mX1_grace) [] [] kX1 dX4_told_57 wPX4_45v wIX1_grace wSX1_grace iX1_grace oX1_grace rfl hok gu650 (sX1_grace Sc Γ n kp642) (Nat.le_of_ble_eq_true rfl) (Nat.le_of_ble_eq_true rfl) (Nat.le_of_ble_eq_true rfl) (Nat.le_of_ble_eq_true rfl) (Nat.le_of_ble_eq_true rfl) rfl (fun v651 h qv651 hok => ?_) (fun e652 h qe652 hok => absurd qe652 (by intro q; obtain ⟨_, q⟩ := q; cases q))
      obtain ⟨x653, qx653⟩ := qv651
      obtain rfl := Sum.inl.inj qx653
      exact q_iret dX4_told_60 rfl (rfl) ⟨Or.inl ⟨_, rfl⟩, hok, rfl⟩
    ·
      refine q_tableIn (off := 38) (tgt := 61) dX4_told_23 (by rw [ew643]; decide) (by rw [ew643]; decide) (by rw [ew643]; rfl) (by decide) ?_
      refine q_aload_n dX4_told_61 rfl ?_
      obtain ⟨pu654, qu654, ru654, su654, gu654, au654, bu654, cu654, du654, eu654, fu654⟩ := id kp642
      refine t_callV (M' := mX1_last) [] [] kX1 dX4_told_62 wPX4_122v wIX1_last wSX1_last iX1_last oX1_last rfl hok gu654 (sX1_last Sc Γ n kp642) (Nat.le_of_ble_eq_true rfl) (Nat.le_of_ble_eq_true rfl) (Nat.le_of_ble_eq_true rfl) (Nat.le_of_ble_eq_true rfl) (Nat.le_of_ble_eq_true rfl) rfl (fun v655 h qv655 hok => ?_) (fun e656 h qe656 hok => absurd qe656 (by intro q; obtain ⟨_, q⟩ := q; cases q))
      obtain ⟨x657, qx657⟩ := qv655
      obtain rfl := Sum.inl.inj qx657
      exact q_iret dX4_told_65 rfl (rfl) ⟨Or.inl ⟨_, rfl⟩, hok, rfl⟩
    ·
      refine q_tableIn (off := 43) (tgt := 66) dX4_told_23 (by rw [ew643]; decide) (by rw [ew643]; decide) (by rw [ew643]; rfl) (by decide) ?_
      refine q_aload_n dX4_told_66 rfl ?_
      obtain ⟨pu658, qu658, ru658, su658, gu658, au658, bu658, cu658, du658, eu658, fu658⟩ := id kp642
      refine t_geti 6 kX1 (by decide) wPX4_125 dX4_told_67 hok gu658 rfl (fun x659 => ?_)
      exact q_iret dX4_told_70 rfl (rfl) ⟨Or.inl ⟨_, rfl⟩, hok, rfl⟩
    ·
      refine q_tableIn (off := 48) (tgt := 71) dX4_told_23 (by rw [ew643]; decide) (by rw [ew643]; decide) (by rw [ew643]; rfl) (by decide) ?_
      refine q_aload_n dX4_told_71 rfl ?_
      obtain ⟨pu660, qu660, ru660, su660, gu660, au660, bu660, cu660, du660, eu660, fu660⟩ := id kp642
      refine t_callV (M' := mX1_asks) [] [] kX1 dX4_told_72 wPX4_64v wIX1_asks wSX1_asks iX1_asks oX1_asks rfl hok gu660 (sX1_asks Sc Γ n kp642) (Nat.le_of_ble_eq_true rfl) (Nat.le_of_ble_eq_true rfl) (Nat.le_of_ble_eq_true rfl) (Nat.le_of_ble_eq_true rfl) (Nat.le_of_ble_eq_true rfl) rfl (fun v661 h qv661 hok => ?_) (fun e662 h qe662 hok => absurd qe662 (by intro q; obtain ⟨_, q, _⟩ := q; cases q))
      obtain ⟨x663, qx663, bx663⟩ := qv661
      obtain rfl := Sum.inl.inj qx663
      refine q_if_eq (tgt := 82) dX4_told_75 (by decide) (fun c664 => ?_) (fun c664 => ?_)
      ·
        refine q_aload_n dX4_told_82 rfl ?_
        refine t_geti 7 kX1 (by decide) wPX4_128 dX4_told_83 hok gu660 rfl (fun x665 => ?_)
        exact q_iret dX4_told_86 rfl (rfl) ⟨Or.inl ⟨_, rfl⟩, hok, rfl⟩
      ·
        refine q_iconst (v := nI 0) dX4_told_78 rfl ?_
        refine q_goto (tgt := 86) dX4_told_79 (by decide) ?_
        exact q_iret dX4_told_86 rfl (rfl) ⟨Or.inl ⟨_, rfl⟩, hok, rfl⟩
    ·
      refine q_tableIn (off := 64) (tgt := 87) dX4_told_23 (by rw [ew643]; decide) (by rw [ew643]; decide) (by rw [ew643]; rfl) (by decide) ?_
      refine q_aload_n dX4_told_87 rfl ?_
      obtain ⟨pu666, qu666, ru666, su666, gu666, au666, bu666, cu666, du666, eu666, fu666⟩ := id kp642
      refine t_callV (M' := mX1_records) [] [] kX1 dX4_told_88 wPX4_131v wIX1_records wSX1_records iX1_records oX1_records rfl hok gu666 (sX1_records Sc Γ n kp642) (Nat.le_of_ble_eq_true rfl) (Nat.le_of_ble_eq_true rfl) (Nat.le_of_ble_eq_true rfl) (Nat.le_of_ble_eq_true rfl) (Nat.le_of_ble_eq_true rfl) rfl (fun v667 h qv667 hok => ?_) (fun e668 h qe668 hok => absurd qe668 (by intro q; obtain ⟨_, q⟩ := q; cases q))
      obtain ⟨x669, qx669⟩ := qv667
      obtain rfl := Sum.inl.inj qx669
      exact q_iret dX4_told_91 rfl (rfl) ⟨Or.inl ⟨_, rfl⟩, hok, rfl⟩
set_option maxRecDepth 20000 in
set_option maxHeartbeats 4000000 in
theorem sX4_sent (Sc : q_S) (Γ : Nat → q_K) (n : Nat) {a0 many : Nat} (b0 : kGF Γ a0 many) (hm1 : 1 ≤ many) (hm4 : many ≤ 4) : q_safe Sc Γ mX4_sent [.ref a0] n 0 0 (q_RI) := by
  intro h hok
  show q_A Sc mX4_sent 0 [.ref a0] [] h n 0 0 (fun O h' n' => (q_RI) O ∧ q_ok Γ h' ∧ n' = n)
  refine q_aload_n dX4_sent_0 rfl ?_
  obtain ⟨pu670, qu670, ru670, gu670, au670, bu670, cu670, du670⟩ := id b0
  refine t_getr 1 kX4 (by decide) wPX4_30 dX4_sent_1 hok gu670 rfl ?_
  obtain ⟨pu671, qu671, ru671, su671, gu671, au671, bu671, cu671, du671⟩ := id du670
  refine t_geti 4 kX3 (by decide) wPX4_50 dX4_sent_4 hok gu671 rfl (fun x672 => ?_)
  exact q_iret dX4_sent_7 rfl (rfl) ⟨⟨_, rfl⟩, hok, rfl⟩
