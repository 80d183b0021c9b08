section QLAW
variable {Sc : q_S} {M : q_M} {pc : Nat} {L st : List Value} {h : q_H} {n kc ks : Nat} {Q : q_O → q_H → Nat → Prop}
theorem t_catch {x : Nat} (hpc : Nat) (hf : q_hf M pc x = some hpc) (hall : ∀ r ∈ q_hs M, (q_ct r.2.2.2).isSome = true) (hown : q_own M = "GroupFiltersLaw") (k : q_A Sc M hpc L [.float 0] h n kc ks Q) : q_Th Sc M pc L h n kc ks Q x := by
  unfold q_Th
  rw [hf]
  exact ⟨hall, hown, k⟩
theorem q_lconst {j : Fin 2} (hd : decode (q_cc M) pc = .ok (.lconst j, 1)) (k : q_A Sc M (pc + 1) L (.long (Int64.ofNat j) :: st) h n kc ks Q) : q_A Sc M pc L st h n kc ks Q := by
  intro D dT H0 p l e R s m args below meth c H locs cells slots ls st' sb ws ads0 kc' ks' g T hT X
  obtain ⟨hF, hW, hL, hS, hr⟩ := g
  obtain ⟨t, a, b⟩ := k D dT H0 p l e R s m args below meth c H locs cells slots ls (.long (Int64.ofNat j) :: st') sb ws ads0 kc' ks' ⟨hF, hW, hL, ⟨_, _, rfl, rfl, hS⟩, hr⟩ T hT X
  refine ⟨t, ?_, b⟩
  have hexec := hF.1
  have hb := hF.2.1
  jvm_step X.here [X.here.top, hexec, hb, hd]
  exact a
theorem q_lcmp {x y : Int64} (hd : decode (q_cc M) pc = .ok (.lcmp, 1)) (k : q_A Sc M (pc + 1) L (.int (lg_cmp x y) :: st) h n kc ks Q) : q_A Sc M pc L (.long y :: .long x :: st) h n kc ks Q := by
  intro D dT H0 p l e R s m args below meth c H locs cells slots ls st' sb ws ads0 kc' ks' g
  obtain ⟨hF, hW, hL, ⟨_, _, rfl, rfl, _, _, rfl, rfl, hS⟩, hr⟩ := g
  exact W.lcmp hF.1 hF.2.1 hd (k D dT H0 p l e R s m args below meth c H locs cells slots ls _ sb ws ads0 kc' ks' ⟨hF, hW, hL, ⟨_, _, rfl, rfl, hS⟩, hr⟩)
end QLAW

set_option maxRecDepth 20000 in
set_option maxHeartbeats 4000000 in
theorem sL_report (Sc : q_S) (Γ : Nat → q_K) (n : Nat) {a0 many : Nat} (b0 : kGF Γ a0 many) (hm1 : 1 ≤ many) (hm4 : many ≤ 4) (a1 : Int32) (a2 : Int32) (a3 : Int32) (a4 : Int32) {w : Nat} (hw : Γ w = (5, 1, [])) : q_safe Sc Γ mL_report [.ref a0, .int (a1), .int (a2), .int (a3), .int (a4), .ref w] n 4 24 q_RI := by
  intro h hok
  show q_A Sc mL_report 0 [.ref a0, .int (a1), .int (a2), .int (a3), .int (a4), .ref w, .retAddr 0] [] h n 4 24 (fun O h' n' => (q_RI) O ∧ q_ok Γ h' ∧ n' = n)
  refine q_aload dL_report_0 rfl ?_
  refine q_iconst (v := nI 0) dL_report_2 rfl ?_
  refine q_aload_n dL_report_3 rfl ?_
  refine q_iload_n dL_report_4 rfl ?_
  refine q_iload_n dL_report_5 rfl ?_
  refine q_iload_n dL_report_6 rfl ?_
  refine q_iload dL_report_7 rfl ?_
  obtain ⟨pu1776, qu1776, ru1776, gu1776, au1776, bu1776, cu1776, du1776⟩ := id b0
  refine t_callV (M' := mX4_report) [.int (a1), .int (a2), .int (a3), .int (a4)] [.int (nI 0), .ref w] kX4 dL_report_9 wPL_17v wIX4_report wSX4_report iX4_report oX4_report rfl hok gu1776 (sX4_report Sc Γ n b0 hm1 hm4 (a1) (a2) (a3) (a4)) (Nat.le_of_ble_eq_true rfl) (Nat.le_of_ble_eq_true rfl) (Nat.le_of_ble_eq_true rfl) (Nat.le_of_ble_eq_true rfl) (Nat.le_of_ble_eq_true rfl) rfl (fun v1777 h qv1777 hok => ?_) (fun e1778 h qe1778 hok => ?_)
  rotate_left
  · have h9 : e1778 < 2 := (by have h8 := q_XI.x qe1778; exact h8)
    obtain rfl | rfl : e1778 = 0 ∨ e1778 = 1 := by omega
    · refine t_catch 17 rfl (by decide) rfl ?_
      refine q_astore_x dL_report_17 (by decide) ?_
      refine q_iconst (v := nI 1) dL_report_19 rfl ?_
      exact q_iret dL_report_20 rfl (rfl) ⟨⟨_, rfl⟩, hok, rfl⟩
    · refine t_catch 21 rfl (by decide) rfl ?_
      refine q_astore_x dL_report_21 (by decide) ?_
      refine q_iconst (v := nI 2) dL_report_23 rfl ?_
      exact q_iret dL_report_24 rfl (rfl) ⟨⟨_, rfl⟩, hok, rfl⟩
  obtain ⟨x1779, rfl⟩ := q_XI.v qv1777
  refine q_i2l dL_report_12 ?_
  refine t_last dL_report_13 hok hw (by exact vp_in_nI (by omega) (by omega)) (fun h hok => ?_)
  refine q_goto (tgt := 25) dL_report_14 (by decide) ?_
  refine q_iconst (v := nI 0) dL_report_25 rfl ?_
  exact q_iret dL_report_26 rfl (rfl) ⟨⟨_, rfl⟩, hok, rfl⟩
set_option maxRecDepth 20000 in
set_option maxHeartbeats 4000000 in
theorem sL_query (Sc : q_S) (Γ : Nat → q_K) (n : Nat) {a0 many : Nat} (b0 : kGF Γ a0 many) (hm1 : 1 ≤ many) (hm4 : many ≤ 4) (a1 : Int32) (a2 : Int32) (a3 : Int32) (a4 : Int32) (a5 : Int32) (b5 : q_bl a5) {w : Nat} (hw : Γ w = (5, 1, [])) : q_safe Sc Γ mL_query [.ref a0, .int (a1), .int (a2), .int (a3), .int (a4), .int (a5), .ref w] n 4 24 q_RI := by
  intro h hok
  show q_A Sc mL_query 0 [.ref a0, .int (a1), .int (a2), .int (a3), .int (a4), .int (a5), .ref w, .retAddr 0] [] h n 4 24 (fun O h' n' => (q_RI) O ∧ q_ok Γ h' ∧ n' = n)
  refine q_aload dL_query_0 rfl ?_
  refine q_iconst (v := nI 0) dL_query_2 rfl ?_
  refine q_aload_n dL_query_3 rfl ?_
  refine q_iload_n dL_query_4 rfl ?_
  refine q_iload_n dL_query_5 rfl ?_
  refine q_iload_n dL_query_6 rfl ?_
  refine q_iload dL_query_7 rfl ?_
  refine q_iload dL_query_9 rfl ?_
  obtain ⟨pu1780, qu1780, ru1780, gu1780, au1780, bu1780, cu1780, du1780⟩ := id b0
  refine t_callV (M' := mX4_query) [.int (a1), .int (a2), .int (a3), .int (a4), .int (a5)] [.int (nI 0), .ref w] kX4 dL_query_11 wPL_20v wIX4_query wSX4_query iX4_query oX4_query rfl hok gu1780 (sX4_query Sc Γ n b0 hm1 hm4 (a1) (a2) (a3) (a4) (a5) (b5)) (Nat.le_of_ble_eq_true rfl) (Nat.le_of_ble_eq_true rfl) (Nat.le_of_ble_eq_true rfl) (Nat.le_of_ble_eq_true rfl) (Nat.le_of_ble_eq_true rfl) rfl (fun v1781 h qv1781 hok => ?_) (fun e1782 h qe1782 hok => ?_)
  rotate_left
  · have h9 : e1782 < 2 := (by have h8 := q_XB.x qe1782; exact h8)
    obtain rfl | rfl : e1782 = 0 ∨ e1782 = 1 := by omega
    · refine t_catch 26 rfl (by decide) rfl ?_
      refine q_astore_x dL_query_26 (by decide) ?_
      refine q_iconst (v := nI 1) dL_query_28 rfl ?_
      exact q_iret dL_query_29 rfl (rfl) ⟨⟨_, rfl⟩, hok, rfl⟩
    · refine t_catch 30 rfl (by decide) rfl ?_
      refine q_astore_x dL_query_30 (by decide) ?_
      refine q_iconst (v := nI 2) dL_query_32 rfl ?_
      exact q_iret dL_query_33 rfl (rfl) ⟨⟨_, rfl⟩, hok, rfl⟩
  obtain ⟨x1783, rfl, bx1783⟩ := q_XB.v qv1781
  refine q_if_eq (tgt := 21) dL_query_14 (by decide) (fun c1784 => ?_) (fun c1784 => ?_)
  ·
    refine q_lconst dL_query_21 ?_
    refine t_last dL_query_22 hok hw (by exact vp_in_nI (by omega) (by omega)) (fun h hok => ?_)
    refine q_goto (tgt := 34) dL_query_23 (by decide) ?_
    refine q_iconst (v := nI 0) dL_query_34 rfl ?_
    exact q_iret dL_query_35 rfl (rfl) ⟨⟨_, rfl⟩, hok, rfl⟩
  ·
    refine q_lconst dL_query_17 ?_
    refine q_goto (tgt := 22) dL_query_18 (by decide) ?_
    refine t_last dL_query_22 hok hw (by exact vp_in_nI (by omega) (by omega)) (fun h hok => ?_)
    refine q_goto (tgt := 34) dL_query_23 (by decide) ?_
    refine q_iconst (v := nI 0) dL_query_34 rfl ?_
    exact q_iret dL_query_35 rfl (rfl) ⟨⟨_, rfl⟩, hok, rfl⟩
set_option maxRecDepth 20000 in
set_option maxHeartbeats 4000000 in
theorem sL_tick (Sc : q_S) (Γ : Nat → q_K) (n : Nat) {a0 many : Nat} (b0 : kGF Γ a0 many) (hm1 : 1 ≤ many) (hm4 : many ≤ 4) (a1 : Int32) {w : Nat} (hw : Γ w = (5, 1, [])) : q_safe Sc Γ mL_tick [.ref a0, .int (a1), .ref w] n 1 6 q_RI := by
  intro h hok
  show q_A Sc mL_tick 0 [.ref a0, .int (a1), .ref w, .retAddr 0] [] h n 1 6 (fun O h' n' => (q_RI) O ∧ q_ok Γ h' ∧ n' = n)
  refine q_aload_n dL_tick_0 rfl ?_
  refine q_iconst (v := nI 0) dL_tick_1 rfl ?_
  refine q_aload_n dL_tick_2 rfl ?_
  refine q_iload_n dL_tick_3 rfl ?_
  obtain ⟨pu1785, qu1785, ru1785, gu1785, au1785, bu1785, cu1785, du1785⟩ := id b0
  refine t_callV (M' := mX4_tick) [.int (a1)] [.int (nI 0), .ref w] kX4 dL_tick_4 wPL_24v wIX4_tick wSX4_tick iX4_tick oX4_tick rfl hok gu1785 (sX4_tick Sc Γ n b0 hm1 hm4 (a1)) (Nat.le_of_ble_eq_true rfl) (Nat.le_of_ble_eq_true rfl) (Nat.le_of_ble_eq_true rfl) (Nat.le_of_ble_eq_true rfl) (Nat.le_of_ble_eq_true rfl) rfl (fun v1786 h qv1786 hok => ?_) (fun e1787 h qe1787 hok => ?_)
  rotate_left
  · obtain rfl : e1787 = 1 := (by have h8 := q_XI.x qe1787; exact h8)
    refine t_catch 12 rfl (by decide) rfl ?_
    refine q_astore_n_x dL_tick_12 (by decide) ?_
    refine q_iconst (v := nI 1) dL_tick_13 rfl ?_
    exact q_iret dL_tick_14 rfl (rfl) ⟨⟨_, rfl⟩, hok, rfl⟩
  obtain ⟨x1788, rfl⟩ := q_XI.v qv1786
  refine q_i2l dL_tick_7 ?_
  refine t_last dL_tick_8 hok hw (by exact vp_in_nI (by omega) (by omega)) (fun h hok => ?_)
  refine q_goto (tgt := 15) dL_tick_9 (by decide) ?_
  refine q_iconst (v := nI 0) dL_tick_15 rfl ?_
  exact q_iret dL_tick_16 rfl (rfl) ⟨⟨_, rfl⟩, hok, rfl⟩
set_option maxRecDepth 20000 in
set_option maxHeartbeats 4000000 in
theorem sL_member (Sc : q_S) (Γ : Nat → q_K) (n : Nat) {a0 many : Nat} (b0 : kGF Γ a0 many) (hm1 : 1 ≤ many) (hm4 : many ≤ 4) (a1 : Int32) (a2 : Int32) (a3 : Int32) (a4 : Int32) (b4 : q_bl a4) (a5 : Int32) {w : Nat} (hw : Γ w = (5, 1, [])) : q_safe Sc Γ mL_member [.ref a0, .int (a1), .int (a2), .int (a3), .int (a4), .int (a5), .ref w] n 4 24 q_RI := by
  intro h hok
  show q_A Sc mL_member 0 [.ref a0, .int (a1), .int (a2), .int (a3), .int (a4), .int (a5), .ref w, .retAddr 0] [] h n 4 24 (fun O h' n' => (q_RI) O ∧ q_ok Γ h' ∧ n' = n)
  refine q_aload dL_member_0 rfl ?_
  refine q_iconst (v := nI 0) dL_member_2 rfl ?_
  refine q_aload_n dL_member_3 rfl ?_
  refine q_iload_n dL_member_4 rfl ?_
  refine q_iload_n dL_member_5 rfl ?_
  refine q_iload_n dL_member_6 rfl ?_
  refine q_iload dL_member_7 rfl ?_
  refine q_iload dL_member_9 rfl ?_
  obtain ⟨pu1789, qu1789, ru1789, gu1789, au1789, bu1789, cu1789, du1789⟩ := id b0
  refine t_callV (M' := mX4_member) [.int (a1), .int (a2), .int (a3), .int (a4), .int (a5)] [.int (nI 0), .ref w] kX4 dL_member_11 wPL_28v wIX4_member wSX4_member iX4_member oX4_member rfl hok gu1789 (sX4_member Sc Γ n b0 hm1 hm4 (a1) (a2) (a3) (a4) (b4) (a5)) (Nat.le_of_ble_eq_true rfl) (Nat.le_of_ble_eq_true rfl) (Nat.le_of_ble_eq_true rfl) (Nat.le_of_ble_eq_true rfl) (Nat.le_of_ble_eq_true rfl) rfl (fun v1790 h qv1790 hok => ?_) (fun e1791 h qe1791 hok => ?_)
  rotate_left
  · have h9 : e1791 < 2 := (by have h8 := q_XI.x qe1791; exact h8)
    obtain rfl | rfl : e1791 = 0 ∨ e1791 = 1 := by omega
    · refine t_catch 19 rfl (by decide) rfl ?_
      refine q_astore_x dL_member_19 (by decide) ?_
      refine q_iconst (v := nI 1) dL_member_21 rfl ?_
      exact q_iret dL_member_22 rfl (rfl) ⟨⟨_, rfl⟩, hok, rfl⟩
    · refine t_catch 23 rfl (by decide) rfl ?_
      refine q_astore_x dL_member_23 (by decide) ?_
      refine q_iconst (v := nI 2) dL_member_25 rfl ?_
      exact q_iret dL_member_26 rfl (rfl) ⟨⟨_, rfl⟩, hok, rfl⟩
  obtain ⟨x1792, rfl⟩ := q_XI.v qv1790
  refine q_i2l dL_member_14 ?_
  refine t_last dL_member_15 hok hw (by exact vp_in_nI (by omega) (by omega)) (fun h hok => ?_)
  refine q_goto (tgt := 27) dL_member_16 (by decide) ?_
  refine q_iconst (v := nI 0) dL_member_27 rfl ?_
  exact q_iret dL_member_28 rfl (rfl) ⟨⟨_, rfl⟩, hok, rfl⟩
set_option maxRecDepth 20000 in
set_option maxHeartbeats 4000000 in
theorem sL_answer (Sc : q_S) (Γ : Nat → q_K) (n : Nat) {a0 many : Nat} (b0 : kGF Γ a0 many) (hm1 : 1 ≤ many) (hm4 : many ≤ 4) (a1 : Int32) (a2 : Int32) {w : Nat} (hw : Γ w = (5, 1, [])) : q_safe Sc Γ mL_answer [.ref a0, .int (a1), .int (a2), .ref w] n 2 12 q_RI := by
  intro h hok
  show q_A Sc mL_answer 0 [.ref a0, .int (a1), .int (a2), .ref w, .retAddr 0] [] h n 2 12 (fun O h' n' => (q_RI) O ∧ q_ok Γ h' ∧ n' = n)
  refine q_aload_n dL_answer_0 rfl ?_
  refine q_iconst (v := nI 0) dL_answer_1 rfl ?_
  refine q_aload_n dL_answer_2 rfl ?_
  refine q_iload_n dL_answer_3 rfl ?_
  refine q_iload_n dL_answer_4 rfl ?_
  obtain ⟨pu1793, qu1793, ru1793, gu1793, au1793, bu1793, cu1793, du1793⟩ := id b0
  refine t_callV (M' := mX4_answer) [.int (a1), .int (a2)] [.int (nI 0), .ref w] kX4 dL_answer_5 wPL_32v wIX4_answer wSX4_answer iX4_answer oX4_answer rfl hok gu1793 (sX4_answer Sc Γ n b0 hm1 hm4 (a1) (a2)) (Nat.le_of_ble_eq_true rfl) (Nat.le_of_ble_eq_true rfl) (Nat.le_of_ble_eq_true rfl) (Nat.le_of_ble_eq_true rfl) (Nat.le_of_ble_eq_true rfl) rfl (fun v1794 h qv1794 hok => ?_) (fun e1795 h qe1795 hok => ?_)
  rotate_left
  · obtain rfl : e1795 = 0 := (by have h8 := q_XI.x qe1795; exact h8)
    refine t_catch 13 rfl (by decide) rfl ?_
    refine q_astore_x dL_answer_13 (by decide) ?_
    refine q_iconst (v := nI 1) dL_answer_15 rfl ?_
    exact q_iret dL_answer_16 rfl (rfl) ⟨⟨_, rfl⟩, hok, rfl⟩
  obtain ⟨x1796, rfl⟩ := q_XI.v qv1794
  refine q_i2l dL_answer_8 ?_
  refine t_last dL_answer_9 hok hw (by exact vp_in_nI (by omega) (by omega)) (fun h hok => ?_)
  refine q_goto (tgt := 17) dL_answer_10 (by decide) ?_
  refine q_iconst (v := nI 0) dL_answer_17 rfl ?_
  exact q_iret dL_answer_18 rfl (rfl) ⟨⟨_, rfl⟩, hok, rfl⟩
set_option maxRecDepth 20000 in
set_option maxHeartbeats 4000000 in
theorem sL_wanted (Sc : q_S) (Γ : Nat → q_K) (n : Nat) {a0 many : Nat} (b0 : kGF Γ a0 many) (hm1 : 1 ≤ many) (hm4 : many ≤ 4) (a1 : Int32) (a2 : Int32) (a3 : Int32) {w : Nat} (hw : Γ w = (5, 1, [])) : q_safe Sc Γ mL_wanted [.ref a0, .int (a1), .int (a2), .int (a3), .ref w] n 3 18 q_RI := by
  intro h hok
  show q_A Sc mL_wanted 0 [.ref a0, .int (a1), .int (a2), .int (a3), .ref w, .retAddr 0] [] h n 3 18 (fun O h' n' => (q_RI) O ∧ q_ok Γ h' ∧ n' = n)
  refine q_aload dL_wanted_0 rfl ?_
  refine q_iconst (v := nI 0) dL_wanted_2 rfl ?_
  refine q_aload_n dL_wanted_3 rfl ?_
  refine q_iload_n dL_wanted_4 rfl ?_
  refine q_iload_n dL_wanted_5 rfl ?_
  refine q_iload_n dL_wanted_6 rfl ?_
  obtain ⟨pu1797, qu1797, ru1797, gu1797, au1797, bu1797, cu1797, du1797⟩ := id b0
  refine t_callV (M' := mX4_wanted) [.int (a1), .int (a2), .int (a3)] [.int (nI 0), .ref w] kX4 dL_wanted_7 wPL_36v wIX4_wanted wSX4_wanted iX4_wanted oX4_wanted rfl hok gu1797 (sX4_wanted Sc Γ n b0 hm1 hm4 (a1) (a2) (a3)) (Nat.le_of_ble_eq_true rfl) (Nat.le_of_ble_eq_true rfl) (Nat.le_of_ble_eq_true rfl) (Nat.le_of_ble_eq_true rfl) (Nat.le_of_ble_eq_true rfl) rfl (fun v1798 h qv1798 hok => ?_) (fun e1799 h qe1799 hok => ?_)
  rotate_left
  · obtain rfl : e1799 = 0 := (by have h8 := q_XB.x qe1799; exact h8)
    refine t_catch 22 rfl (by decide) rfl ?_
    refine q_astore_x dL_wanted_22 (by decide) ?_
    refine q_iconst (v := nI 1) dL_wanted_24 rfl ?_
    exact q_iret dL_wanted_25 rfl (rfl) ⟨⟨_, rfl⟩, hok, rfl⟩
  obtain ⟨x1800, rfl, bx1800⟩ := q_XB.v qv1798
  refine q_if_eq (tgt := 17) dL_wanted_10 (by decide) (fun c1801 => ?_) (fun c1801 => ?_)
  ·
    refine q_lconst dL_wanted_17 ?_
    refine t_last dL_wanted_18 hok hw (by exact vp_in_nI (by omega) (by omega)) (fun h hok => ?_)
    refine q_goto (tgt := 26) dL_wanted_19 (by decide) ?_
    refine q_iconst (v := nI 0) dL_wanted_26 rfl ?_
    exact q_iret dL_wanted_27 rfl (rfl) ⟨⟨_, rfl⟩, hok, rfl⟩
  ·
    refine q_lconst dL_wanted_13 ?_
    refine q_goto (tgt := 18) dL_wanted_14 (by decide) ?_
    refine t_last dL_wanted_18 hok hw (by exact vp_in_nI (by omega) (by omega)) (fun h hok => ?_)
    refine q_goto (tgt := 26) dL_wanted_19 (by decide) ?_
    refine q_iconst (v := nI 0) dL_wanted_26 rfl ?_
    exact q_iret dL_wanted_27 rfl (rfl) ⟨⟨_, rfl⟩, hok, rfl⟩
set_option maxRecDepth 20000 in
set_option maxHeartbeats 4000000 in
theorem sL_passed (Sc : q_S) (Γ : Nat → q_K) (n : Nat) {a0 many : Nat} (b0 : kGF Γ a0 many) (hm1 : 1 ≤ many) (hm4 : many ≤ 4) (a1 : Int32) (a2 : Int32) (a3 : Int32) {w : Nat} (hw : Γ w = (5, 1, [])) : q_safe Sc Γ mL_passed [.ref a0, .int (a1), .int (a2), .int (a3), .ref w] n 3 18 q_RI := by
  intro h hok
  show q_A Sc mL_passed 0 [.ref a0, .int (a1), .int (a2), .int (a3), .ref w, .retAddr 0] [] h n 3 18 (fun O h' n' => (q_RI) O ∧ q_ok Γ h' ∧ n' = n)
  refine q_aload dL_passed_0 rfl ?_
  refine q_iconst (v := nI 0) dL_passed_2 rfl ?_
  refine q_aload_n dL_passed_3 rfl ?_
  refine q_iload_n dL_passed_4 rfl ?_
  refine q_iload_n dL_passed_5 rfl ?_
  refine q_iload_n dL_passed_6 rfl ?_
  obtain ⟨pu1802, qu1802, ru1802, gu1802, au1802, bu1802, cu1802, du1802⟩ := id b0
  refine t_callV (M' := mX4_passed) [.int (a1), .int (a2), .int (a3)] [.int (nI 0), .ref w] kX4 dL_passed_7 wPL_40v wIX4_passed wSX4_passed iX4_passed oX4_passed rfl hok gu1802 (sX4_passed Sc Γ n b0 hm1 hm4 (a1) (a2) (a3)) (Nat.le_of_ble_eq_true rfl) (Nat.le_of_ble_eq_true rfl) (Nat.le_of_ble_eq_true rfl) (Nat.le_of_ble_eq_true rfl) (Nat.le_of_ble_eq_true rfl) rfl (fun v1803 h qv1803 hok => ?_) (fun e1804 h qe1804 hok => ?_)
  rotate_left
  · obtain rfl : e1804 = 0 := (by have h8 := q_XI.x qe1804; exact h8)
    refine t_catch 15 rfl (by decide) rfl ?_
    refine q_astore_x dL_passed_15 (by decide) ?_
    refine q_iconst (v := nI 1) dL_passed_17 rfl ?_
    exact q_iret dL_passed_18 rfl (rfl) ⟨⟨_, rfl⟩, hok, rfl⟩
  obtain ⟨x1805, rfl⟩ := q_XI.v qv1803
  refine q_i2l dL_passed_10 ?_
  refine t_last dL_passed_11 hok hw (by exact vp_in_nI (by omega) (by omega)) (fun h hok => ?_)
  refine q_goto (tgt := 19) dL_passed_12 (by decide) ?_
  refine q_iconst (v := nI 0) dL_passed_19 rfl ?_
  exact q_iret dL_passed_20 rfl (rfl) ⟨⟨_, rfl⟩, hok, rfl⟩
set_option maxRecDepth 20000 in
set_option maxHeartbeats 4000000 in
theorem sL_mode (Sc : q_S) (Γ : Nat → q_K) (n : Nat) {a0 many : Nat} (b0 : kGF Γ a0 many) (hm1 : 1 ≤ many) (hm4 : many ≤ 4) (a1 : Int32) (a2 : Int32) {w : Nat} (hw : Γ w = (5, 1, [])) : q_safe Sc Γ mL_mode [.ref a0, .int (a1), .int (a2), .ref w] n 2 12 q_RI := by
  intro h hok
  show q_A Sc mL_mode 0 [.ref a0, .int (a1), .int (a2), .ref w, .retAddr 0] [] h n 2 12 (fun O h' n' => (q_RI) O ∧ q_ok Γ h' ∧ n' = n)
  refine q_aload_n dL_mode_0 rfl ?_
  refine q_iconst (v := nI 0) dL_mode_1 rfl ?_
  refine q_aload_n dL_mode_2 rfl ?_
  refine q_iload_n dL_mode_3 rfl ?_
  refine q_iload_n dL_mode_4 rfl ?_
  obtain ⟨pu1806, qu1806, ru1806, gu1806, au1806, bu1806, cu1806, du1806⟩ := id b0
  refine t_callV (M' := mX4_mode) [.int (a1), .int (a2)] [.int (nI 0), .ref w] kX4 dL_mode_5 wPL_44v wIX4_mode wSX4_mode iX4_mode oX4_mode rfl hok gu1806 (sX4_mode Sc Γ n b0 hm1 hm4 (a1) (a2)) (Nat.le_of_ble_eq_true rfl) (Nat.le_of_ble_eq_true rfl) (Nat.le_of_ble_eq_true rfl) (Nat.le_of_ble_eq_true rfl) (Nat.le_of_ble_eq_true rfl) rfl (fun v1807 h qv1807 hok => ?_) (fun e1808 h qe1808 hok => ?_)
  rotate_left
  · obtain rfl : e1808 = 0 := (by have h8 := q_XI.x qe1808; exact h8)
    refine t_catch 13 rfl (by decide) rfl ?_
    refine q_astore_x dL_mode_13 (by decide) ?_
    refine q_iconst (v := nI 1) dL_mode_15 rfl ?_
    exact q_iret dL_mode_16 rfl (rfl) ⟨⟨_, rfl⟩, hok, rfl⟩
  obtain ⟨x1809, rfl⟩ := q_XI.v qv1807
  refine q_i2l dL_mode_8 ?_
  refine t_last dL_mode_9 hok hw (by exact vp_in_nI (by omega) (by omega)) (fun h hok => ?_)
  refine q_goto (tgt := 17) dL_mode_10 (by decide) ?_
  refine q_iconst (v := nI 0) dL_mode_17 rfl ?_
  exact q_iret dL_mode_18 rfl (rfl) ⟨⟨_, rfl⟩, hok, rfl⟩
set_option maxRecDepth 20000 in
set_option maxHeartbeats 4000000 in
theorem sL_sources (Sc : q_S) (Γ : Nat → q_K) (n : Nat) {a0 many : Nat} (b0 : kGF Γ a0 many) (hm1 : 1 ≤ many) (hm4 : many ≤ 4) (a1 : Int32) (a2 : Int32) (a3 : Int32) (b3 : q_bl a3) {w : Nat} (hw : Γ w = (5, 1, [])) : q_safe Sc Γ mL_sources [.ref a0, .int (a1), .int (a2), .int (a3), .ref w] n 2 12 q_RI := by
  intro h hok
  show q_A Sc mL_sources 0 [.ref a0, .int (a1), .int (a2), .int (a3), .ref w, .retAddr 0] [] h n 2 12 (fun O h' n' => (q_RI) O ∧ q_ok Γ h' ∧ n' = n)
  refine q_aload dL_sources_0 rfl ?_
  refine q_iconst (v := nI 0) dL_sources_2 rfl ?_
  refine q_aload_n dL_sources_3 rfl ?_
  refine q_iload_n dL_sources_4 rfl ?_
  refine q_iload_n dL_sources_5 rfl ?_
  refine q_iload_n dL_sources_6 rfl ?_
  obtain ⟨pu1810, qu1810, ru1810, gu1810, au1810, bu1810, cu1810, du1810⟩ := id b0
  refine t_callV (M' := mX4_sources) [.int (a1), .int (a2), .int (a3)] [.int (nI 0), .ref w] kX4 dL_sources_7 wPL_47v wIX4_sources wSX4_sources iX4_sources oX4_sources rfl hok gu1810 (sX4_sources Sc Γ n b0 hm1 hm4 (a1) (a2) (a3) (b3)) (Nat.le_of_ble_eq_true rfl) (Nat.le_of_ble_eq_true rfl) (Nat.le_of_ble_eq_true rfl) (Nat.le_of_ble_eq_true rfl) (Nat.le_of_ble_eq_true rfl) rfl (fun v1811 h qv1811 hok => ?_) (fun e1812 h qe1812 hok => ?_)
  rotate_left
  · obtain rfl : e1812 = 0 := (by have h8 := q_XI.x qe1812; exact h8)
    refine t_catch 15 rfl (by decide) rfl ?_
    refine q_astore_x dL_sources_15 (by decide) ?_
    refine q_iconst (v := nI 1) dL_sources_17 rfl ?_
    exact q_iret dL_sources_18 rfl (rfl) ⟨⟨_, rfl⟩, hok, rfl⟩
  obtain ⟨x1813, rfl⟩ := q_XI.v qv1811
  refine q_i2l dL_sources_10 ?_
  refine t_last dL_sources_11 hok hw (by exact vp_in_nI (by omega) (by omega)) (fun h hok => ?_)
  refine q_goto (tgt := 19) dL_sources_12 (by decide) ?_
  refine q_iconst (v := nI 0) dL_sources_19 rfl ?_
  exact q_iret dL_sources_20 rfl (rfl) ⟨⟨_, rfl⟩, hok, rfl⟩
set_option maxRecDepth 20000 in
set_option maxHeartbeats 4000000 in
theorem sL_timer (Sc : q_S) (Γ : Nat → q_K) (n : Nat) {a0 many : Nat} (b0 : kGF Γ a0 many) (hm1 : 1 ≤ many) (hm4 : many ≤ 4) (a1 : Int32) (a2 : Int32) (a3 : Int32) {w : Nat} (hw : Γ w = (5, 1, [])) : q_safe Sc Γ mL_timer [.ref a0, .int (a1), .int (a2), .int (a3), .ref w] n 3 18 q_RI := by
  intro h hok
  show q_A Sc mL_timer 0 [.ref a0, .int (a1), .int (a2), .int (a3), .ref w, .retAddr 0] [] h n 3 18 (fun O h' n' => (q_RI) O ∧ q_ok Γ h' ∧ n' = n)
  refine q_aload dL_timer_0 rfl ?_
  refine q_iconst (v := nI 0) dL_timer_2 rfl ?_
  refine q_aload_n dL_timer_3 rfl ?_
  refine q_iload_n dL_timer_4 rfl ?_
  refine q_iload_n dL_timer_5 rfl ?_
  refine q_iload_n dL_timer_6 rfl ?_
  obtain ⟨pu1814, qu1814, ru1814, gu1814, au1814, bu1814, cu1814, du1814⟩ := id b0
  refine t_callV (M' := mX4_timer) [.int (a1), .int (a2), .int (a3)] [.int (nI 0), .ref w] kX4 dL_timer_7 wPL_51v wIX4_timer wSX4_timer iX4_timer oX4_timer rfl hok gu1814 (sX4_timer Sc Γ n b0 hm1 hm4 (a1) (a2) (a3)) (Nat.le_of_ble_eq_true rfl) (Nat.le_of_ble_eq_true rfl) (Nat.le_of_ble_eq_true rfl) (Nat.le_of_ble_eq_true rfl) (Nat.le_of_ble_eq_true rfl) rfl (fun v1815 h qv1815 hok => ?_) (fun e1816 h qe1816 hok => ?_)
  rotate_left
  · obtain rfl : e1816 = 0 := (by have h8 := q_XI.x qe1816; exact h8)
    refine t_catch 15 rfl (by decide) rfl ?_
    refine q_astore_x dL_timer_15 (by decide) ?_
    refine q_iconst (v := nI 1) dL_timer_17 rfl ?_
    exact q_iret dL_timer_18 rfl (rfl) ⟨⟨_, rfl⟩, hok, rfl⟩
  obtain ⟨x1817, rfl⟩ := q_XI.v qv1815
  refine q_i2l dL_timer_10 ?_
  refine t_last dL_timer_11 hok hw (by exact vp_in_nI (by omega) (by omega)) (fun h hok => ?_)
  refine q_goto (tgt := 19) dL_timer_12 (by decide) ?_
  refine q_iconst (v := nI 0) dL_timer_19 rfl ?_
  exact q_iret dL_timer_20 rfl (rfl) ⟨⟨_, rfl⟩, hok, rfl⟩
set_option maxRecDepth 20000 in
set_option maxHeartbeats 4000000 in
theorem sL_groupTimer (Sc : q_S) (Γ : Nat → q_K) (n : Nat) {a0 many : Nat} (b0 : kGF Γ a0 many) (hm1 : 1 ≤ many) (hm4 : many ≤ 4) (a1 : Int32) (a2 : Int32) {w : Nat} (hw : Γ w = (5, 1, [])) : q_safe Sc Γ mL_groupTimer [.ref a0, .int (a1), .int (a2), .ref w] n 2 12 q_RI := by
  intro h hok
  show q_A Sc mL_groupTimer 0 [.ref a0, .int (a1), .int (a2), .ref w, .retAddr 0] [] h n 2 12 (fun O h' n' => (q_RI) O ∧ q_ok Γ h' ∧ n' = n)
  refine q_aload_n dL_groupTimer_0 rfl ?_
  refine q_iconst (v := nI 0) dL_groupTimer_1 rfl ?_
  refine q_aload_n dL_groupTimer_2 rfl ?_
  refine q_iload_n dL_groupTimer_3 rfl ?_
  refine q_iload_n dL_groupTimer_4 rfl ?_
  obtain ⟨pu1818, qu1818, ru1818, gu1818, au1818, bu1818, cu1818, du1818⟩ := id b0
  refine t_callV (M' := mX4_groupTimer) [.int (a1), .int (a2)] [.int (nI 0), .ref w] kX4 dL_groupTimer_5 wPL_54v wIX4_groupTimer wSX4_groupTimer iX4_groupTimer oX4_groupTimer rfl hok gu1818 (sX4_groupTimer Sc Γ n b0 hm1 hm4 (a1) (a2)) (Nat.le_of_ble_eq_true rfl) (Nat.le_of_ble_eq_true rfl) (Nat.le_of_ble_eq_true rfl) (Nat.le_of_ble_eq_true rfl) (Nat.le_of_ble_eq_true rfl) rfl (fun v1819 h qv1819 hok => ?_) (fun e1820 h qe1820 hok => ?_)
  rotate_left
  · obtain rfl : e1820 = 0 := (by have h8 := q_XI.x qe1820; exact h8)
    refine t_catch 13 rfl (by decide) rfl ?_
    refine q_astore_x dL_groupTimer_13 (by decide) ?_
    refine q_iconst (v := nI 1) dL_groupTimer_15 rfl ?_
    exact q_iret dL_groupTimer_16 rfl (rfl) ⟨⟨_, rfl⟩, hok, rfl⟩
  obtain ⟨x1821, rfl⟩ := q_XI.v qv1819
  refine q_i2l dL_groupTimer_8 ?_
  refine t_last dL_groupTimer_9 hok hw (by exact vp_in_nI (by omega) (by omega)) (fun h hok => ?_)
  refine q_goto (tgt := 17) dL_groupTimer_10 (by decide) ?_
  refine q_iconst (v := nI 0) dL_groupTimer_17 rfl ?_
  exact q_iret dL_groupTimer_18 rfl (rfl) ⟨⟨_, rfl⟩, hok, rfl⟩
set_option maxRecDepth 20000 in
set_option maxHeartbeats 4000000 in
theorem sL_asked (Sc : q_S) (Γ : Nat → q_K) (n : Nat) {a0 many : Nat} (b0 : kGF Γ a0 many) (hm1 : 1 ≤ many) (hm4 : many ≤ 4) (a1 : Int32) (a2 : Int32) {w : Nat} (hw : Γ w = (5, 1, [])) : q_safe Sc Γ mL_asked [.ref a0, .int (a1), .int (a2), .ref w] n 2 12 q_RI := by
  intro h hok
  show q_A Sc mL_asked 0 [.ref a0, .int (a1), .int (a2), .ref w, .retAddr 0] [] h n 2 12 (fun O h' n' => (q_RI) O ∧ q_ok Γ h' ∧ n' = n)
  refine q_aload_n dL_asked_0 rfl ?_
  refine q_iconst (v := nI 0) dL_asked_1 rfl ?_
  refine q_aload_n dL_asked_2 rfl ?_
  refine q_iload_n dL_asked_3 rfl ?_
  refine q_iload_n dL_asked_4 rfl ?_
  obtain ⟨pu1822, qu1822, ru1822, gu1822, au1822, bu1822, cu1822, du1822⟩ := id b0
  refine t_callV (M' := mX4_asked) [.int (a1), .int (a2)] [.int (nI 0), .ref w] kX4 dL_asked_5 wPL_57v wIX4_asked wSX4_asked iX4_asked oX4_asked rfl hok gu1822 (sX4_asked Sc Γ n b0 hm1 hm4 (a1) (a2)) (Nat.le_of_ble_eq_true rfl) (Nat.le_of_ble_eq_true rfl) (Nat.le_of_ble_eq_true rfl) (Nat.le_of_ble_eq_true rfl) (Nat.le_of_ble_eq_true rfl) rfl (fun v1823 h qv1823 hok => ?_) (fun e1824 h qe1824 hok => ?_)
  rotate_left
  · have h9 : e1824 < 2 := (by have h8 := q_XI.x qe1824; exact h8)
    obtain rfl | rfl : e1824 = 0 ∨ e1824 = 1 := by omega
    · refine t_catch 13 rfl (by decide) rfl ?_
      refine q_astore_x dL_asked_13 (by decide) ?_
      refine q_iconst (v := nI 1) dL_asked_15 rfl ?_
      exact q_iret dL_asked_16 rfl (rfl) ⟨⟨_, rfl⟩, hok, rfl⟩
    · refine t_catch 17 rfl (by decide) rfl ?_
      refine q_astore_x dL_asked_17 (by decide) ?_
      refine q_iconst (v := nI 2) dL_asked_19 rfl ?_
      exact q_iret dL_asked_20 rfl (rfl) ⟨⟨_, rfl⟩, hok, rfl⟩
  obtain ⟨x1825, rfl⟩ := q_XI.v qv1823
  refine q_i2l dL_asked_8 ?_
  refine t_last dL_asked_9 hok hw (by exact vp_in_nI (by omega) (by omega)) (fun h hok => ?_)
  refine q_goto (tgt := 21) dL_asked_10 (by decide) ?_
  refine q_iconst (v := nI 0) dL_asked_21 rfl ?_
  exact q_iret dL_asked_22 rfl (rfl) ⟨⟨_, rfl⟩, hok, rfl⟩
set_option maxRecDepth 20000 in
set_option maxHeartbeats 4000000 in
theorem sL_told (Sc : q_S) (Γ : Nat → q_K) (n : Nat) {a0 many : Nat} (b0 : kGF Γ a0 many) (hm1 : 1 ≤ many) (hm4 : many ≤ 4) (a1 : Int32) (a2 : Int32) {w : Nat} (hw : Γ w = (5, 1, [])) : q_safe Sc Γ mL_told [.ref a0, .int (a1), .int (a2), .ref w] n 2 12 q_RI := by
  intro h hok
  show q_A Sc mL_told 0 [.ref a0, .int (a1), .int (a2), .ref w, .retAddr 0] [] h n 2 12 (fun O h' n' => (q_RI) O ∧ q_ok Γ h' ∧ n' = n)
  refine q_aload_n dL_told_0 rfl ?_
  refine q_iconst (v := nI 0) dL_told_1 rfl ?_
  refine q_aload_n dL_told_2 rfl ?_
  refine q_iload_n dL_told_3 rfl ?_
  refine q_iload_n dL_told_4 rfl ?_
  obtain ⟨pu1826, qu1826, ru1826, gu1826, au1826, bu1826, cu1826, du1826⟩ := id b0
  refine t_callV (M' := mX4_told) [.int (a1), .int (a2)] [.int (nI 0), .ref w] kX4 dL_told_5 wPL_60v wIX4_told wSX4_told iX4_told oX4_told rfl hok gu1826 (sX4_told Sc Γ n b0 hm1 hm4 (a1) (a2)) (Nat.le_of_ble_eq_true rfl) (Nat.le_of_ble_eq_true rfl) (Nat.le_of_ble_eq_true rfl) (Nat.le_of_ble_eq_true rfl) (Nat.le_of_ble_eq_true rfl) rfl (fun v1827 h qv1827 hok => ?_) (fun e1828 h qe1828 hok => ?_)
  rotate_left
  · have h9 : e1828 < 2 := (by have h8 := q_XI.x qe1828; exact h8)
    obtain rfl | rfl : e1828 = 0 ∨ e1828 = 1 := by omega
    · refine t_catch 13 rfl (by decide) rfl ?_
      refine q_astore_x dL_told_13 (by decide) ?_
      refine q_iconst (v := nI 1) dL_told_15 rfl ?_
      exact q_iret dL_told_16 rfl (rfl) ⟨⟨_, rfl⟩, hok, rfl⟩
    · refine t_catch 17 rfl (by decide) rfl ?_
      refine q_astore_x dL_told_17 (by decide) ?_
      refine q_iconst (v := nI 2) dL_told_19 rfl ?_
      exact q_iret dL_told_20 rfl (rfl) ⟨⟨_, rfl⟩, hok, rfl⟩
  obtain ⟨x1829, rfl⟩ := q_XI.v qv1827
  refine q_i2l dL_told_8 ?_
  refine t_last dL_told_9 hok hw (by exact vp_in_nI (by omega) (by omega)) (fun h hok => ?_)
  refine q_goto (tgt := 21) dL_told_10 (by decide) ?_
  refine q_iconst (v := nI 0) dL_told_21 rfl ?_
  exact q_iret dL_told_22 rfl (rfl) ⟨⟨_, rfl⟩, hok, rfl⟩
theorem gs_id {Γ : Nat → q_K} {w : Nat} {k : q_K} {h : q_H} (hw : Γ w = k) (hok : q_ok Γ h) : q_ok (gset Γ w k) h := fun j => by
  by_cases hj : j = w
  · subst hj
    rw [gs_at, ← hw]
    exact hok j
  · rw [gs_ne hj]
    exact hok j
theorem q_one_set {a : List Int64} (h : a.length = 1) (x : Int64) : a.set 0 x = [x] := by
  match a, h with
  | [_], _ => rfl
set_option maxHeartbeats 4000000 in
theorem eL_settings (Sc : q_S) (Γ : Nat → q_K) (n : Nat) {g many : Nat} (hG : kGF Γ g many) (hm1 : 1 ≤ many) (hm4 : many ≤ 4) (l r q d : Int32) {w : Nat} (hw : Γ w = (5, 1, [])) (h : q_H) (hok : q_ok Γ h) : q_A Sc mL_settings 0 [.ref g, .int l, .int r, .int q, .int d, .ref w, .retAddr 0] [] h n 4 24 (fun O h' n' => ∃ (k v : Nat) (K : q_K), q_hS l.toInt r.toInt q.toInt d.toInt many k v ∧ O = .inl (some (.int (nI k))) ∧ q_ok (gset Γ w K) h' ∧ (∀ c, q_okc K c → q_okc (5, 1, []) c) ∧ (k = 0 → K = (7, v, [])) ∧ n' = n) := by
  obtain ⟨la, lg, ps, g0, -⟩ := id hG
  refine q_aload dL_settings_0 rfl ?_
  refine q_iconst (v := nI 0) dL_settings_2 rfl ?_
  refine q_aload_n dL_settings_3 rfl ?_
  refine q_iload_n dL_settings_4 rfl ?_
  refine q_iload_n dL_settings_5 rfl ?_
  refine q_iload_n dL_settings_6 rfl ?_
  refine q_iload dL_settings_7 rfl ?_
  refine t_callV (M' := mX4_settings) [.int l, .int r, .int q, .int d] [.int (nI 0), .ref w] kX4 dL_settings_9 wPL_7v wIX4_settings wSX4_settings iX4_settings oX4_settings rfl hok g0 (eX4_settings Sc Γ n hG hm1 hm4 l r q d) (Nat.le_of_ble_eq_true rfl) (Nat.le_of_ble_eq_true rfl) (Nat.le_of_ble_eq_true rfl) (Nat.le_of_ble_eq_true rfl) (Nat.le_of_ble_eq_true rfl) rfl (fun v h qv hok => ?_) (fun x h qx hok => ?_)
  · obtain ⟨k, v2, hk, ⟨rfl, e⟩ | ⟨-, e⟩ | ⟨-, e⟩⟩ := qv
    · obtain rfl := Sum.inl.inj e
      refine q_i2l dL_settings_12 ?_
      obtain ⟨a, h1, h2⟩ := hok.l hw
      refine q_last dL_settings_13 h1 rfl (by rw [h2]; exact vp_in_nI (by omega) (by omega)) ?_
      have hok2 : q_ok (gset Γ w (7, v2, [])) (q_up h w (.inr (.inr (.inr (5, a.set (nI 0).toNatClampNeg (nI v2).toInt64))))) := gs_ok hok (by
        show _ = _
        rw [nI_clamp (by decide), q_one_set h2])
      refine q_goto (tgt := 25) dL_settings_14 (by decide) ?_
      refine q_iconst (v := nI 0) dL_settings_25 rfl ?_
      exact q_iret dL_settings_26 rfl (rfl) ⟨0, v2, _, hk, rfl, hok2, fun c hc => ⟨_, hc, rfl⟩, fun _ => rfl, rfl⟩
    · cases e
    · cases e
  · obtain ⟨k, v2, hk, ⟨-, e⟩ | ⟨rfl, e⟩ | ⟨rfl, e⟩⟩ := qx
    · cases e
    · obtain rfl := Sum.inr.inj e
      refine t_catch 17 rfl (by decide) rfl ?_
      refine q_astore_x dL_settings_17 (by decide) ?_
      refine q_iconst (v := nI 1) dL_settings_19 rfl ?_
      exact q_iret dL_settings_20 rfl (rfl) ⟨1, v2, _, hk, rfl, gs_id hw hok, fun _ hc => hc, fun e => absurd e (by decide), rfl⟩
    · obtain rfl := Sum.inr.inj e
      refine t_catch 21 rfl (by decide) rfl ?_
      refine q_astore_x dL_settings_21 (by decide) ?_
      refine q_iconst (v := nI 2) dL_settings_23 rfl ?_
      exact q_iret dL_settings_24 rfl (rfl) ⟨2, v2, _, hk, rfl, gs_id hw hok, fun _ hc => hc, fun e => absurd e (by decide), rfl⟩
def q_c0 (Sc : q_S) : Int32 := if 0 < Sc.1 then Sc.2 0 else nI 0
theorem eL_cell (Sc : q_S) (hS : Sc.1 ≤ 3073) (Γ : Nat → q_K) (n : Nat) : q_safe Sc Γ mL_cell [.float 1, .int (nI 0)] n 0 0 (fun O => O = .inl (some (.int (q_c0 Sc)))) := by
  intro h hok
  show q_A Sc mL_cell 0 [.float 1, .int (nI 0)] [] h n 0 0 (fun O h' n' => O = .inl (some (.int (q_c0 Sc))) ∧ q_ok Γ h' ∧ n' = n)
  refine q_iload_n dL_cell_0 rfl ?_
  refine q_aload_n_x dL_cell_1 rfl ?_
  refine q_slen dL_cell_2 ?_
  refine t_icmp_ge_n (tgt := 12) (by omega) (by omega) dL_cell_3 (by decide) (fun c => ?_) (fun c => ?_)
  · refine q_iconst (v := nI 0) dL_cell_12 rfl ?_
    exact q_iret dL_cell_13 rfl (rfl) ⟨by unfold q_c0; rw [if_neg (by omega)], hok, rfl⟩
  · refine q_aload_n_x dL_cell_6 rfl ?_
    refine q_iload_n dL_cell_7 rfl ?_
    refine q_sld dL_cell_8 (vp_in_nI c (by omega)) ?_
    refine q_goto (tgt := 13) dL_cell_9 (by decide) ?_
    exact q_iret dL_cell_13 rfl (rfl) ⟨by unfold q_c0; rw [if_pos c, nI_clamp (by decide)], hok, rfl⟩

