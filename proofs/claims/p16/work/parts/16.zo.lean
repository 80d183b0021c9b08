section QLAW
variable {Sc : q_S} {M : q_M} {pc : Nat} {L st : List Value} {h : q_H} {n kc ks : Nat} {Q : q_O → q_H → Nat → Prop}
theorem t_catch {x : Nat} (hpc : Nat) (hf : q_hf M pc x = some hpc) (hall : ∀ r ∈ q_hs M, (q_ct r.2.2.2).isSome = true) (hown : q_own M = "GroupFiltersLaw") (k : q_A Sc M hpc L [.float 0] h n kc ks Q) : q_Th Sc M pc L h n kc ks Q x := by
  unfold q_Th
  rw [hf]
  exact ⟨hall, hown, k⟩
theorem q_lconst {j : Fin 2} (hd : decode (q_cc M) pc = .ok (.lconst j, 1)) (k : q_A Sc M (pc + 1) L (.long (Int64.ofNat j) :: st) h n kc ks Q) : q_A Sc M pc L st h n kc ks Q := by
  intro D dT H0 p l e R s m args below meth c H locs cells slots ls st' sb ws ads0 kc' ks' g T hT X
  obtain ⟨hF, hW, hL, hS, hr⟩ := g
  obtain ⟨t, a, b⟩ := k D dT H0 p l e R s m args below meth c H locs cells slots ls (.long (Int64.ofNat j) :: st') sb ws ads0 kc' ks' ⟨hF, hW, hL, ⟨_, _, rfl, rfl, hS⟩, hr⟩ T hT X
  refine ⟨t, ?_, b⟩
  have hexec := hF.1
  have hb := hF.2.1
  jvm_step X.here [X.here.top, hexec, hb, hd]
  exact a
theorem q_lcmp {x y : Int64} (hd : decode (q_cc M) pc = .ok (.lcmp, 1)) (k : q_A Sc M (pc + 1) L (.int (lg_cmp x y) :: st) h n kc ks Q) : q_A Sc M pc L (.long y :: .long x :: st) h n kc ks Q := by
  intro D dT H0 p l e R s m args below meth c H locs cells slots ls st' sb ws ads0 kc' ks' g
  obtain ⟨hF, hW, hL, ⟨_, _, rfl, rfl, _, _, rfl, rfl, hS⟩, hr⟩ := g
  exact W.lcmp hF.1 hF.2.1 hd (k D dT H0 p l e R s m args below meth c H locs cells slots ls _ sb ws ads0 kc' ks' ⟨hF, hW, hL, ⟨_, _, rfl, rfl, hS⟩, hr⟩)
end QLAW

def q_hlp (G1 G2 : Prop) (c1 c2 : Nat) (V : q_V) (w : Nat) (x : Int32) (S : q_V) : q_O → q_V → Prop := fun O F => (¬ G1 ∧ O = .inl (some (.int (nI c1))) ∧ V = F) ∨ (G1 ∧ ¬ G2 ∧ O = .inl (some (.int (nI c2))) ∧ V = F) ∨ (G1 ∧ G2 ∧ O = .inl (some (.int (nI 0))) ∧ vset S w 0 x = F)
def q_hlq (G : Prop) (V : q_V) (w : Nat) (S : q_V) : q_O → q_V → Prop := fun O F => (¬ G ∧ (∃ k, O = .inl (some (.int k))) ∧ V = F) ∨ (G ∧ O = .inl (some (.int (nI 0))) ∧ ∃ x, vset S w 0 x = F)
theorem inZ.nn {a : Int32} {H : Int} (h : inZ a 0 H) : (nn a : Int) < H := by
  have h1 := h.1
  have h2 := h.2
  show ((a.toInt.toNat : Nat) : Int) < H
  omega
set_option maxHeartbeats 4000000 in
theorem hL_settings (Sc : q_S) (Γ : Nat → q_K) (n : Nat) (V : q_V) (X many : Nat) (H : sGF Γ X many) (hm1 : 1 ≤ many) (hm4 : many ≤ 4) (a1 : Int32) (a2 : Int32) (a3 : Int32) (a4 : Int32) (w : Nat) (hw : Γ w = (5, 1, [])) : q_fp Sc Γ mL_settings [.ref X, .int (a1), .int (a2), .int (a3), .int (a4), .ref w] n 4 24 V (q_hlp (inZ a1 0 ((many : Int))) (inZ a2 1 8 ∧ inZ a3 1 201 ∧ inZ a4 1 (a3.toInt + 1)) 1 2 V w ((vX4_settings X many (nn a1) a2 a3 a4 V)) (fX4_settings X many (nn a1) a2 a3 a4 V)) := by
  intro h hok
  show q_A Sc mL_settings 0 [.ref X, .int (a1), .int (a2), .int (a3), .int (a4), .ref w, .retAddr 0] [] h n 4 24 (fun O h' n' => ∃ F, (q_hlp (inZ a1 0 ((many : Int))) (inZ a2 1 8 ∧ inZ a3 1 201 ∧ inZ a4 1 (a3.toInt + 1)) 1 2 V w ((vX4_settings X many (nn a1) a2 a3 a4 V)) (fX4_settings X many (nn a1) a2 a3 a4 V)) O F ∧ q_ok (gX Γ F) h' ∧ n' = n)
  refine q_aload dL_settings_0 rfl ?_
  refine q_iconst (v := nI 0) dL_settings_2 rfl ?_
  refine q_aload_n dL_settings_3 rfl ?_
  refine q_iload_n dL_settings_4 rfl ?_
  refine q_iload_n dL_settings_5 rfl ?_
  refine q_iload_n dL_settings_6 rfl ?_
  refine q_iload dL_settings_7 rfl ?_
  refine w_callV (M' := mX4_settings) [.int (a1), .int (a2), .int (a3), .int (a4)] [.int (nI 0), .ref w] kX4 dL_settings_9 wPL_7v wIX4_settings wSX4_settings iX4_settings oX4_settings rfl hok H.1 (pX4_settings Sc Γ n V X many H hm1 hm4 a1 a2 a3 a4) (Nat.le_of_ble_eq_true rfl) (Nat.le_of_ble_eq_true rfl) (Nat.le_of_ble_eq_true rfl) (Nat.le_of_ble_eq_true rfl) (Nat.le_of_ble_eq_true rfl) rfl (fun v h F hp hok => ?_) (fun x h F hp hok => ?_)
  rotate_left
  ·
    rcases hp with ⟨hn, e, rfl⟩ | ⟨g1, hn, e, rfl⟩ | ⟨-, -, e, -⟩
    ·
      obtain rfl := Sum.inr.inj e
      refine t_catch 17 rfl (by decide) rfl ?_
      refine q_astore_x dL_settings_17 (by decide) ?_
      refine q_iconst (v := nI 1) dL_settings_19 rfl ?_
      exact q_iret dL_settings_20 rfl (rfl) ⟨_, Or.inl ⟨hn, rfl, rfl⟩, hok, rfl⟩
    ·
      obtain rfl := Sum.inr.inj e
      refine t_catch 21 rfl (by decide) rfl ?_
      refine q_astore_x dL_settings_21 (by decide) ?_
      refine q_iconst (v := nI 2) dL_settings_23 rfl ?_
      exact q_iret dL_settings_24 rfl (rfl) ⟨_, Or.inr (Or.inl ⟨g1, hn, rfl, rfl⟩), hok, rfl⟩
    · cases e
  rcases hp with ⟨-, e, -⟩ | ⟨-, -, e, -⟩ | ⟨g1, g2, e, rfl⟩
  · cases e
  · cases e
  obtain rfl := Sum.inl.inj e
  refine q_i2l dL_settings_12 ?_
  refine v_last (x := (vX4_settings X many (nn a1) a2 a3 a4 V)) rfl dL_settings_13 hok hw (fun h hok => ?_)
  refine q_goto (tgt := 25) dL_settings_14 (by decide) ?_
  refine q_iconst (v := nI 0) dL_settings_25 rfl ?_
  exact q_iret dL_settings_26 rfl (rfl) ⟨_, Or.inr (Or.inr ⟨g1, g2, rfl, rfl⟩), hok, rfl⟩
set_option maxHeartbeats 4000000 in
theorem hL_report (Sc : q_S) (Γ : Nat → q_K) (n : Nat) (V : q_V) (X many : Nat) (H : sGF Γ X many) (hm1 : 1 ≤ many) (hm4 : many ≤ 4) (a1 : Int32) (a2 : Int32) (a3 : Int32) (a4 : Int32) (w : Nat) (hw : Γ w = (5, 1, [])) : q_fp Sc Γ mL_report [.ref X, .int (a1), .int (a2), .int (a3), .int (a4), .ref w] n 4 24 V (q_hlp (inZ a1 0 ((many : Int)) ∧ inZ a2 0 8) (inZ a3 0 6 ∧ inZ a4 0 65536) 1 2 V w ((vX4_report X many (nn a1) (nn a2) a4 (nn a3) V)) (fX4_report X many (nn a1) (nn a2) a4 (nn a3) V)) := by
  intro h hok
  show q_A Sc mL_report 0 [.ref X, .int (a1), .int (a2), .int (a3), .int (a4), .ref w, .retAddr 0] [] h n 4 24 (fun O h' n' => ∃ F, (q_hlp (inZ a1 0 ((many : Int)) ∧ inZ a2 0 8) (inZ a3 0 6 ∧ inZ a4 0 65536) 1 2 V w ((vX4_report X many (nn a1) (nn a2) a4 (nn a3) V)) (fX4_report X many (nn a1) (nn a2) a4 (nn a3) V)) O F ∧ q_ok (gX Γ F) h' ∧ n' = n)
  refine q_aload dL_report_0 rfl ?_
  refine q_iconst (v := nI 0) dL_report_2 rfl ?_
  refine q_aload_n dL_report_3 rfl ?_
  refine q_iload_n dL_report_4 rfl ?_
  refine q_iload_n dL_report_5 rfl ?_
  refine q_iload_n dL_report_6 rfl ?_
  refine q_iload dL_report_7 rfl ?_
  refine w_callV (M' := mX4_report) [.int (a1), .int (a2), .int (a3), .int (a4)] [.int (nI 0), .ref w] kX4 dL_report_9 wPL_17v wIX4_report wSX4_report iX4_report oX4_report rfl hok H.1 (pX4_report Sc Γ n V X many H hm1 hm4 a1 a2 a3 a4) (Nat.le_of_ble_eq_true rfl) (Nat.le_of_ble_eq_true rfl) (Nat.le_of_ble_eq_true rfl) (Nat.le_of_ble_eq_true rfl) (Nat.le_of_ble_eq_true rfl) rfl (fun v h F hp hok => ?_) (fun x h F hp hok => ?_)
  rotate_left
  ·
    rcases hp with ⟨hn, e, rfl⟩ | ⟨g1, hn, e, rfl⟩ | ⟨-, -, e, -⟩
    ·
      obtain rfl := Sum.inr.inj e
      refine t_catch 17 rfl (by decide) rfl ?_
      refine q_astore_x dL_report_17 (by decide) ?_
      refine q_iconst (v := nI 1) dL_report_19 rfl ?_
      exact q_iret dL_report_20 rfl (rfl) ⟨_, Or.inl ⟨hn, rfl, rfl⟩, hok, rfl⟩
    ·
      obtain rfl := Sum.inr.inj e
      refine t_catch 21 rfl (by decide) rfl ?_
      refine q_astore_x dL_report_21 (by decide) ?_
      refine q_iconst (v := nI 2) dL_report_23 rfl ?_
      exact q_iret dL_report_24 rfl (rfl) ⟨_, Or.inr (Or.inl ⟨g1, hn, rfl, rfl⟩), hok, rfl⟩
    · cases e
  rcases hp with ⟨-, e, -⟩ | ⟨-, -, e, -⟩ | ⟨g1, g2, e, rfl⟩
  · cases e
  · cases e
  obtain rfl := Sum.inl.inj e
  refine q_i2l dL_report_12 ?_
  refine v_last (x := (vX4_report X many (nn a1) (nn a2) a4 (nn a3) V)) rfl dL_report_13 hok hw (fun h hok => ?_)
  refine q_goto (tgt := 25) dL_report_14 (by decide) ?_
  refine q_iconst (v := nI 0) dL_report_25 rfl ?_
  exact q_iret dL_report_26 rfl (rfl) ⟨_, Or.inr (Or.inr ⟨g1, g2, rfl, rfl⟩), hok, rfl⟩
set_option maxHeartbeats 4000000 in
theorem hL_query (Sc : q_S) (Γ : Nat → q_K) (n : Nat) (V : q_V) (X many : Nat) (H : sGF Γ X many) (hm1 : 1 ≤ many) (hm4 : many ≤ 4) (a1 : Int32) (a2 : Int32) (a3 : Int32) (a4 : Int32) (a5 : Int32) (b5 : q_bl a5) (w : Nat) (hw : Γ w = (5, 1, [])) : q_fp Sc Γ mL_query [.ref X, .int (a1), .int (a2), .int (a3), .int (a4), .int (a5), .ref w] n 4 24 V (q_hlq (inZ a1 0 ((many : Int)) ∧ inZ a2 0 1000 ∧ (a3 = -1 ∨ inZ a3 0 8) ∧ inZ a4 0 65536) V w (if a3 = -1 then fX4_query_n X many (nn a1) a2 a4 a5 V else fX4_query_g X many (nn a1) a2 (nn a3) a4 a5 V)) := by
  intro h hok
  show q_A Sc mL_query 0 [.ref X, .int (a1), .int (a2), .int (a3), .int (a4), .int (a5), .ref w, .retAddr 0] [] h n 4 24 (fun O h' n' => ∃ F, (q_hlq (inZ a1 0 ((many : Int)) ∧ inZ a2 0 1000 ∧ (a3 = -1 ∨ inZ a3 0 8) ∧ inZ a4 0 65536) V w (if a3 = -1 then fX4_query_n X many (nn a1) a2 a4 a5 V else fX4_query_g X many (nn a1) a2 (nn a3) a4 a5 V)) O F ∧ q_ok (gX Γ F) h' ∧ n' = n)
  refine q_aload dL_query_0 rfl ?_
  refine q_iconst (v := nI 0) dL_query_2 rfl ?_
  refine q_aload_n dL_query_3 rfl ?_
  refine q_iload_n dL_query_4 rfl ?_
  refine q_iload_n dL_query_5 rfl ?_
  refine q_iload_n dL_query_6 rfl ?_
  refine q_iload dL_query_7 rfl ?_
  refine q_iload dL_query_9 rfl ?_
  refine w_callV (M' := mX4_query) [.int (a1), .int (a2), .int (a3), .int (a4), .int (a5)] [.int (nI 0), .ref w] kX4 dL_query_11 wPL_20v wIX4_query wSX4_query iX4_query oX4_query rfl hok H.1 (pX4_query Sc Γ n V X many H hm1 hm4 a1 a2 a3 a4 a5 b5) (Nat.le_of_ble_eq_true rfl) (Nat.le_of_ble_eq_true rfl) (Nat.le_of_ble_eq_true rfl) (Nat.le_of_ble_eq_true rfl) (Nat.le_of_ble_eq_true rfl) rfl (fun v h F hp hok => ?_) (fun x h F hp hok => ?_)
  rotate_left
  ·
    rcases hp with ⟨hn, e | e, rfl⟩ | ⟨-, e, -⟩
    ·
      obtain rfl := Sum.inr.inj e
      refine t_catch 26 rfl (by decide) rfl ?_
      refine q_astore_x dL_query_26 (by decide) ?_
      refine q_iconst (v := nI 1) dL_query_28 rfl ?_
      exact q_iret dL_query_29 rfl (rfl) ⟨_, Or.inl ⟨hn, ⟨_, rfl⟩, rfl⟩, hok, rfl⟩
    ·
      obtain rfl := Sum.inr.inj e
      refine t_catch 30 rfl (by decide) rfl ?_
      refine q_astore_x dL_query_30 (by decide) ?_
      refine q_iconst (v := nI 2) dL_query_32 rfl ?_
      exact q_iret dL_query_33 rfl (rfl) ⟨_, Or.inl ⟨hn, ⟨_, rfl⟩, rfl⟩, hok, rfl⟩
    · cases e
  rcases hp with ⟨-, e | e, -⟩ | ⟨g1, e, rfl⟩
  · cases e
  · cases e
  obtain rfl := Sum.inl.inj e
  generalize (if a3 = -1 then vX4_query_n X many (nn a1) a2 a4 a5 V else vX4_query_g X many (nn a1) a2 (nn a3) a4 a5 V) = y
  refine q_if_eq (tgt := 21) dL_query_14 (by decide) (fun c692 => ?_) (fun c692 => ?_)
  ·
    refine q_lconst dL_query_21 ?_
    refine v_last (x := nI 0) rfl dL_query_22 hok hw (fun h hok => ?_)
    refine q_goto (tgt := 34) dL_query_23 (by decide) ?_
    refine q_iconst (v := nI 0) dL_query_34 rfl ?_
    exact q_iret dL_query_35 rfl (rfl) ⟨_, Or.inr ⟨g1, rfl, _, rfl⟩, hok, rfl⟩
  ·
    refine q_lconst dL_query_17 ?_
    refine q_goto (tgt := 22) dL_query_18 (by decide) ?_
    refine v_last (x := nI 1) rfl dL_query_22 hok hw (fun h hok => ?_)
    refine q_goto (tgt := 34) dL_query_23 (by decide) ?_
    refine q_iconst (v := nI 0) dL_query_34 rfl ?_
    exact q_iret dL_query_35 rfl (rfl) ⟨_, Or.inr ⟨g1, rfl, _, rfl⟩, hok, rfl⟩
set_option maxHeartbeats 4000000 in
theorem hL_tick (Sc : q_S) (Γ : Nat → q_K) (n : Nat) (V : q_V) (X many : Nat) (H : sGF Γ X many) (hm1 : 1 ≤ many) (hm4 : many ≤ 4) (a1 : Int32) (w : Nat) (hw : Γ w = (5, 1, [])) : q_fp Sc Γ mL_tick [.ref X, .int (a1), .ref w] n 4 24 V (q_hlp (True) (inZ a1 0 2001) 1 1 V w ((vX4_tick X many (nn a1) V)) (fX4_tick X many (nn a1) V)) := by
  intro h hok
  show q_A Sc mL_tick 0 [.ref X, .int (a1), .ref w, .retAddr 0] [] h n 4 24 (fun O h' n' => ∃ F, (q_hlp (True) (inZ a1 0 2001) 1 1 V w ((vX4_tick X many (nn a1) V)) (fX4_tick X many (nn a1) V)) O F ∧ q_ok (gX Γ F) h' ∧ n' = n)
  refine q_aload_n dL_tick_0 rfl ?_
  refine q_iconst (v := nI 0) dL_tick_1 rfl ?_
  refine q_aload_n dL_tick_2 rfl ?_
  refine q_iload_n dL_tick_3 rfl ?_
  refine w_callV (M' := mX4_tick) [.int (a1)] [.int (nI 0), .ref w] kX4 dL_tick_4 wPL_24v wIX4_tick wSX4_tick iX4_tick oX4_tick rfl hok H.1 (pX4_tick Sc Γ n V X many H hm1 hm4 a1) (Nat.le_of_ble_eq_true rfl) (Nat.le_of_ble_eq_true rfl) (Nat.le_of_ble_eq_true rfl) (Nat.le_of_ble_eq_true rfl) (Nat.le_of_ble_eq_true rfl) rfl (fun v h F hp hok => ?_) (fun x h F hp hok => ?_)
  rotate_left
  ·
    rcases hp with ⟨hn, e, rfl⟩ | ⟨g1, hn, e, rfl⟩ | ⟨-, -, e, -⟩
    ·
      exact absurd trivial hn
    ·
      obtain rfl := Sum.inr.inj e
      refine t_catch 12 rfl (by decide) rfl ?_
      refine q_astore_n_x dL_tick_12 (by decide) ?_
      refine q_iconst (v := nI 1) dL_tick_13 rfl ?_
      exact q_iret dL_tick_14 rfl (rfl) ⟨_, Or.inr (Or.inl ⟨g1, hn, rfl, rfl⟩), hok, rfl⟩
    · cases e
  rcases hp with ⟨-, e, -⟩ | ⟨-, -, e, -⟩ | ⟨g1, g2, e, rfl⟩
  · cases e
  · cases e
  obtain rfl := Sum.inl.inj e
  refine q_i2l dL_tick_7 ?_
  refine v_last (x := (vX4_tick X many (nn a1) V)) rfl dL_tick_8 hok hw (fun h hok => ?_)
  refine q_goto (tgt := 15) dL_tick_9 (by decide) ?_
  refine q_iconst (v := nI 0) dL_tick_15 rfl ?_
  exact q_iret dL_tick_16 rfl (rfl) ⟨_, Or.inr (Or.inr ⟨g1, g2, rfl, rfl⟩), hok, rfl⟩
set_option maxHeartbeats 4000000 in
theorem hL_member (Sc : q_S) (Γ : Nat → q_K) (n : Nat) (V : q_V) (X many : Nat) (H : sGF Γ X many) (hm1 : 1 ≤ many) (hm4 : many ≤ 4) (a1 : Int32) (a2 : Int32) (a3 : Int32) (a4 : Int32) (b4 : q_bl a4) (a5 : Int32) (w : Nat) (hw : Γ w = (5, 1, [])) : q_fp Sc Γ mL_member [.ref X, .int (a1), .int (a2), .int (a3), .int (a4), .int (a5), .ref w] n 4 24 V (q_hlp (inZ a1 0 ((many : Int)) ∧ inZ a2 0 6 ∧ inZ a3 0 8) (inZ a5 0 65536) 1 2 V w ((vX4_member X many (nn a1) (nn a2) (nn a3) a4 a5 V)) (fX4_member X many (nn a1) (nn a2) (nn a3) a4 a5 V)) := by
  intro h hok
  show q_A Sc mL_member 0 [.ref X, .int (a1), .int (a2), .int (a3), .int (a4), .int (a5), .ref w, .retAddr 0] [] h n 4 24 (fun O h' n' => ∃ F, (q_hlp (inZ a1 0 ((many : Int)) ∧ inZ a2 0 6 ∧ inZ a3 0 8) (inZ a5 0 65536) 1 2 V w ((vX4_member X many (nn a1) (nn a2) (nn a3) a4 a5 V)) (fX4_member X many (nn a1) (nn a2) (nn a3) a4 a5 V)) O F ∧ q_ok (gX Γ F) h' ∧ n' = n)
  refine q_aload dL_member_0 rfl ?_
  refine q_iconst (v := nI 0) dL_member_2 rfl ?_
  refine q_aload_n dL_member_3 rfl ?_
  refine q_iload_n dL_member_4 rfl ?_
  refine q_iload_n dL_member_5 rfl ?_
  refine q_iload_n dL_member_6 rfl ?_
  refine q_iload dL_member_7 rfl ?_
  refine q_iload dL_member_9 rfl ?_
  refine w_callV (M' := mX4_member) [.int (a1), .int (a2), .int (a3), .int (a4), .int (a5)] [.int (nI 0), .ref w] kX4 dL_member_11 wPL_28v wIX4_member wSX4_member iX4_member oX4_member rfl hok H.1 (pX4_member Sc Γ n V X many H hm1 hm4 a1 a2 a3 a4 b4 a5) (Nat.le_of_ble_eq_true rfl) (Nat.le_of_ble_eq_true rfl) (Nat.le_of_ble_eq_true rfl) (Nat.le_of_ble_eq_true rfl) (Nat.le_of_ble_eq_true rfl) rfl (fun v h F hp hok => ?_) (fun x h F hp hok => ?_)
  rotate_left
  ·
    rcases hp with ⟨hn, e, rfl⟩ | ⟨g1, hn, e, rfl⟩ | ⟨-, -, e, -⟩
    ·
      obtain rfl := Sum.inr.inj e
      refine t_catch 19 rfl (by decide) rfl ?_
      refine q_astore_x dL_member_19 (by decide) ?_
      refine q_iconst (v := nI 1) dL_member_21 rfl ?_
      exact q_iret dL_member_22 rfl (rfl) ⟨_, Or.inl ⟨hn, rfl, rfl⟩, hok, rfl⟩
    ·
      obtain rfl := Sum.inr.inj e
      refine t_catch 23 rfl (by decide) rfl ?_
      refine q_astore_x dL_member_23 (by decide) ?_
      refine q_iconst (v := nI 2) dL_member_25 rfl ?_
      exact q_iret dL_member_26 rfl (rfl) ⟨_, Or.inr (Or.inl ⟨g1, hn, rfl, rfl⟩), hok, rfl⟩
    · cases e
  rcases hp with ⟨-, e, -⟩ | ⟨-, -, e, -⟩ | ⟨g1, g2, e, rfl⟩
  · cases e
  · cases e
  obtain rfl := Sum.inl.inj e
  refine q_i2l dL_member_14 ?_
  refine v_last (x := (vX4_member X many (nn a1) (nn a2) (nn a3) a4 a5 V)) rfl dL_member_15 hok hw (fun h hok => ?_)
  refine q_goto (tgt := 27) dL_member_16 (by decide) ?_
  refine q_iconst (v := nI 0) dL_member_27 rfl ?_
  exact q_iret dL_member_28 rfl (rfl) ⟨_, Or.inr (Or.inr ⟨g1, g2, rfl, rfl⟩), hok, rfl⟩
set_option maxHeartbeats 4000000 in
theorem hL_answer (Sc : q_S) (Γ : Nat → q_K) (n : Nat) (V : q_V) (X many : Nat) (H : sGF Γ X many) (hm1 : 1 ≤ many) (hm4 : many ≤ 4) (a1 : Int32) (a2 : Int32) (w : Nat) (hw : Γ w = (5, 1, [])) : q_fp Sc Γ mL_answer [.ref X, .int (a1), .int (a2), .ref w] n 4 24 V (q_hlp (inZ a1 0 ((many : Int)) ∧ inZ a2 0 6) (True) 1 2 V w ((vX4_answer X many (nn a1) (nn a2) V)) (fX4_answer X many (nn a1) (nn a2) V)) := by
  intro h hok
  show q_A Sc mL_answer 0 [.ref X, .int (a1), .int (a2), .ref w, .retAddr 0] [] h n 4 24 (fun O h' n' => ∃ F, (q_hlp (inZ a1 0 ((many : Int)) ∧ inZ a2 0 6) (True) 1 2 V w ((vX4_answer X many (nn a1) (nn a2) V)) (fX4_answer X many (nn a1) (nn a2) V)) O F ∧ q_ok (gX Γ F) h' ∧ n' = n)
  refine q_aload_n dL_answer_0 rfl ?_
  refine q_iconst (v := nI 0) dL_answer_1 rfl ?_
  refine q_aload_n dL_answer_2 rfl ?_
  refine q_iload_n dL_answer_3 rfl ?_
  refine q_iload_n dL_answer_4 rfl ?_
  refine w_callV (M' := mX4_answer) [.int (a1), .int (a2)] [.int (nI 0), .ref w] kX4 dL_answer_5 wPL_32v wIX4_answer wSX4_answer iX4_answer oX4_answer rfl hok H.1 (pX4_answer Sc Γ n V X many H hm1 hm4 a1 a2) (Nat.le_of_ble_eq_true rfl) (Nat.le_of_ble_eq_true rfl) (Nat.le_of_ble_eq_true rfl) (Nat.le_of_ble_eq_true rfl) (Nat.le_of_ble_eq_true rfl) rfl (fun v h F hp hok => ?_) (fun x h F hp hok => ?_)
  rotate_left
  ·
    rcases hp with ⟨hn, e, rfl⟩ | ⟨g1, hn, e, rfl⟩ | ⟨-, -, e, -⟩
    ·
      obtain rfl := Sum.inr.inj e
      refine t_catch 13 rfl (by decide) rfl ?_
      refine q_astore_x dL_answer_13 (by decide) ?_
      refine q_iconst (v := nI 1) dL_answer_15 rfl ?_
      exact q_iret dL_answer_16 rfl (rfl) ⟨_, Or.inl ⟨hn, rfl, rfl⟩, hok, rfl⟩
    ·
      exact absurd trivial hn
    · cases e
  rcases hp with ⟨-, e, -⟩ | ⟨-, -, e, -⟩ | ⟨g1, g2, e, rfl⟩
  · cases e
  · cases e
  obtain rfl := Sum.inl.inj e
  refine q_i2l dL_answer_8 ?_
  refine v_last (x := (vX4_answer X many (nn a1) (nn a2) V)) rfl dL_answer_9 hok hw (fun h hok => ?_)
  refine q_goto (tgt := 17) dL_answer_10 (by decide) ?_
  refine q_iconst (v := nI 0) dL_answer_17 rfl ?_
  exact q_iret dL_answer_18 rfl (rfl) ⟨_, Or.inr (Or.inr ⟨g1, g2, rfl, rfl⟩), hok, rfl⟩
set_option maxHeartbeats 4000000 in
theorem hL_wanted (Sc : q_S) (Γ : Nat → q_K) (n : Nat) (V : q_V) (X many : Nat) (H : sGF Γ X many) (hm1 : 1 ≤ many) (hm4 : many ≤ 4) (a1 : Int32) (a2 : Int32) (a3 : Int32) (w : Nat) (hw : Γ w = (5, 1, [])) : q_fp Sc Γ mL_wanted [.ref X, .int (a1), .int (a2), .int (a3), .ref w] n 4 24 V (q_hlq (inZ a1 0 (many : Int) ∧ inZ a2 0 8 ∧ inZ a3 0 16) V w V) := by
  intro h hok
  show q_A Sc mL_wanted 0 [.ref X, .int (a1), .int (a2), .int (a3), .ref w, .retAddr 0] [] h n 4 24 (fun O h' n' => ∃ F, (q_hlq (inZ a1 0 (many : Int) ∧ inZ a2 0 8 ∧ inZ a3 0 16) V w V) O F ∧ q_ok (gX Γ F) h' ∧ n' = n)
  refine q_aload dL_wanted_0 rfl ?_
  refine q_iconst (v := nI 0) dL_wanted_2 rfl ?_
  refine q_aload_n dL_wanted_3 rfl ?_
  refine q_iload_n dL_wanted_4 rfl ?_
  refine q_iload_n dL_wanted_5 rfl ?_
  refine q_iload_n dL_wanted_6 rfl ?_
  refine w_callV (M' := mX4_wanted) [.int (a1), .int (a2), .int (a3)] [.int (nI 0), .ref w] kX4 dL_wanted_7 wPL_36v wIX4_wanted wSX4_wanted iX4_wanted oX4_wanted rfl hok H.1 (pX4_wanted Sc Γ n V X many H hm1 hm4 a1 a2 a3) (Nat.le_of_ble_eq_true rfl) (Nat.le_of_ble_eq_true rfl) (Nat.le_of_ble_eq_true rfl) (Nat.le_of_ble_eq_true rfl) (Nat.le_of_ble_eq_true rfl) rfl (fun v h F hp hok => ?_) (fun x h F hp hok => ?_)
  rotate_left
  ·
    rcases hp with ⟨hn, e, rfl⟩ | ⟨-, ⟨y, e, -⟩, -⟩
    ·
      obtain rfl := Sum.inr.inj e
      refine t_catch 22 rfl (by decide) rfl ?_
      refine q_astore_x dL_wanted_22 (by decide) ?_
      refine q_iconst (v := nI 1) dL_wanted_24 rfl ?_
      exact q_iret dL_wanted_25 rfl (rfl) ⟨_, Or.inl ⟨hn, ⟨_, rfl⟩, rfl⟩, hok, rfl⟩
    · cases e
  rcases hp with ⟨-, e, -⟩ | ⟨g1, ⟨y, e, -⟩, rfl⟩
  · cases e
  obtain rfl := Sum.inl.inj e
  refine q_if_eq (tgt := 17) dL_wanted_10 (by decide) (fun c701 => ?_) (fun c701 => ?_)
  ·
    refine q_lconst dL_wanted_17 ?_
    refine v_last (x := nI 0) rfl dL_wanted_18 hok hw (fun h hok => ?_)
    refine q_goto (tgt := 26) dL_wanted_19 (by decide) ?_
    refine q_iconst (v := nI 0) dL_wanted_26 rfl ?_
    exact q_iret dL_wanted_27 rfl (rfl) ⟨_, Or.inr ⟨g1, rfl, _, rfl⟩, hok, rfl⟩
  ·
    refine q_lconst dL_wanted_13 ?_
    refine q_goto (tgt := 18) dL_wanted_14 (by decide) ?_
    refine v_last (x := nI 1) rfl dL_wanted_18 hok hw (fun h hok => ?_)
    refine q_goto (tgt := 26) dL_wanted_19 (by decide) ?_
    refine q_iconst (v := nI 0) dL_wanted_26 rfl ?_
    exact q_iret dL_wanted_27 rfl (rfl) ⟨_, Or.inr ⟨g1, rfl, _, rfl⟩, hok, rfl⟩
set_option maxHeartbeats 4000000 in
theorem hL_passed (Sc : q_S) (Γ : Nat → q_K) (n : Nat) (V : q_V) (X many : Nat) (H : sGF Γ X many) (hm1 : 1 ≤ many) (hm4 : many ≤ 4) (a1 : Int32) (a2 : Int32) (a3 : Int32) (w : Nat) (hw : Γ w = (5, 1, [])) : q_fp Sc Γ mL_passed [.ref X, .int (a1), .int (a2), .int (a3), .ref w] n 4 24 V (q_hlp (inZ a1 0 ((many : Int)) ∧ inZ a2 0 8 ∧ inZ a3 0 16) (True) 1 2 V w ((vX4_passed X many (nn a1) (nn a2) (nn a3) V)) (V)) := by
  intro h hok
  show q_A Sc mL_passed 0 [.ref X, .int (a1), .int (a2), .int (a3), .ref w, .retAddr 0] [] h n 4 24 (fun O h' n' => ∃ F, (q_hlp (inZ a1 0 ((many : Int)) ∧ inZ a2 0 8 ∧ inZ a3 0 16) (True) 1 2 V w ((vX4_passed X many (nn a1) (nn a2) (nn a3) V)) (V)) O F ∧ q_ok (gX Γ F) h' ∧ n' = n)
  refine q_aload dL_passed_0 rfl ?_
  refine q_iconst (v := nI 0) dL_passed_2 rfl ?_
  refine q_aload_n dL_passed_3 rfl ?_
  refine q_iload_n dL_passed_4 rfl ?_
  refine q_iload_n dL_passed_5 rfl ?_
  refine q_iload_n dL_passed_6 rfl ?_
  refine w_callV (M' := mX4_passed) [.int (a1), .int (a2), .int (a3)] [.int (nI 0), .ref w] kX4 dL_passed_7 wPL_40v wIX4_passed wSX4_passed iX4_passed oX4_passed rfl hok H.1 (pX4_passed Sc Γ n V X many H hm1 hm4 a1 a2 a3) (Nat.le_of_ble_eq_true rfl) (Nat.le_of_ble_eq_true rfl) (Nat.le_of_ble_eq_true rfl) (Nat.le_of_ble_eq_true rfl) (Nat.le_of_ble_eq_true rfl) rfl (fun v h F hp hok => ?_) (fun x h F hp hok => ?_)
  rotate_left
  ·
    rcases hp with ⟨hn, e, rfl⟩ | ⟨g1, hn, e, rfl⟩ | ⟨-, -, e, -⟩
    ·
      obtain rfl := Sum.inr.inj e
      refine t_catch 15 rfl (by decide) rfl ?_
      refine q_astore_x dL_passed_15 (by decide) ?_
      refine q_iconst (v := nI 1) dL_passed_17 rfl ?_
      exact q_iret dL_passed_18 rfl (rfl) ⟨_, Or.inl ⟨hn, rfl, rfl⟩, hok, rfl⟩
    ·
      exact absurd trivial hn
    · cases e
  rcases hp with ⟨-, e, -⟩ | ⟨-, -, e, -⟩ | ⟨g1, g2, e, rfl⟩
  · cases e
  · cases e
  obtain rfl := Sum.inl.inj e
  refine q_i2l dL_passed_10 ?_
  refine v_last (x := (vX4_passed X many (nn a1) (nn a2) (nn a3) V)) rfl dL_passed_11 hok hw (fun h hok => ?_)
  refine q_goto (tgt := 19) dL_passed_12 (by decide) ?_
  refine q_iconst (v := nI 0) dL_passed_19 rfl ?_
  exact q_iret dL_passed_20 rfl (rfl) ⟨_, Or.inr (Or.inr ⟨g1, g2, rfl, rfl⟩), hok, rfl⟩
set_option maxHeartbeats 4000000 in
theorem hL_mode (Sc : q_S) (Γ : Nat → q_K) (n : Nat) (V : q_V) (X many : Nat) (H : sGF Γ X many) (hm1 : 1 ≤ many) (hm4 : many ≤ 4) (a1 : Int32) (a2 : Int32) (w : Nat) (hw : Γ w = (5, 1, [])) : q_fp Sc Γ mL_mode [.ref X, .int (a1), .int (a2), .ref w] n 4 24 V (q_hlp (inZ a1 0 ((many : Int)) ∧ inZ a2 0 8) (True) 1 2 V w ((vX0_state (X + 2 + 37 * nn a1 + 3 + 2 * nn a2) V)) (V)) := by
  intro h hok
  show q_A Sc mL_mode 0 [.ref X, .int (a1), .int (a2), .ref w, .retAddr 0] [] h n 4 24 (fun O h' n' => ∃ F, (q_hlp (inZ a1 0 ((many : Int)) ∧ inZ a2 0 8) (True) 1 2 V w ((vX0_state (X + 2 + 37 * nn a1 + 3 + 2 * nn a2) V)) (V)) O F ∧ q_ok (gX Γ F) h' ∧ n' = n)
  refine q_aload_n dL_mode_0 rfl ?_
  refine q_iconst (v := nI 0) dL_mode_1 rfl ?_
  refine q_aload_n dL_mode_2 rfl ?_
  refine q_iload_n dL_mode_3 rfl ?_
  refine q_iload_n dL_mode_4 rfl ?_
  refine w_callV (M' := mX4_mode) [.int (a1), .int (a2)] [.int (nI 0), .ref w] kX4 dL_mode_5 wPL_44v wIX4_mode wSX4_mode iX4_mode oX4_mode rfl hok H.1 (pX4_mode Sc Γ n V X many H hm1 hm4 a1 a2) (Nat.le_of_ble_eq_true rfl) (Nat.le_of_ble_eq_true rfl) (Nat.le_of_ble_eq_true rfl) (Nat.le_of_ble_eq_true rfl) (Nat.le_of_ble_eq_true rfl) rfl (fun v h F hp hok => ?_) (fun x h F hp hok => ?_)
  rotate_left
  ·
    rcases hp with ⟨hn, e, rfl⟩ | ⟨g1, hn, e, rfl⟩ | ⟨-, -, e, -⟩
    ·
      obtain rfl := Sum.inr.inj e
      refine t_catch 13 rfl (by decide) rfl ?_
      refine q_astore_x dL_mode_13 (by decide) ?_
      refine q_iconst (v := nI 1) dL_mode_15 rfl ?_
      exact q_iret dL_mode_16 rfl (rfl) ⟨_, Or.inl ⟨hn, rfl, rfl⟩, hok, rfl⟩
    ·
      exact absurd trivial hn
    · cases e
  rcases hp with ⟨-, e, -⟩ | ⟨-, -, e, -⟩ | ⟨g1, g2, e, rfl⟩
  · cases e
  · cases e
  obtain rfl := Sum.inl.inj e
  refine q_i2l dL_mode_8 ?_
  refine v_last (x := (vX0_state (X + 2 + 37 * nn a1 + 3 + 2 * nn a2) V)) rfl dL_mode_9 hok hw (fun h hok => ?_)
  refine q_goto (tgt := 17) dL_mode_10 (by decide) ?_
  refine q_iconst (v := nI 0) dL_mode_17 rfl ?_
  exact q_iret dL_mode_18 rfl (rfl) ⟨_, Or.inr (Or.inr ⟨g1, g2, rfl, rfl⟩), hok, rfl⟩
set_option maxHeartbeats 4000000 in
theorem hL_sources (Sc : q_S) (Γ : Nat → q_K) (n : Nat) (V : q_V) (X many : Nat) (H : sGF Γ X many) (hm1 : 1 ≤ many) (hm4 : many ≤ 4) (a1 : Int32) (a2 : Int32) (a3 : Int32) (b3 : q_bl a3) (w : Nat) (hw : Γ w = (5, 1, [])) : q_fp Sc Γ mL_sources [.ref X, .int (a1), .int (a2), .int (a3), .ref w] n 4 24 V (q_hlp (inZ a1 0 ((many : Int)) ∧ inZ a2 0 8) (True) 1 2 V w ((if a3 = nI 0 then V (X + 2 + 37 * nn a1 + 3 + 2 * nn a2) 3 else V (X + 2 + 37 * nn a1 + 3 + 2 * nn a2) 2)) (V)) := by
  intro h hok
  show q_A Sc mL_sources 0 [.ref X, .int (a1), .int (a2), .int (a3), .ref w, .retAddr 0] [] h n 4 24 (fun O h' n' => ∃ F, (q_hlp (inZ a1 0 ((many : Int)) ∧ inZ a2 0 8) (True) 1 2 V w ((if a3 = nI 0 then V (X + 2 + 37 * nn a1 + 3 + 2 * nn a2) 3 else V (X + 2 + 37 * nn a1 + 3 + 2 * nn a2) 2)) (V)) O F ∧ q_ok (gX Γ F) h' ∧ n' = n)
  refine q_aload dL_sources_0 rfl ?_
  refine q_iconst (v := nI 0) dL_sources_2 rfl ?_
  refine q_aload_n dL_sources_3 rfl ?_
  refine q_iload_n dL_sources_4 rfl ?_
  refine q_iload_n dL_sources_5 rfl ?_
  refine q_iload_n dL_sources_6 rfl ?_
  refine w_callV (M' := mX4_sources) [.int (a1), .int (a2), .int (a3)] [.int (nI 0), .ref w] kX4 dL_sources_7 wPL_47v wIX4_sources wSX4_sources iX4_sources oX4_sources rfl hok H.1 (pX4_sources Sc Γ n V X many H hm1 hm4 a1 a2 a3 b3) (Nat.le_of_ble_eq_true rfl) (Nat.le_of_ble_eq_true rfl) (Nat.le_of_ble_eq_true rfl) (Nat.le_of_ble_eq_true rfl) (Nat.le_of_ble_eq_true rfl) rfl (fun v h F hp hok => ?_) (fun x h F hp hok => ?_)
  rotate_left
  ·
    rcases hp with ⟨hn, e, rfl⟩ | ⟨g1, hn, e, rfl⟩ | ⟨-, -, e, -⟩
    ·
      obtain rfl := Sum.inr.inj e
      refine t_catch 15 rfl (by decide) rfl ?_
      refine q_astore_x dL_sources_15 (by decide) ?_
      refine q_iconst (v := nI 1) dL_sources_17 rfl ?_
      exact q_iret dL_sources_18 rfl (rfl) ⟨_, Or.inl ⟨hn, rfl, rfl⟩, hok, rfl⟩
    ·
      exact absurd trivial hn
    · cases e
  rcases hp with ⟨-, e, -⟩ | ⟨-, -, e, -⟩ | ⟨g1, g2, e, rfl⟩
  · cases e
  · cases e
  obtain rfl := Sum.inl.inj e
  refine q_i2l dL_sources_10 ?_
  refine v_last (x := (if a3 = nI 0 then V (X + 2 + 37 * nn a1 + 3 + 2 * nn a2) 3 else V (X + 2 + 37 * nn a1 + 3 + 2 * nn a2) 2)) rfl dL_sources_11 hok hw (fun h hok => ?_)
  refine q_goto (tgt := 19) dL_sources_12 (by decide) ?_
  refine q_iconst (v := nI 0) dL_sources_19 rfl ?_
  exact q_iret dL_sources_20 rfl (rfl) ⟨_, Or.inr (Or.inr ⟨g1, g2, rfl, rfl⟩), hok, rfl⟩
set_option maxHeartbeats 4000000 in
theorem hL_timer (Sc : q_S) (Γ : Nat → q_K) (n : Nat) (V : q_V) (X many : Nat) (H : sGF Γ X many) (hm1 : 1 ≤ many) (hm4 : many ≤ 4) (a1 : Int32) (a2 : Int32) (a3 : Int32) (w : Nat) (hw : Γ w = (5, 1, [])) : q_fp Sc Γ mL_timer [.ref X, .int (a1), .int (a2), .int (a3), .ref w] n 4 24 V (q_hlp (inZ a1 0 ((many : Int)) ∧ inZ a2 0 8 ∧ inZ a3 0 16) (True) 1 2 V w ((V ((X + 2 + 37 * nn a1 + 3 + 2 * nn a2) + 1) (nn a3))) (V)) := by
  intro h hok
  show q_A Sc mL_timer 0 [.ref X, .int (a1), .int (a2), .int (a3), .ref w, .retAddr 0] [] h n 4 24 (fun O h' n' => ∃ F, (q_hlp (inZ a1 0 ((many : Int)) ∧ inZ a2 0 8 ∧ inZ a3 0 16) (True) 1 2 V w ((V ((X + 2 + 37 * nn a1 + 3 + 2 * nn a2) + 1) (nn a3))) (V)) O F ∧ q_ok (gX Γ F) h' ∧ n' = n)
  refine q_aload dL_timer_0 rfl ?_
  refine q_iconst (v := nI 0) dL_timer_2 rfl ?_
  refine q_aload_n dL_timer_3 rfl ?_
  refine q_iload_n dL_timer_4 rfl ?_
  refine q_iload_n dL_timer_5 rfl ?_
  refine q_iload_n dL_timer_6 rfl ?_
  refine w_callV (M' := mX4_timer) [.int (a1), .int (a2), .int (a3)] [.int (nI 0), .ref w] kX4 dL_timer_7 wPL_51v wIX4_timer wSX4_timer iX4_timer oX4_timer rfl hok H.1 (pX4_timer Sc Γ n V X many H hm1 hm4 a1 a2 a3) (Nat.le_of_ble_eq_true rfl) (Nat.le_of_ble_eq_true rfl) (Nat.le_of_ble_eq_true rfl) (Nat.le_of_ble_eq_true rfl) (Nat.le_of_ble_eq_true rfl) rfl (fun v h F hp hok => ?_) (fun x h F hp hok => ?_)
  rotate_left
  ·
    rcases hp with ⟨hn, e, rfl⟩ | ⟨g1, hn, e, rfl⟩ | ⟨-, -, e, -⟩
    ·
      obtain rfl := Sum.inr.inj e
      refine t_catch 15 rfl (by decide) rfl ?_
      refine q_astore_x dL_timer_15 (by decide) ?_
      refine q_iconst (v := nI 1) dL_timer_17 rfl ?_
      exact q_iret dL_timer_18 rfl (rfl) ⟨_, Or.inl ⟨hn, rfl, rfl⟩, hok, rfl⟩
    ·
      exact absurd trivial hn
    · cases e
  rcases hp with ⟨-, e, -⟩ | ⟨-, -, e, -⟩ | ⟨g1, g2, e, rfl⟩
  · cases e
  · cases e
  obtain rfl := Sum.inl.inj e
  refine q_i2l dL_timer_10 ?_
  refine v_last (x := (V ((X + 2 + 37 * nn a1 + 3 + 2 * nn a2) + 1) (nn a3))) rfl dL_timer_11 hok hw (fun h hok => ?_)
  refine q_goto (tgt := 19) dL_timer_12 (by decide) ?_
  refine q_iconst (v := nI 0) dL_timer_19 rfl ?_
  exact q_iret dL_timer_20 rfl (rfl) ⟨_, Or.inr (Or.inr ⟨g1, g2, rfl, rfl⟩), hok, rfl⟩
set_option maxHeartbeats 4000000 in
theorem hL_groupTimer (Sc : q_S) (Γ : Nat → q_K) (n : Nat) (V : q_V) (X many : Nat) (H : sGF Γ X many) (hm1 : 1 ≤ many) (hm4 : many ≤ 4) (a1 : Int32) (a2 : Int32) (w : Nat) (hw : Γ w = (5, 1, [])) : q_fp Sc Γ mL_groupTimer [.ref X, .int (a1), .int (a2), .ref w] n 4 24 V (q_hlp (inZ a1 0 ((many : Int)) ∧ inZ a2 0 8) (True) 1 2 V w ((V (X + 2 + 37 * nn a1 + 3 + 2 * nn a2) 4)) (V)) := by
  intro h hok
  show q_A Sc mL_groupTimer 0 [.ref X, .int (a1), .int (a2), .ref w, .retAddr 0] [] h n 4 24 (fun O h' n' => ∃ F, (q_hlp (inZ a1 0 ((many : Int)) ∧ inZ a2 0 8) (True) 1 2 V w ((V (X + 2 + 37 * nn a1 + 3 + 2 * nn a2) 4)) (V)) O F ∧ q_ok (gX Γ F) h' ∧ n' = n)
  refine q_aload_n dL_groupTimer_0 rfl ?_
  refine q_iconst (v := nI 0) dL_groupTimer_1 rfl ?_
  refine q_aload_n dL_groupTimer_2 rfl ?_
  refine q_iload_n dL_groupTimer_3 rfl ?_
  refine q_iload_n dL_groupTimer_4 rfl ?_
  refine w_callV (M' := mX4_groupTimer) [.int (a1), .int (a2)] [.int (nI 0), .ref w] kX4 dL_groupTimer_5 wPL_54v wIX4_groupTimer wSX4_groupTimer iX4_groupTimer oX4_groupTimer rfl hok H.1 (pX4_groupTimer Sc Γ n V X many H hm1 hm4 a1 a2) (Nat.le_of_ble_eq_true rfl) (Nat.le_of_ble_eq_true rfl) (Nat.le_of_ble_eq_true rfl) (Nat.le_of_ble_eq_true rfl) (Nat.le_of_ble_eq_true rfl) rfl (fun v h F hp hok => ?_) (fun x h F hp hok => ?_)
  rotate_left
  ·
    rcases hp with ⟨hn, e, rfl⟩ | ⟨g1, hn, e, rfl⟩ | ⟨-, -, e, -⟩
    ·
      obtain rfl := Sum.inr.inj e
      refine t_catch 13 rfl (by decide) rfl ?_
      refine q_astore_x dL_groupTimer_13 (by decide) ?_
      refine q_iconst (v := nI 1) dL_groupTimer_15 rfl ?_
      exact q_iret dL_groupTimer_16 rfl (rfl) ⟨_, Or.inl ⟨hn, rfl, rfl⟩, hok, rfl⟩
    ·
      exact absurd trivial hn
    · cases e
  rcases hp with ⟨-, e, -⟩ | ⟨-, -, e, -⟩ | ⟨g1, g2, e, rfl⟩
  · cases e
  · cases e
  obtain rfl := Sum.inl.inj e
  refine q_i2l dL_groupTimer_8 ?_
  refine v_last (x := (V (X + 2 + 37 * nn a1 + 3 + 2 * nn a2) 4)) rfl dL_groupTimer_9 hok hw (fun h hok => ?_)
  refine q_goto (tgt := 17) dL_groupTimer_10 (by decide) ?_
  refine q_iconst (v := nI 0) dL_groupTimer_17 rfl ?_
  exact q_iret dL_groupTimer_18 rfl (rfl) ⟨_, Or.inr (Or.inr ⟨g1, g2, rfl, rfl⟩), hok, rfl⟩
set_option maxHeartbeats 4000000 in
theorem hL_asked (Sc : q_S) (Γ : Nat → q_K) (n : Nat) (V : q_V) (X many : Nat) (H : sGF Γ X many) (hm1 : 1 ≤ many) (hm4 : many ≤ 4) (a1 : Int32) (a2 : Int32) (w : Nat) (hw : Γ w = (5, 1, [])) : q_fp Sc Γ mL_asked [.ref X, .int (a1), .int (a2), .ref w] n 4 24 V (q_hlp (inZ a1 0 ((vJ9_min_7cf53 (V (X + 2 + 37 * many) 4) (nI 40) V).toInt)) (inZ a2 0 4) 1 2 V w ((vX4_asked X many a1 (nn a2) V)) (V)) := by
  intro h hok
  show q_A Sc mL_asked 0 [.ref X, .int (a1), .int (a2), .ref w, .retAddr 0] [] h n 4 24 (fun O h' n' => ∃ F, (q_hlp (inZ a1 0 ((vJ9_min_7cf53 (V (X + 2 + 37 * many) 4) (nI 40) V).toInt)) (inZ a2 0 4) 1 2 V w ((vX4_asked X many a1 (nn a2) V)) (V)) O F ∧ q_ok (gX Γ F) h' ∧ n' = n)
  refine q_aload_n dL_asked_0 rfl ?_
  refine q_iconst (v := nI 0) dL_asked_1 rfl ?_
  refine q_aload_n dL_asked_2 rfl ?_
  refine q_iload_n dL_asked_3 rfl ?_
  refine q_iload_n dL_asked_4 rfl ?_
  refine w_callV (M' := mX4_asked) [.int (a1), .int (a2)] [.int (nI 0), .ref w] kX4 dL_asked_5 wPL_57v wIX4_asked wSX4_asked iX4_asked oX4_asked rfl hok H.1 (pX4_asked Sc Γ n V X many H hm1 hm4 a1 a2) (Nat.le_of_ble_eq_true rfl) (Nat.le_of_ble_eq_true rfl) (Nat.le_of_ble_eq_true rfl) (Nat.le_of_ble_eq_true rfl) (Nat.le_of_ble_eq_true rfl) rfl (fun v h F hp hok => ?_) (fun x h F hp hok => ?_)
  rotate_left
  ·
    rcases hp with ⟨hn, e, rfl⟩ | ⟨g1, hn, e, rfl⟩ | ⟨-, -, e, -⟩
    ·
      obtain rfl := Sum.inr.inj e
      refine t_catch 13 rfl (by decide) rfl ?_
      refine q_astore_x dL_asked_13 (by decide) ?_
      refine q_iconst (v := nI 1) dL_asked_15 rfl ?_
      exact q_iret dL_asked_16 rfl (rfl) ⟨_, Or.inl ⟨hn, rfl, rfl⟩, hok, rfl⟩
    ·
      obtain rfl := Sum.inr.inj e
      refine t_catch 17 rfl (by decide) rfl ?_
      refine q_astore_x dL_asked_17 (by decide) ?_
      refine q_iconst (v := nI 2) dL_asked_19 rfl ?_
      exact q_iret dL_asked_20 rfl (rfl) ⟨_, Or.inr (Or.inl ⟨g1, hn, rfl, rfl⟩), hok, rfl⟩
    · cases e
  rcases hp with ⟨-, e, -⟩ | ⟨-, -, e, -⟩ | ⟨g1, g2, e, rfl⟩
  · cases e
  · cases e
  obtain rfl := Sum.inl.inj e
  refine q_i2l dL_asked_8 ?_
  refine v_last (x := (vX4_asked X many a1 (nn a2) V)) rfl dL_asked_9 hok hw (fun h hok => ?_)
  refine q_goto (tgt := 21) dL_asked_10 (by decide) ?_
  refine q_iconst (v := nI 0) dL_asked_21 rfl ?_
  exact q_iret dL_asked_22 rfl (rfl) ⟨_, Or.inr (Or.inr ⟨g1, g2, rfl, rfl⟩), hok, rfl⟩
set_option maxHeartbeats 4000000 in
theorem hL_told (Sc : q_S) (Γ : Nat → q_K) (n : Nat) (V : q_V) (X many : Nat) (H : sGF Γ X many) (hm1 : 1 ≤ many) (hm4 : many ≤ 4) (a1 : Int32) (a2 : Int32) (w : Nat) (hw : Γ w = (5, 1, [])) : q_fp Sc Γ mL_told [.ref X, .int (a1), .int (a2), .ref w] n 4 24 V (q_hlp (inZ a1 0 ((many : Int))) (inZ a2 0 6) 1 2 V w ((vX4_told X many (nn a1) (nn a2) V)) (V)) := by
  intro h hok
  show q_A Sc mL_told 0 [.ref X, .int (a1), .int (a2), .ref w, .retAddr 0] [] h n 4 24 (fun O h' n' => ∃ F, (q_hlp (inZ a1 0 ((many : Int))) (inZ a2 0 6) 1 2 V w ((vX4_told X many (nn a1) (nn a2) V)) (V)) O F ∧ q_ok (gX Γ F) h' ∧ n' = n)
  refine q_aload_n dL_told_0 rfl ?_
  refine q_iconst (v := nI 0) dL_told_1 rfl ?_
  refine q_aload_n dL_told_2 rfl ?_
  refine q_iload_n dL_told_3 rfl ?_
  refine q_iload_n dL_told_4 rfl ?_
  refine w_callV (M' := mX4_told) [.int (a1), .int (a2)] [.int (nI 0), .ref w] kX4 dL_told_5 wPL_60v wIX4_told wSX4_told iX4_told oX4_told rfl hok H.1 (pX4_told Sc Γ n V X many H hm1 hm4 a1 a2) (Nat.le_of_ble_eq_true rfl) (Nat.le_of_ble_eq_true rfl) (Nat.le_of_ble_eq_true rfl) (Nat.le_of_ble_eq_true rfl) (Nat.le_of_ble_eq_true rfl) rfl (fun v h F hp hok => ?_) (fun x h F hp hok => ?_)
  rotate_left
  ·
    rcases hp with ⟨hn, e, rfl⟩ | ⟨g1, hn, e, rfl⟩ | ⟨-, -, e, -⟩
    ·
      obtain rfl := Sum.inr.inj e
      refine t_catch 13 rfl (by decide) rfl ?_
      refine q_astore_x dL_told_13 (by decide) ?_
      refine q_iconst (v := nI 1) dL_told_15 rfl ?_
      exact q_iret dL_told_16 rfl (rfl) ⟨_, Or.inl ⟨hn, rfl, rfl⟩, hok, rfl⟩
    ·
      obtain rfl := Sum.inr.inj e
      refine t_catch 17 rfl (by decide) rfl ?_
      refine q_astore_x dL_told_17 (by decide) ?_
      refine q_iconst (v := nI 2) dL_told_19 rfl ?_
      exact q_iret dL_told_20 rfl (rfl) ⟨_, Or.inr (Or.inl ⟨g1, hn, rfl, rfl⟩), hok, rfl⟩
    · cases e
  rcases hp with ⟨-, e, -⟩ | ⟨-, -, e, -⟩ | ⟨g1, g2, e, rfl⟩
  · cases e
  · cases e
  obtain rfl := Sum.inl.inj e
  refine q_i2l dL_told_8 ?_
  refine v_last (x := (vX4_told X many (nn a1) (nn a2) V)) rfl dL_told_9 hok hw (fun h hok => ?_)
  refine q_goto (tgt := 21) dL_told_10 (by decide) ?_
  refine q_iconst (v := nI 0) dL_told_21 rfl ?_
  exact q_iret dL_told_22 rfl (rfl) ⟨_, Or.inr (Or.inr ⟨g1, g2, rfl, rfl⟩), hok, rfl⟩
