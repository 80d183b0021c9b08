set_option maxRecDepth 20000 in
set_option maxHeartbeats 4000000 in
theorem sX1_asks (Sc : q_S) (Γ : Nat → q_K) (n : Nat) {a0 : Nat} (b0 : kLk Γ a0) : q_safe Sc Γ mX1_asks [.ref a0] n 0 0 (q_RB) := by
  intro h hok
  show q_A Sc mX1_asks 0 [.ref a0] [] h n 0 0 (fun O h' n' => (q_RB) O ∧ q_ok Γ h' ∧ n' = n)
  refine q_aload_n dX1_asks_0 rfl ?_
  obtain ⟨pu188, qu188, ru188, su188, gu188, au188, bu188, cu188, du188, eu188, fu188⟩ := id b0
  refine t_geti 6 kX1 (by decide) wPX1_34 dX1_asks_1 hok gu188 rfl (fun x189 => ?_)
  refine q_sipush (v := nI 500) dX1_asks_4 rfl ?_
  refine q_icmp_ne (tgt := 14) dX1_asks_7 (by decide) (fun c190 => ?_) (fun c190 => ?_)
  ·
    refine q_iconst (v := nI 0) dX1_asks_14 rfl ?_
    exact q_iret dX1_asks_15 rfl (rfl) ⟨⟨_, rfl, Or.inl rfl⟩, hok, rfl⟩
  ·
    refine q_iconst (v := nI 1) dX1_asks_10 rfl ?_
    refine q_goto (tgt := 15) dX1_asks_11 (by decide) ?_
    exact q_iret dX1_asks_15 rfl (rfl) ⟨⟨_, rfl, Or.inr rfl⟩, hok, rfl⟩
set_option maxRecDepth 20000 in
set_option maxHeartbeats 4000000 in
theorem sX1_set (Sc : q_S) (Γ : Nat → q_K) (n : Nat) {a0 : Nat} (b0 : kLk Γ a0) (a1 : Int32) (a2 : Int32) (a3 : Int32) : q_safe Sc Γ mX1_set [.ref a0, .int (a1), .int (a2), .int (a3)] n 0 0 (q_RV) := by
  intro h hok
  show q_A Sc mX1_set 0 [.ref a0, .int (a1), .int (a2), .int (a3)] [] h n 0 0 (fun O h' n' => (q_RV) O ∧ q_ok Γ h' ∧ n' = n)
  refine q_aload_n dX1_set_0 rfl ?_
  refine q_iload_n dX1_set_1 rfl ?_
  obtain ⟨pu191, qu191, ru191, su191, gu191, au191, bu191, cu191, du191, eu191, fu191⟩ := id b0
  refine t_puti 3 kX1 (by decide) wPX1_41 rfl dX1_set_2 hok gu191 rfl ⟨rfl, rfl⟩ (fun h hok => ?_)
  refine q_aload_n dX1_set_5 rfl ?_
  refine q_iload_n dX1_set_6 rfl ?_
  refine t_puti 4 kX1 (by decide) wPX1_44 rfl dX1_set_7 hok gu191 rfl ⟨rfl, rfl⟩ (fun h hok => ?_)
  refine q_aload_n dX1_set_10 rfl ?_
  refine q_iload_n dX1_set_11 rfl ?_
  refine t_puti 5 kX1 (by decide) wPX1_47 rfl dX1_set_12 hok gu191 rfl ⟨rfl, rfl⟩ (fun h hok => ?_)
  refine q_aload_n dX1_set_15 rfl ?_
  refine t_callV (M' := mX1_asks) [] [] kX1 dX1_set_16 wPX1_50v wIX1_asks wSX1_asks iX1_asks oX1_asks rfl hok gu191 (sX1_asks Sc Γ n b0) (Nat.le_of_ble_eq_true rfl) (Nat.le_of_ble_eq_true rfl) (Nat.le_of_ble_eq_true rfl) (Nat.le_of_ble_eq_true rfl) (Nat.le_of_ble_eq_true rfl) rfl (fun v192 h qv192 hok => ?_) (fun e193 h qe193 hok => absurd qe193 (by intro q; obtain ⟨_, q, _⟩ := q; cases q))
  obtain ⟨x194, qx194, bx194⟩ := qv192
  obtain rfl := Sum.inl.inj qx194
  refine q_if_eq (tgt := 27) dX1_set_19 (by decide) (fun c195 => ?_) (fun c195 => ?_)
  ·
    exact q_vret dX1_set_27 rfl ⟨rfl, hok, rfl⟩
  ·
    refine q_aload_n dX1_set_22 rfl ?_
    refine q_iload_n dX1_set_23 rfl ?_
    refine t_puti 7 kX1 (by decide) wPX1_54 rfl dX1_set_24 hok gu191 rfl ⟨rfl, rfl⟩ (fun h hok => ?_)
    exact q_vret dX1_set_27 rfl ⟨rfl, hok, rfl⟩
set_option maxRecDepth 20000 in
set_option maxHeartbeats 4000000 in
theorem sX1_grace (Sc : q_S) (Γ : Nat → q_K) (n : Nat) {a0 : Nat} (b0 : kLk Γ a0) : q_safe Sc Γ mX1_grace [.ref a0] n 0 0 (q_RI) := by
  intro h hok
  show q_A Sc mX1_grace 0 [.ref a0] [] h n 0 0 (fun O h' n' => (q_RI) O ∧ q_ok Γ h' ∧ n' = n)
  refine q_aload_n dX1_grace_0 rfl ?_
  obtain ⟨pu196, qu196, ru196, su196, gu196, au196, bu196, cu196, du196, eu196, fu196⟩ := id b0
  refine t_geti 3 kX1 (by decide) wPX1_41 dX1_grace_1 hok gu196 rfl (fun x197 => ?_)
  refine q_aload_n dX1_grace_4 rfl ?_
  refine t_geti 4 kX1 (by decide) wPX1_44 dX1_grace_5 hok gu196 rfl (fun x198 => ?_)
  refine q_imul dX1_grace_8 ?_
  generalize (x197) * (x198) = z199
  refine q_aload_n dX1_grace_9 rfl ?_
  refine t_geti 5 kX1 (by decide) wPX1_47 dX1_grace_10 hok gu196 rfl (fun x200 => ?_)
  refine q_iadd dX1_grace_13 ?_
  generalize (z199) + (x200) = z201
  exact q_iret dX1_grace_14 rfl (rfl) ⟨⟨_, rfl⟩, hok, rfl⟩
set_option maxRecDepth 20000 in
set_option maxHeartbeats 4000000 in
theorem sX1_last (Sc : q_S) (Γ : Nat → q_K) (n : Nat) {a0 : Nat} (b0 : kLk Γ a0) : q_safe Sc Γ mX1_last [.ref a0] n 0 0 (q_RI) := by
  intro h hok
  show q_A Sc mX1_last 0 [.ref a0] [] h n 0 0 (fun O h' n' => (q_RI) O ∧ q_ok Γ h' ∧ n' = n)
  refine q_aload_n dX1_last_0 rfl ?_
  obtain ⟨pu202, qu202, ru202, su202, gu202, au202, bu202, cu202, du202, eu202, fu202⟩ := id b0
  refine t_geti 3 kX1 (by decide) wPX1_41 dX1_last_1 hok gu202 rfl (fun x203 => ?_)
  exact q_iret dX1_last_4 rfl (rfl) ⟨⟨_, rfl⟩, hok, rfl⟩
set_option maxRecDepth 20000 in
set_option maxHeartbeats 4000000 in
theorem sX1_reset (Sc : q_S) (Γ : Nat → q_K) (n : Nat) {a0 : Nat} (b0 : kLk Γ a0) : q_safe Sc Γ mX1_reset [.ref a0] n 0 0 (q_RV) := by
  intro h hok
  show q_A Sc mX1_reset 0 [.ref a0, .retAddr 0] [] h n 0 0 (fun O h' n' => (q_RV) O ∧ q_ok Γ h' ∧ n' = n)
  refine q_iconst (v := nI 0) dX1_reset_0 rfl ?_
  refine t_istore [.ref a0, .int (nI 0)] (Or.inl ⟨1, rfl, rfl, dX1_reset_1⟩) (by decide) rfl ?_
  obtain ⟨pu204, qu204, ru204, su204, gu204, au204, bu204, cu204, du204, eu204, fu204⟩ := id b0
  have hl205 : ∀ (d207 k206 : Nat) (h : q_H), k206 + d207 = 8 → q_ok Γ h → q_A Sc mX1_reset 2 [.ref a0, .int (nI k206)] [] h n 0 0 (fun O h' n' => (q_RV) O ∧ q_ok Γ h' ∧ n' = n) := by
    intro d207
    induction d207 with
    | zero =>
      intro k206  h el205 hok
      refine q_iload_n dX1_reset_2 rfl ?_
      refine q_bipush (v := nI 8) dX1_reset_3 rfl ?_
      refine t_icmp_ge_n (tgt := 23) (by omega) (by omega) dX1_reset_5 (by decide) (fun c208 => ?_) (fun c208 => ?_)
      rotate_left
      · exact absurd c208 (by omega)
      refine q_iconst (v := nI 0) dX1_reset_23 rfl ?_
      refine t_istore [.ref a0, .int (nI 0)] (Or.inl ⟨1, rfl, rfl, dX1_reset_24⟩) (by decide) rfl ?_
      have hl209 : ∀ (d211 k210 : Nat) (h : q_H), k210 + d211 = 6 → q_ok Γ h → q_A Sc mX1_reset 25 [.ref a0, .int (nI k210)] [] h n 0 0 (fun O h' n' => (q_RV) O ∧ q_ok Γ h' ∧ n' = n) := by
        intro d211
        induction d211 with
        | zero =>
          intro k210  h el209 hok
          refine q_iload_n dX1_reset_25 rfl ?_
          refine q_bipush (v := nI 6) dX1_reset_26 rfl ?_
          refine t_icmp_ge_n (tgt := 46) (by omega) (by omega) dX1_reset_28 (by decide) (fun c212 => ?_) (fun c212 => ?_)
          rotate_left
          · exact absurd c212 (by omega)
          refine q_aload_n dX1_reset_46 rfl ?_
          refine q_sipush (v := nI 500) dX1_reset_47 rfl ?_
          refine t_puti 6 kX1 (by decide) wPX1_34 rfl dX1_reset_50 hok gu204 rfl ⟨rfl, rfl⟩ (fun h hok => ?_)
          refine q_aload_n dX1_reset_53 rfl ?_
          refine q_iconst (v := nI 2) dX1_reset_54 rfl ?_
          refine q_bipush (v := nI 20) dX1_reset_55 rfl ?_
          refine q_iconst (v := nI 4) dX1_reset_57 rfl ?_
          refine t_callV (M' := mX1_set) [.int (nI 2), .int (nI 20), .int (nI 4)] [] kX1 dX1_reset_58 wPX1_37v wIX1_set wSX1_set iX1_set oX1_set rfl hok gu204 (sX1_set Sc Γ n b0 (nI 2) (nI 20) (nI 4)) (Nat.le_of_ble_eq_true rfl) (Nat.le_of_ble_eq_true rfl) (Nat.le_of_ble_eq_true rfl) (Nat.le_of_ble_eq_true rfl) (Nat.le_of_ble_eq_true rfl) rfl (fun v213 h qv213 hok => ?_) (fun e214 h qe214 hok => absurd qe214 (by intro q; cases q))
          obtain rfl := Sum.inl.inj qv213
          exact q_vret dX1_reset_61 rfl ⟨rfl, hok, rfl⟩
        | succ d211 ihl209 =>
          intro k210  h el209 hok
          refine q_iload_n dX1_reset_25 rfl ?_
          refine q_bipush (v := nI 6) dX1_reset_26 rfl ?_
          refine t_icmp_ge_n (tgt := 46) (by omega) (by omega) dX1_reset_28 (by decide) (fun c215 => ?_) (fun c215 => ?_)
          · exact absurd c215 (by omega)
          refine q_aload_n dX1_reset_31 rfl ?_
          refine t_getr 2 kX1 (by decide) wPX1_19 dX1_reset_32 hok gu204 rfl ?_
          refine q_iload_n dX1_reset_35 rfl ?_
          refine t_aald "GroupFilters$Member" dX1_reset_36 hok du204 rfl (by rw [eu204]; exact vp_in_nI (by omega) (by omega)) (fun p216 hp216 => ?_)
          have kp216 := fu204 _ _ hp216
          obtain ⟨tu217, bu217, gu217, au217, cu217⟩ := id kp216
          refine t_callV (M' := mX2_reset) [] [] kX2 dX1_reset_37 wPX1_33v wIX2_reset wSX2_reset iX2_reset oX2_reset rfl hok gu217 (sX2_reset Sc Γ n kp216) (Nat.le_of_ble_eq_true rfl) (Nat.le_of_ble_eq_true rfl) (Nat.le_of_ble_eq_true rfl) (Nat.le_of_ble_eq_true rfl) (Nat.le_of_ble_eq_true rfl) rfl (fun v218 h qv218 hok => ?_) (fun e219 h qe219 hok => absurd qe219 (by intro q; cases q))
          obtain rfl := Sum.inl.inj qv218
          refine t_iinc_n [.ref a0, .int (nI (k210 + 1))] dX1_reset_40 rfl (by decide) rfl ?_
          refine q_goto (tgt := 25) dX1_reset_43 (by decide) ?_
          exact ihl209 (k210 + 1)  h (by omega) hok
      exact hl209 (6) 0  h (by omega) hok
    | succ d207 ihl205 =>
      intro k206  h el205 hok
      refine q_iload_n dX1_reset_2 rfl ?_
      refine q_bipush (v := nI 8) dX1_reset_3 rfl ?_
      refine t_icmp_ge_n (tgt := 23) (by omega) (by omega) dX1_reset_5 (by decide) (fun c220 => ?_) (fun c220 => ?_)
      · exact absurd c220 (by omega)
      refine q_aload_n dX1_reset_8 rfl ?_
      refine t_getr 1 kX1 (by decide) wPX1_11 dX1_reset_9 hok gu204 rfl ?_
      refine q_iload_n dX1_reset_12 rfl ?_
      refine t_aald "GroupFilters$Filter" dX1_reset_13 hok au204 rfl (by rw [bu204]; exact vp_in_nI (by omega) (by omega)) (fun p221 hp221 => ?_)
      have kp221 := cu204 _ _ hp221
      obtain ⟨tu222, gu222, au222⟩ := id kp221
      refine t_callV (M' := mX0_reset) [] [] kX0 dX1_reset_14 wPX1_32v wIX0_reset wSX0_reset iX0_reset oX0_reset rfl hok gu222 (sX0_reset Sc Γ n kp221) (Nat.le_of_ble_eq_true rfl) (Nat.le_of_ble_eq_true rfl) (Nat.le_of_ble_eq_true rfl) (Nat.le_of_ble_eq_true rfl) (Nat.le_of_ble_eq_true rfl) rfl (fun v223 h qv223 hok => ?_) (fun e224 h qe224 hok => absurd qe224 (by intro q; cases q))
      obtain rfl := Sum.inl.inj qv223
      refine t_iinc_n [.ref a0, .int (nI (k206 + 1))] dX1_reset_17 rfl (by decide) rfl ?_
      refine q_goto (tgt := 2) dX1_reset_20 (by decide) ?_
      exact ihl205 (k206 + 1)  h (by omega) hok
  exact hl205 (8) 0  h (by omega) hok
set_option maxRecDepth 20000 in
set_option maxHeartbeats 4000000 in
theorem sX1_records (Sc : q_S) (Γ : Nat → q_K) (n : Nat) {a0 : Nat} (b0 : kLk Γ a0) : q_safe Sc Γ mX1_records [.ref a0] n 0 0 (q_RI) := by
  intro h hok
  show q_A Sc mX1_records 0 [.ref a0, .retAddr 0, .retAddr 0] [] h n 0 0 (fun O h' n' => (q_RI) O ∧ q_ok Γ h' ∧ n' = n)
  refine q_iconst (v := nI 0) dX1_records_0 rfl ?_
  refine t_istore [.ref a0, .int (nI 0), .retAddr 0] (Or.inl ⟨1, rfl, rfl, dX1_records_1⟩) (by decide) rfl ?_
  refine q_iconst (v := nI 0) dX1_records_2 rfl ?_
  refine t_istore [.ref a0, .int (nI 0), .int (nI 0)] (Or.inl ⟨2, rfl, rfl, dX1_records_3⟩) (by decide) rfl ?_
  obtain ⟨pu225, qu225, ru225, su225, gu225, au225, bu225, cu225, du225, eu225, fu225⟩ := id b0
  have hl226 : ∀ (d228 k227 : Nat) (x229 : Int32) (h : q_H), k227 + d228 = 8 → q_ok Γ h → q_A Sc mX1_records 4 [.ref a0, .int (x229), .int (nI k227)] [] h n 0 0 (fun O h' n' => (q_RI) O ∧ q_ok Γ h' ∧ n' = n) := by
    intro d228
    induction d228 with
    | zero =>
      intro k227 x229 h el226 hok
      refine q_iload_n dX1_records_4 rfl ?_
      refine q_bipush (v := nI 8) dX1_records_5 rfl ?_
      refine t_icmp_ge_n (tgt := 32) (by omega) (by omega) dX1_records_7 (by decide) (fun c230 => ?_) (fun c230 => ?_)
      rotate_left
      · exact absurd c230 (by omega)
      refine q_iload_n dX1_records_32 rfl ?_
      exact q_iret dX1_records_33 rfl (rfl) ⟨⟨_, rfl⟩, hok, rfl⟩
    | succ d228 ihl226 =>
      intro k227 x229 h el226 hok
      refine q_iload_n dX1_records_4 rfl ?_
      refine q_bipush (v := nI 8) dX1_records_5 rfl ?_
      refine t_icmp_ge_n (tgt := 32) (by omega) (by omega) dX1_records_7 (by decide) (fun c231 => ?_) (fun c231 => ?_)
      · exact absurd c231 (by omega)
      refine q_aload_n dX1_records_10 rfl ?_
      refine t_getr 1 kX1 (by decide) wPX1_11 dX1_records_11 hok gu225 rfl ?_
      refine q_iload_n dX1_records_14 rfl ?_
      refine t_aald "GroupFilters$Filter" dX1_records_15 hok au225 rfl (by rw [bu225]; exact vp_in_nI (by omega) (by omega)) (fun p232 hp232 => ?_)
      have kp232 := cu225 _ _ hp232
      obtain ⟨tu233, gu233, au233⟩ := id kp232
      refine t_callV (M' := mX0_state) [] [] kX0 dX1_records_16 wPX1_57v wIX0_state wSX0_state iX0_state oX0_state rfl hok gu233 (sX0_state Sc Γ n kp232) (Nat.le_of_ble_eq_true rfl) (Nat.le_of_ble_eq_true rfl) (Nat.le_of_ble_eq_true rfl) (Nat.le_of_ble_eq_true rfl) (Nat.le_of_ble_eq_true rfl) rfl (fun v234 h qv234 hok => ?_) (fun e235 h qe235 hok => absurd qe235 (by intro q; obtain ⟨_, q⟩ := q; cases q))
      obtain ⟨x236, qx236⟩ := qv234
      obtain rfl := Sum.inl.inj qx236
      refine q_iconst (v := -1) dX1_records_19 rfl ?_
      refine q_icmp_eq (tgt := 26) dX1_records_20 (by decide) (fun c237 => ?_) (fun c237 => ?_)
      ·
        refine t_iinc_n [.ref a0, .int (x229), .int (nI (k227 + 1))] dX1_records_26 rfl (by decide) rfl ?_
        refine q_goto (tgt := 4) dX1_records_29 (by decide) ?_
        exact ihl226 (k227 + 1) (x229) h (by omega) hok
      ·
        obtain ⟨y238, hy238⟩ : ∃ y238 : Int32, x229 + Int32.ofInt (1) = y238 := ⟨_, rfl⟩
        refine t_iinc [.ref a0, .int (y238), .int (nI k227)] dX1_records_23 rfl hy238 (by decide) rfl ?_
        refine t_iinc_n [.ref a0, .int (y238), .int (nI (k227 + 1))] dX1_records_26 rfl (by decide) rfl ?_
        refine q_goto (tgt := 4) dX1_records_29 (by decide) ?_
        exact ihl226 (k227 + 1) (y238) h (by omega) hok
  exact hl226 (8) 0 (nI 0) h (by omega) hok
set_option maxRecDepth 20000 in
set_option maxHeartbeats 4000000 in
theorem sX1_yieldTo (Sc : q_S) (Γ : Nat → q_K) (n : Nat) {a0 : Nat} (b0 : kLk Γ a0) (a1 : Int32) : q_safe Sc Γ mX1_yieldTo [.ref a0, .int (a1)] n 0 0 (q_RV) := by
  intro h hok
  show q_A Sc mX1_yieldTo 0 [.ref a0, .int (a1)] [] h n 0 0 (fun O h' n' => (q_RV) O ∧ q_ok Γ h' ∧ n' = n)
  refine q_aload_n dX1_yieldTo_0 rfl ?_
  refine q_aload_n dX1_yieldTo_1 rfl ?_
  obtain ⟨pu239, qu239, ru239, su239, gu239, au239, bu239, cu239, du239, eu239, fu239⟩ := id b0
  refine t_geti 6 kX1 (by decide) wPX1_34 dX1_yieldTo_2 hok gu239 rfl (fun x240 => ?_)
  refine q_iload_n dX1_yieldTo_5 rfl ?_
  refine t_callS (M' := mJ9_min_7cf53) [.int (x240), .int (a1)] [.ref a0] dX1_yieldTo_6 wPX1_61 wTJ9_min_7cf53 wNJ9 iJ9_min_7cf53 oJ9_min_7cf53 rfl hok (sJ9_min_7cf53 Sc Γ n (x240) (a1)) (Nat.le_of_ble_eq_true rfl) (Nat.le_of_ble_eq_true rfl) (Nat.le_of_ble_eq_true rfl) (Nat.le_of_ble_eq_true rfl) (Nat.le_of_ble_eq_true rfl) rfl (fun v241 h qv241 hok => ?_) (fun e242 h qe242 hok => absurd qe242 (by intro q; obtain ⟨_, q⟩ := q; cases q))
  obtain ⟨x243, qx243⟩ := qv241
  obtain rfl := Sum.inl.inj qx243
  refine t_puti 6 kX1 (by decide) wPX1_34 rfl dX1_yieldTo_9 hok gu239 rfl ⟨rfl, rfl⟩ (fun h hok => ?_)
  refine q_aload_n dX1_yieldTo_12 rfl ?_
  refine q_aload_n dX1_yieldTo_13 rfl ?_
  refine t_geti 3 kX1 (by decide) wPX1_41 dX1_yieldTo_14 hok gu239 rfl (fun x244 => ?_)
  refine q_aload_n dX1_yieldTo_17 rfl ?_
  refine t_geti 4 kX1 (by decide) wPX1_44 dX1_yieldTo_18 hok gu239 rfl (fun x245 => ?_)
  refine q_imul dX1_yieldTo_21 ?_
  generalize (x244) * (x245) = z246
  refine q_aload_n dX1_yieldTo_22 rfl ?_
  refine t_geti 5 kX1 (by decide) wPX1_47 dX1_yieldTo_23 hok gu239 rfl (fun x247 => ?_)
  refine q_iconst (v := nI 2) dX1_yieldTo_26 rfl ?_
  refine q_idiv dX1_yieldTo_27 (by decide) ?_
  generalize (x247) / (nI 2) = z248
  refine q_iadd dX1_yieldTo_28 ?_
  generalize (z246) + (z248) = z249
  refine t_puti 7 kX1 (by decide) wPX1_54 rfl dX1_yieldTo_29 hok gu239 rfl ⟨rfl, rfl⟩ (fun h hok => ?_)
  exact q_vret dX1_yieldTo_32 rfl ⟨rfl, hok, rfl⟩
set_option maxRecDepth 20000 in
set_option maxHeartbeats 4000000 in
theorem sX1_ageFilters (Sc : q_S) (Γ : Nat → q_K) (n : Nat) {a0 : Nat} (b0 : kLk Γ a0) (a1 : Int32) : q_safe Sc Γ mX1_ageFilters [.ref a0, .int (a1)] n 0 0 (q_RV) := by
  intro h hok
  show q_A Sc mX1_ageFilters 0 [.ref a0, .int (a1), .retAddr 0] [] h n 0 0 (fun O h' n' => (q_RV) O ∧ q_ok Γ h' ∧ n' = n)
  refine q_iconst (v := nI 0) dX1_ageFilters_0 rfl ?_
  refine t_istore [.ref a0, .int (a1), .int (nI 0)] (Or.inl ⟨2, rfl, rfl, dX1_ageFilters_1⟩) (by decide) rfl ?_
  obtain ⟨pu250, qu250, ru250, su250, gu250, au250, bu250, cu250, du250, eu250, fu250⟩ := id b0
  have hl251 : ∀ (d253 k252 : Nat) (h : q_H), k252 + d253 = 8 → q_ok Γ h → q_A Sc mX1_ageFilters 2 [.ref a0, .int (a1), .int (nI k252)] [] h n 0 0 (fun O h' n' => (q_RV) O ∧ q_ok Γ h' ∧ n' = n) := by
    intro d253
    induction d253 with
    | zero =>
      intro k252  h el251 hok
      refine q_iload_n dX1_ageFilters_2 rfl ?_
      refine q_bipush (v := nI 8) dX1_ageFilters_3 rfl ?_
      refine t_icmp_ge_n (tgt := 24) (by omega) (by omega) dX1_ageFilters_5 (by decide) (fun c254 => ?_) (fun c254 => ?_)
      rotate_left
      · exact absurd c254 (by omega)
      exact q_vret dX1_ageFilters_24 rfl ⟨rfl, hok, rfl⟩
    | succ d253 ihl251 =>
      intro k252  h el251 hok
      refine q_iload_n dX1_ageFilters_2 rfl ?_
      refine q_bipush (v := nI 8) dX1_ageFilters_3 rfl ?_
      refine t_icmp_ge_n (tgt := 24) (by omega) (by omega) dX1_ageFilters_5 (by decide) (fun c255 => ?_) (fun c255 => ?_)
      · exact absurd c255 (by omega)
      refine q_aload_n dX1_ageFilters_8 rfl ?_
      refine t_getr 1 kX1 (by decide) wPX1_11 dX1_ageFilters_9 hok gu250 rfl ?_
      refine q_iload_n dX1_ageFilters_12 rfl ?_
      refine t_aald "GroupFilters$Filter" dX1_ageFilters_13 hok au250 rfl (by rw [bu250]; exact vp_in_nI (by omega) (by omega)) (fun p256 hp256 => ?_)
      have kp256 := cu250 _ _ hp256
      refine q_iload_n dX1_ageFilters_14 rfl ?_
      obtain ⟨tu257, gu257, au257⟩ := id kp256
      refine t_callV (M' := mX0_age) [.int (a1)] [] kX0 dX1_ageFilters_15 wPX1_67v wIX0_age wSX0_age iX0_age oX0_age rfl hok gu257 (sX0_age Sc Γ n kp256 (a1)) (Nat.le_of_ble_eq_true rfl) (Nat.le_of_ble_eq_true rfl) (Nat.le_of_ble_eq_true rfl) (Nat.le_of_ble_eq_true rfl) (Nat.le_of_ble_eq_true rfl) rfl (fun v258 h qv258 hok => ?_) (fun e259 h qe259 hok => absurd qe259 (by intro q; cases q))
      obtain rfl := Sum.inl.inj qv258
      refine t_iinc_n [.ref a0, .int (a1), .int (nI (k252 + 1))] dX1_ageFilters_18 rfl (by decide) rfl ?_
      refine q_goto (tgt := 2) dX1_ageFilters_21 (by decide) ?_
      exact ihl251 (k252 + 1)  h (by omega) hok
  exact hl251 (8) 0  h (by omega) hok
set_option maxRecDepth 20000 in
set_option maxHeartbeats 4000000 in
theorem sX1_runClock (Sc : q_S) (Γ : Nat → q_K) (n : Nat) {a0 : Nat} (b0 : kLk Γ a0) {a1 : Nat} (b1 : kLg Γ a1) (a2 : Int32) : q_safe Sc Γ mX1_runClock [.ref a0, .ref a1, .int (a2)] n 0 0 (q_RV) := by
  intro h hok
  show q_A Sc mX1_runClock 0 [.ref a0, .ref a1, .int (a2)] [] h n 0 0 (fun O h' n' => (q_RV) O ∧ q_ok Γ h' ∧ n' = n)
  refine q_aload_n dX1_runClock_0 rfl ?_
  refine q_dup dX1_runClock_1 rfl ?_
  obtain ⟨pu260, qu260, ru260, su260, gu260, au260, bu260, cu260, du260, eu260, fu260⟩ := id b0
  refine t_geti 7 kX1 (by decide) wPX1_54 dX1_runClock_2 hok gu260 rfl (fun x261 => ?_)
  refine q_iload_n dX1_runClock_5 rfl ?_
  refine q_isub dX1_runClock_6 ?_
  generalize (x261) - (a2) = z262
  refine t_puti 7 kX1 (by decide) wPX1_54 rfl dX1_runClock_7 hok gu260 rfl ⟨rfl, rfl⟩ (fun h hok => ?_)
  refine q_aload_n dX1_runClock_10 rfl ?_
  refine t_geti 7 kX1 (by decide) wPX1_54 dX1_runClock_11 hok gu260 rfl (fun x263 => ?_)
  refine q_if_le (tgt := 18) dX1_runClock_14 (by decide) (fun c264 => ?_) (fun c264 => ?_)
  ·
    refine q_aload_n dX1_runClock_18 rfl ?_
    refine t_callV (M' := mX1_asks) [] [] kX1 dX1_runClock_19 wPX1_50v wIX1_asks wSX1_asks iX1_asks oX1_asks rfl hok gu260 (sX1_asks Sc Γ n b0) (Nat.le_of_ble_eq_true rfl) (Nat.le_of_ble_eq_true rfl) (Nat.le_of_ble_eq_true rfl) (Nat.le_of_ble_eq_true rfl) (Nat.le_of_ble_eq_true rfl) rfl (fun v265 h qv265 hok => ?_) (fun e266 h qe266 hok => absurd qe266 (by intro q; obtain ⟨_, q, _⟩ := q; cases q))
    obtain ⟨x267, qx267, bx267⟩ := qv265
    obtain rfl := Sum.inl.inj qx267
    refine q_if_eq (tgt := 35) dX1_runClock_22 (by decide) (fun c268 => ?_) (fun c268 => ?_)
    ·
      refine q_aload_n dX1_runClock_35 rfl ?_
      refine q_sipush (v := nI 500) dX1_runClock_36 rfl ?_
      refine t_puti 6 kX1 (by decide) wPX1_34 rfl dX1_runClock_39 hok gu260 rfl ⟨rfl, rfl⟩ (fun h hok => ?_)
      refine q_aload_n dX1_runClock_42 rfl ?_
      refine q_aload_n dX1_runClock_43 rfl ?_
      refine t_geti 4 kX1 (by decide) wPX1_44 dX1_runClock_44 hok gu260 rfl (fun x269 => ?_)
      refine t_puti 7 kX1 (by decide) wPX1_54 rfl dX1_runClock_47 hok gu260 rfl ⟨rfl, rfl⟩ (fun h hok => ?_)
      exact q_vret dX1_runClock_50 rfl ⟨rfl, hok, rfl⟩
    ·
      refine q_aload_n dX1_runClock_25 rfl ?_
      refine q_aload_n dX1_runClock_26 rfl ?_
      refine t_geti 0 kX1 (by decide) wPX1_23 dX1_runClock_27 hok gu260 rfl (fun x270 => ?_)
      refine q_iconst (v := -1) dX1_runClock_30 rfl ?_
      refine q_iconst (v := nI 0) dX1_runClock_31 rfl ?_
      obtain ⟨pu271, qu271, ru271, su271, gu271, au271, bu271, cu271, du271⟩ := id b1
      refine t_callV (M' := mX3_add) [.int (x270), .int (-1), .int (nI 0)] [] kX3 dX1_runClock_32 wPX1_71v wIX3_add wSX3_add iX3_add oX3_add rfl hok gu271 (sX3_add Sc Γ n b1 (x270) (-1) (nI 0)) (Nat.le_of_ble_eq_true rfl) (Nat.le_of_ble_eq_true rfl) (Nat.le_of_ble_eq_true rfl) (Nat.le_of_ble_eq_true rfl) (Nat.le_of_ble_eq_true rfl) rfl (fun v272 h qv272 hok => ?_) (fun e273 h qe273 hok => absurd qe273 (by intro q; cases q))
      obtain rfl := Sum.inl.inj qv272
      refine q_aload_n dX1_runClock_35 rfl ?_
      refine q_sipush (v := nI 500) dX1_runClock_36 rfl ?_
      refine t_puti 6 kX1 (by decide) wPX1_34 rfl dX1_runClock_39 hok gu260 rfl ⟨rfl, rfl⟩ (fun h hok => ?_)
      refine q_aload_n dX1_runClock_42 rfl ?_
      refine q_aload_n dX1_runClock_43 rfl ?_
      refine t_geti 4 kX1 (by decide) wPX1_44 dX1_runClock_44 hok gu260 rfl (fun x274 => ?_)
      refine t_puti 7 kX1 (by decide) wPX1_54 rfl dX1_runClock_47 hok gu260 rfl ⟨rfl, rfl⟩ (fun h hok => ?_)
      exact q_vret dX1_runClock_50 rfl ⟨rfl, hok, rfl⟩
  ·
    exact q_vret dX1_runClock_17 rfl ⟨rfl, hok, rfl⟩
set_option maxRecDepth 20000 in
set_option maxHeartbeats 4000000 in
theorem sX1_askSources (Sc : q_S) (Γ : Nat → q_K) (n : Nat) {a0 : Nat} (b0 : kLk Γ a0) {a1 : Nat} (b1 : kLg Γ a1) (a2 : Nat) (b2 : a2 < 8) (a3 : Int32) : q_safe Sc Γ mX1_askSources [.ref a0, .ref a1, .int (nI a2), .int (a3)] n 0 0 (q_RV) := by
  intro h hok
  show q_A Sc mX1_askSources 0 [.ref a0, .ref a1, .int (nI a2), .int (a3)] [] h n 0 0 (fun O h' n' => (q_RV) O ∧ q_ok Γ h' ∧ n' = n)
  refine q_iload_n dX1_askSources_0 rfl ?_
  refine q_if_eq (tgt := 35) dX1_askSources_1 (by decide) (fun c275 => ?_) (fun c275 => ?_)
  ·
    exact q_vret dX1_askSources_35 rfl ⟨rfl, hok, rfl⟩
  ·
    refine q_aload_n dX1_askSources_4 rfl ?_
    obtain ⟨pu276, qu276, ru276, su276, gu276, au276, bu276, cu276, du276, eu276, fu276⟩ := id b0
    refine t_callV (M' := mX1_asks) [] [] kX1 dX1_askSources_5 wPX1_50v wIX1_asks wSX1_asks iX1_asks oX1_asks rfl hok gu276 (sX1_asks Sc Γ n b0) (Nat.le_of_ble_eq_true rfl) (Nat.le_of_ble_eq_true rfl) (Nat.le_of_ble_eq_true rfl) (Nat.le_of_ble_eq_true rfl) (Nat.le_of_ble_eq_true rfl) rfl (fun v277 h qv277 hok => ?_) (fun e278 h qe278 hok => absurd qe278 (by intro q; obtain ⟨_, q, _⟩ := q; cases q))
    obtain ⟨x279, qx279, bx279⟩ := qv277
    obtain rfl := Sum.inl.inj qx279
    refine q_if_eq (tgt := 35) dX1_askSources_8 (by decide) (fun c280 => ?_) (fun c280 => ?_)
    ·
      exact q_vret dX1_askSources_35 rfl ⟨rfl, hok, rfl⟩
    ·
      refine q_aload_n dX1_askSources_11 rfl ?_
      refine q_aload_n dX1_askSources_12 rfl ?_
      refine t_geti 0 kX1 (by decide) wPX1_23 dX1_askSources_13 hok gu276 rfl (fun x281 => ?_)
      refine q_iload_n dX1_askSources_16 rfl ?_
      refine q_iload_n dX1_askSources_17 rfl ?_
      obtain ⟨pu282, qu282, ru282, su282, gu282, au282, bu282, cu282, du282⟩ := id b1
      refine t_callV (M' := mX3_add) [.int (x281), .int (nI a2), .int (a3)] [] kX3 dX1_askSources_18 wPX1_71v wIX3_add wSX3_add iX3_add oX3_add rfl hok gu282 (sX3_add Sc Γ n b1 (x281) (nI a2) (a3)) (Nat.le_of_ble_eq_true rfl) (Nat.le_of_ble_eq_true rfl) (Nat.le_of_ble_eq_true rfl) (Nat.le_of_ble_eq_true rfl) (Nat.le_of_ble_eq_true rfl) rfl (fun v283 h qv283 hok => ?_) (fun e284 h qe284 hok => absurd qe284 (by intro q; cases q))
      obtain rfl := Sum.inl.inj qv283
      refine q_aload_n dX1_askSources_21 rfl ?_
      refine t_getr 1 kX1 (by decide) wPX1_11 dX1_askSources_22 hok gu276 rfl ?_
      refine q_iload_n dX1_askSources_25 rfl ?_
      refine t_aald "GroupFilters$Filter" dX1_askSources_26 hok au276 rfl (by rw [bu276]; exact vp_in_nI (by omega) (by omega)) (fun p285 hp285 => ?_)
      have kp285 := cu276 _ _ hp285
      refine q_iload_n dX1_askSources_27 rfl ?_
      refine q_aload_n dX1_askSources_28 rfl ?_
      refine t_callV (M' := mX1_last) [] [.int (a3), .ref p285.2] kX1 dX1_askSources_29 wPX1_120v wIX1_last wSX1_last iX1_last oX1_last rfl hok gu276 (sX1_last Sc Γ n b0) (Nat.le_of_ble_eq_true rfl) (Nat.le_of_ble_eq_true rfl) (Nat.le_of_ble_eq_true rfl) (Nat.le_of_ble_eq_true rfl) (Nat.le_of_ble_eq_true rfl) rfl (fun v286 h qv286 hok => ?_) (fun e287 h qe287 hok => absurd qe287 (by intro q; obtain ⟨_, q⟩ := q; cases q))
      obtain ⟨x288, qx288⟩ := qv286
      obtain rfl := Sum.inl.inj qx288
      obtain ⟨tu289, gu289, au289⟩ := id kp285
      refine t_callV (M' := mX0_lowerTimers) [.int (a3), .int (x288)] [] kX0 dX1_askSources_32 wPX1_123v wIX0_lowerTimers wSX0_lowerTimers iX0_lowerTimers oX0_lowerTimers rfl hok gu289 (sX0_lowerTimers Sc Γ n kp285 (a3) (x288)) (Nat.le_of_ble_eq_true rfl) (Nat.le_of_ble_eq_true rfl) (Nat.le_of_ble_eq_true rfl) (Nat.le_of_ble_eq_true rfl) (Nat.le_of_ble_eq_true rfl) rfl (fun v290 h qv290 hok => ?_) (fun e291 h qe291 hok => absurd qe291 (by intro q; cases q))
      obtain rfl := Sum.inl.inj qv290
      exact q_vret dX1_askSources_35 rfl ⟨rfl, hok, rfl⟩
set_option maxRecDepth 20000 in
set_option maxHeartbeats 4000000 in
theorem sX1_askGroup (Sc : q_S) (Γ : Nat → q_K) (n : Nat) {a0 : Nat} (b0 : kLk Γ a0) {a1 : Nat} (b1 : kLg Γ a1) (a2 : Nat) (b2 : a2 < 8) : q_safe Sc Γ mX1_askGroup [.ref a0, .ref a1, .int (nI a2)] n 0 0 (q_RV) := by
  intro h hok
  show q_A Sc mX1_askGroup 0 [.ref a0, .ref a1, .int (nI a2)] [] h n 0 0 (fun O h' n' => (q_RV) O ∧ q_ok Γ h' ∧ n' = n)
  refine q_aload_n dX1_askGroup_0 rfl ?_
  obtain ⟨pu292, qu292, ru292, su292, gu292, au292, bu292, cu292, du292, eu292, fu292⟩ := id b0
  refine t_callV (M' := mX1_asks) [] [] kX1 dX1_askGroup_1 wPX1_50v wIX1_asks wSX1_asks iX1_asks oX1_asks rfl hok gu292 (sX1_asks Sc Γ n b0) (Nat.le_of_ble_eq_true rfl) (Nat.le_of_ble_eq_true rfl) (Nat.le_of_ble_eq_true rfl) (Nat.le_of_ble_eq_true rfl) (Nat.le_of_ble_eq_true rfl) rfl (fun v293 h qv293 hok => ?_) (fun e294 h qe294 hok => absurd qe294 (by intro q; obtain ⟨_, q, _⟩ := q; cases q))
  obtain ⟨x295, qx295, bx295⟩ := qv293
  obtain rfl := Sum.inl.inj qx295
  refine q_if_eq (tgt := 30) dX1_askGroup_4 (by decide) (fun c296 => ?_) (fun c296 => ?_)
  ·
    exact q_vret dX1_askGroup_30 rfl ⟨rfl, hok, rfl⟩
  ·
    refine q_aload_n dX1_askGroup_7 rfl ?_
    refine q_aload_n dX1_askGroup_8 rfl ?_
    refine t_geti 0 kX1 (by decide) wPX1_23 dX1_askGroup_9 hok gu292 rfl (fun x297 => ?_)
    refine q_iload_n dX1_askGroup_12 rfl ?_
    refine q_iconst (v := nI 0) dX1_askGroup_13 rfl ?_
    obtain ⟨pu298, qu298, ru298, su298, gu298, au298, bu298, cu298, du298⟩ := id b1
    refine t_callV (M' := mX3_add) [.int (x297), .int (nI a2), .int (nI 0)] [] kX3 dX1_askGroup_14 wPX1_71v wIX3_add wSX3_add iX3_add oX3_add rfl hok gu298 (sX3_add Sc Γ n b1 (x297) (nI a2) (nI 0)) (Nat.le_of_ble_eq_true rfl) (Nat.le_of_ble_eq_true rfl) (Nat.le_of_ble_eq_true rfl) (Nat.le_of_ble_eq_true rfl) (Nat.le_of_ble_eq_true rfl) rfl (fun v299 h qv299 hok => ?_) (fun e300 h qe300 hok => absurd qe300 (by intro q; cases q))
    obtain rfl := Sum.inl.inj qv299
    refine q_aload_n dX1_askGroup_17 rfl ?_
    refine t_getr 1 kX1 (by decide) wPX1_11 dX1_askGroup_18 hok gu292 rfl ?_
    refine q_iload_n dX1_askGroup_21 rfl ?_
    refine t_aald "GroupFilters$Filter" dX1_askGroup_22 hok au292 rfl (by rw [bu292]; exact vp_in_nI (by omega) (by omega)) (fun p301 hp301 => ?_)
    have kp301 := cu292 _ _ hp301
    refine q_aload_n dX1_askGroup_23 rfl ?_
    refine t_callV (M' := mX1_last) [] [.ref p301.2] kX1 dX1_askGroup_24 wPX1_120v wIX1_last wSX1_last iX1_last oX1_last rfl hok gu292 (sX1_last Sc Γ n b0) (Nat.le_of_ble_eq_true rfl) (Nat.le_of_ble_eq_true rfl) (Nat.le_of_ble_eq_true rfl) (Nat.le_of_ble_eq_true rfl) (Nat.le_of_ble_eq_true rfl) rfl (fun v302 h qv302 hok => ?_) (fun e303 h qe303 hok => absurd qe303 (by intro q; obtain ⟨_, q⟩ := q; cases q))
    obtain ⟨x304, qx304⟩ := qv302
    obtain rfl := Sum.inl.inj qx304
    obtain ⟨tu305, gu305, au305⟩ := id kp301
    refine t_callV (M' := mX0_lowerOwnTimer) [.int (x304)] [] kX0 dX1_askGroup_27 wPX1_126v wIX0_lowerOwnTimer wSX0_lowerOwnTimer iX0_lowerOwnTimer oX0_lowerOwnTimer rfl hok gu305 (sX0_lowerOwnTimer Sc Γ n kp301 (x304)) (Nat.le_of_ble_eq_true rfl) (Nat.le_of_ble_eq_true rfl) (Nat.le_of_ble_eq_true rfl) (Nat.le_of_ble_eq_true rfl) (Nat.le_of_ble_eq_true rfl) rfl (fun v306 h qv306 hok => ?_) (fun e307 h qe307 hok => absurd qe307 (by intro q; cases q))
    obtain rfl := Sum.inl.inj qv306
    exact q_vret dX1_askGroup_30 rfl ⟨rfl, hok, rfl⟩
set_option maxRecDepth 20000 in
set_option maxHeartbeats 4000000 in
theorem sX1_hearToIn (Sc : q_S) (Γ : Nat → q_K) (n : Nat) {a0 : Nat} (b0 : kLk Γ a0) {a1 : Nat} (b1 : kLg Γ a1) (a2 : Nat) (b2 : a2 < 8) (a3 : Int32) : q_safe Sc Γ mX1_hearToIn [.ref a0, .ref a1, .int (nI a2), .int (a3)] n 0 0 (q_RV) := by
  intro h hok
  show q_A Sc mX1_hearToIn 0 [.ref a0, .ref a1, .int (nI a2), .int (a3), .retAddr 0, .retAddr 0] [] h n 0 0 (fun O h' n' => (q_RV) O ∧ q_ok Γ h' ∧ n' = n)
  refine q_aload_n dX1_hearToIn_0 rfl ?_
  obtain ⟨pu308, qu308, ru308, su308, gu308, au308, bu308, cu308, du308, eu308, fu308⟩ := id b0
  refine t_getr 1 kX1 (by decide) wPX1_11 dX1_hearToIn_1 hok gu308 rfl ?_
  refine q_iload_n dX1_hearToIn_4 rfl ?_
  refine t_aald "GroupFilters$Filter" dX1_hearToIn_5 hok au308 rfl (by rw [bu308]; exact vp_in_nI (by omega) (by omega)) (fun p309 hp309 => ?_)
  have kp309 := cu308 _ _ hp309
  refine q_astore dX1_hearToIn_6 (by decide) ?_
  refine q_aload dX1_hearToIn_8 rfl ?_
  obtain ⟨tu310, gu310, au310⟩ := id kp309
  refine t_geti 2 kX0 (by decide) wPX1_96 dX1_hearToIn_10 hok gu310 rfl (fun x311 => ?_)
  refine q_iload_n dX1_hearToIn_13 rfl ?_
  refine q_iconst (v := -1) dX1_hearToIn_14 rfl ?_
  refine q_ixor dX1_hearToIn_15 ?_
  generalize (a3) ^^^ (-1) = z312
  refine q_iand dX1_hearToIn_16 ?_
  generalize (x311) &&& (z312) = z313
  refine t_istore [.ref a0, .ref a1, .int (nI a2), .int (a3), .ref p309.2, .int (z313)] (Or.inr ⟨rfl, dX1_hearToIn_17⟩) (by decide) rfl ?_
  refine q_aload dX1_hearToIn_19 rfl ?_
  refine q_iload_n dX1_hearToIn_21 rfl ?_
  refine q_aload_n dX1_hearToIn_22 rfl ?_
  refine t_callV (M' := mX1_grace) [] [.int (a3), .ref p309.2] kX1 dX1_hearToIn_23 wPX1_76v wIX1_grace wSX1_grace iX1_grace oX1_grace rfl hok gu308 (sX1_grace Sc Γ n b0) (Nat.le_of_ble_eq_true rfl) (Nat.le_of_ble_eq_true rfl) (Nat.le_of_ble_eq_true rfl) (Nat.le_of_ble_eq_true rfl) (Nat.le_of_ble_eq_true rfl) rfl (fun v314 h qv314 hok => ?_) (fun e315 h qe315 hok => absurd qe315 (by intro q; obtain ⟨_, q⟩ := q; cases q))
  obtain ⟨x316, qx316⟩ := qv314
  obtain rfl := Sum.inl.inj qx316
  refine t_callV (M' := mX0_allow) [.int (a3), .int (x316)] [] kX0 dX1_hearToIn_26 wPX1_92v wIX0_allow wSX0_allow iX0_allow oX0_allow rfl hok gu310 (sX0_allow Sc Γ n kp309 (a3) (x316)) (Nat.le_of_ble_eq_true rfl) (Nat.le_of_ble_eq_true rfl) (Nat.le_of_ble_eq_true rfl) (Nat.le_of_ble_eq_true rfl) (Nat.le_of_ble_eq_true rfl) rfl (fun v317 h qv317 hok => ?_) (fun e318 h qe318 hok => absurd qe318 (by intro q; cases q))
  obtain rfl := Sum.inl.inj qv317
  refine q_aload_n dX1_hearToIn_29 rfl ?_
  refine q_aload_n dX1_hearToIn_30 rfl ?_
  refine q_iload_n dX1_hearToIn_31 rfl ?_
  refine q_iload dX1_hearToIn_32 rfl ?_
  refine t_callV (M' := mX1_askSources) [.ref a1, .int (nI a2), .int (z313)] [] kX1 dX1_hearToIn_34 wPX1_99v wIX1_askSources wSX1_askSources iX1_askSources oX1_askSources rfl hok gu308 (sX1_askSources Sc Γ n b0 b1 (a2) (by omega) (z313)) (Nat.le_of_ble_eq_true rfl) (Nat.le_of_ble_eq_true rfl) (Nat.le_of_ble_eq_true rfl) (Nat.le_of_ble_eq_true rfl) (Nat.le_of_ble_eq_true rfl) rfl (fun v319 h qv319 hok => ?_) (fun e320 h qe320 hok => absurd qe320 (by intro q; cases q))
  obtain rfl := Sum.inl.inj qv319
  refine q_aload dX1_hearToIn_37 rfl ?_
  refine t_geti 1 kX0 (by decide) wPX1_102 dX1_hearToIn_39 hok gu310 rfl (fun x321 => ?_)
  refine q_if_eq (tgt := 51) dX1_hearToIn_42 (by decide) (fun c322 => ?_) (fun c322 => ?_)
  ·
    exact q_vret dX1_hearToIn_51 rfl ⟨rfl, hok, rfl⟩
  ·
    refine q_aload_n dX1_hearToIn_45 rfl ?_
    refine q_aload_n dX1_hearToIn_46 rfl ?_
    refine q_iload_n dX1_hearToIn_47 rfl ?_
    refine t_callV (M' := mX1_askGroup) [.ref a1, .int (nI a2)] [] kX1 dX1_hearToIn_48 wPX1_106v wIX1_askGroup wSX1_askGroup iX1_askGroup oX1_askGroup rfl hok gu308 (sX1_askGroup Sc Γ n b0 b1 (a2) (by omega)) (Nat.le_of_ble_eq_true rfl) (Nat.le_of_ble_eq_true rfl) (Nat.le_of_ble_eq_true rfl) (Nat.le_of_ble_eq_true rfl) (Nat.le_of_ble_eq_true rfl) rfl (fun v323 h qv323 hok => ?_) (fun e324 h qe324 hok => absurd qe324 (by intro q; cases q))
    obtain rfl := Sum.inl.inj qv323
    exact q_vret dX1_hearToIn_51 rfl ⟨rfl, hok, rfl⟩
set_option maxRecDepth 20000 in
set_option maxHeartbeats 4000000 in
theorem sX1_hearToEx (Sc : q_S) (Γ : Nat → q_K) (n : Nat) {a0 : Nat} (b0 : kLk Γ a0) {a1 : Nat} (b1 : kLg Γ a1) (a2 : Nat) (b2 : a2 < 8) (a3 : Int32) : q_safe Sc Γ mX1_hearToEx [.ref a0, .ref a1, .int (nI a2), .int (a3)] n 0 0 (q_RV) := by
  intro h hok
  show q_A Sc mX1_hearToEx 0 [.ref a0, .ref a1, .int (nI a2), .int (a3), .retAddr 0, .retAddr 0] [] h n 0 0 (fun O h' n' => (q_RV) O ∧ q_ok Γ h' ∧ n' = n)
  refine q_aload_n dX1_hearToEx_0 rfl ?_
  obtain ⟨pu325, qu325, ru325, su325, gu325, au325, bu325, cu325, du325, eu325, fu325⟩ := id b0
  refine t_getr 1 kX1 (by decide) wPX1_11 dX1_hearToEx_1 hok gu325 rfl ?_
  refine q_iload_n dX1_hearToEx_4 rfl ?_
  refine t_aald "GroupFilters$Filter" dX1_hearToEx_5 hok au325 rfl (by rw [bu325]; exact vp_in_nI (by omega) (by omega)) (fun p326 hp326 => ?_)
  have kp326 := cu325 _ _ hp326
  refine q_astore dX1_hearToEx_6 (by decide) ?_
  refine q_aload dX1_hearToEx_8 rfl ?_
  refine q_iload_n dX1_hearToEx_10 rfl ?_
  obtain ⟨tu327, gu327, au327⟩ := id kp326
  refine t_callV (M' := mX0_doubted) [.int (a3)] [] kX0 dX1_hearToEx_11 wPX1_110v wIX0_doubted wSX0_doubted iX0_doubted oX0_doubted rfl hok gu327 (sX0_doubted Sc Γ n kp326 (a3)) (Nat.le_of_ble_eq_true rfl) (Nat.le_of_ble_eq_true rfl) (Nat.le_of_ble_eq_true rfl) (Nat.le_of_ble_eq_true rfl) (Nat.le_of_ble_eq_true rfl) rfl (fun v328 h qv328 hok => ?_) (fun e329 h qe329 hok => absurd qe329 (by intro q; obtain ⟨_, q⟩ := q; cases q))
  obtain ⟨x330, qx330⟩ := qv328
  obtain rfl := Sum.inl.inj qx330
  refine t_istore [.ref a0, .ref a1, .int (nI a2), .int (a3), .ref p326.2, .int (x330)] (Or.inr ⟨rfl, dX1_hearToEx_14⟩) (by decide) rfl ?_
  refine q_aload dX1_hearToEx_16 rfl ?_
  refine q_iload_n dX1_hearToEx_18 rfl ?_
  refine q_aload dX1_hearToEx_19 rfl ?_
  refine t_geti 4 kX0 (by decide) wPX1_114 dX1_hearToEx_21 hok gu327 rfl (fun x331 => ?_)
  refine q_aload_n dX1_hearToEx_24 rfl ?_
  refine t_callV (M' := mX1_grace) [] [.int (x331), .int (a3), .ref p326.2] kX1 dX1_hearToEx_25 wPX1_76v wIX1_grace wSX1_grace iX1_grace oX1_grace rfl hok gu325 (sX1_grace Sc Γ n b0) (Nat.le_of_ble_eq_true rfl) (Nat.le_of_ble_eq_true rfl) (Nat.le_of_ble_eq_true rfl) (Nat.le_of_ble_eq_true rfl) (Nat.le_of_ble_eq_true rfl) rfl (fun v332 h qv332 hok => ?_) (fun e333 h qe333 hok => absurd qe333 (by intro q; obtain ⟨_, q⟩ := q; cases q))
  obtain ⟨x334, qx334⟩ := qv332
  obtain rfl := Sum.inl.inj qx334
  refine t_callV (M' := mX0_exclude) [.int (a3), .int (x331), .int (x334)] [] kX0 dX1_hearToEx_28 wPX1_79v wIX0_exclude wSX0_exclude iX0_exclude oX0_exclude rfl hok gu327 (sX0_exclude Sc Γ n kp326 (a3) (x331) (x334)) (Nat.le_of_ble_eq_true rfl) (Nat.le_of_ble_eq_true rfl) (Nat.le_of_ble_eq_true rfl) (Nat.le_of_ble_eq_true rfl) (Nat.le_of_ble_eq_true rfl) rfl (fun v335 h qv335 hok => ?_) (fun e336 h qe336 hok => absurd qe336 (by intro q; cases q))
  obtain rfl := Sum.inl.inj qv335
  refine q_aload_n dX1_hearToEx_31 rfl ?_
  refine q_aload_n dX1_hearToEx_32 rfl ?_
  refine q_iload_n dX1_hearToEx_33 rfl ?_
  refine q_iload dX1_hearToEx_34 rfl ?_
  refine t_callV (M' := mX1_askSources) [.ref a1, .int (nI a2), .int (x330)] [] kX1 dX1_hearToEx_36 wPX1_99v wIX1_askSources wSX1_askSources iX1_askSources oX1_askSources rfl hok gu325 (sX1_askSources Sc Γ n b0 b1 (a2) (by omega) (x330)) (Nat.le_of_ble_eq_true rfl) (Nat.le_of_ble_eq_true rfl) (Nat.le_of_ble_eq_true rfl) (Nat.le_of_ble_eq_true rfl) (Nat.le_of_ble_eq_true rfl) rfl (fun v337 h qv337 hok => ?_) (fun e338 h qe338 hok => absurd qe338 (by intro q; cases q))
  obtain rfl := Sum.inl.inj qv337
  exact q_vret dX1_hearToEx_39 rfl ⟨rfl, hok, rfl⟩
set_option maxRecDepth 20000 in
set_option maxHeartbeats 4000000 in
theorem sX1_hearBlock (Sc : q_S) (Γ : Nat → q_K) (n : Nat) {a0 : Nat} (b0 : kLk Γ a0) {a1 : Nat} (b1 : kLg Γ a1) (a2 : Nat) (b2 : a2 < 8) (a3 : Int32) : q_safe Sc Γ mX1_hearBlock [.ref a0, .ref a1, .int (nI a2), .int (a3)] n 0 0 (q_RV) := by
  intro h hok
  show q_A Sc mX1_hearBlock 0 [.ref a0, .ref a1, .int (nI a2), .int (a3), .retAddr 0, .retAddr 0] [] h n 0 0 (fun O h' n' => (q_RV) O ∧ q_ok Γ h' ∧ n' = n)
  refine q_aload_n dX1_hearBlock_0 rfl ?_
  obtain ⟨pu339, qu339, ru339, su339, gu339, au339, bu339, cu339, du339, eu339, fu339⟩ := id b0
  refine t_getr 1 kX1 (by decide) wPX1_11 dX1_hearBlock_1 hok gu339 rfl ?_
  refine q_iload_n dX1_hearBlock_4 rfl ?_
  refine t_aald "GroupFilters$Filter" dX1_hearBlock_5 hok au339 rfl (by rw [bu339]; exact vp_in_nI (by omega) (by omega)) (fun p340 hp340 => ?_)
  have kp340 := cu339 _ _ hp340
  refine q_astore dX1_hearBlock_6 (by decide) ?_
  refine q_aload dX1_hearBlock_8 rfl ?_
  refine q_iload_n dX1_hearBlock_10 rfl ?_
  obtain ⟨tu341, gu341, au341⟩ := id kp340
  refine t_callV (M' := mX0_doubted) [.int (a3)] [] kX0 dX1_hearBlock_11 wPX1_110v wIX0_doubted wSX0_doubted iX0_doubted oX0_doubted rfl hok gu341 (sX0_doubted Sc Γ n kp340 (a3)) (Nat.le_of_ble_eq_true rfl) (Nat.le_of_ble_eq_true rfl) (Nat.le_of_ble_eq_true rfl) (Nat.le_of_ble_eq_true rfl) (Nat.le_of_ble_eq_true rfl) rfl (fun v342 h qv342 hok => ?_) (fun e343 h qe343 hok => absurd qe343 (by intro q; obtain ⟨_, q⟩ := q; cases q))
  obtain ⟨x344, qx344⟩ := qv342
  obtain rfl := Sum.inl.inj qx344
  refine t_istore [.ref a0, .ref a1, .int (nI a2), .int (a3), .ref p340.2, .int (x344)] (Or.inr ⟨rfl, dX1_hearBlock_14⟩) (by decide) rfl ?_
  refine q_aload dX1_hearBlock_16 rfl ?_
  refine q_iload_n dX1_hearBlock_18 rfl ?_
  refine t_callV (M' := mX0_block) [.int (a3)] [] kX0 dX1_hearBlock_19 wPX1_117v wIX0_block wSX0_block iX0_block oX0_block rfl hok gu341 (sX0_block Sc Γ n kp340 (a3)) (Nat.le_of_ble_eq_true rfl) (Nat.le_of_ble_eq_true rfl) (Nat.le_of_ble_eq_true rfl) (Nat.le_of_ble_eq_true rfl) (Nat.le_of_ble_eq_true rfl) rfl (fun v345 h qv345 hok => ?_) (fun e346 h qe346 hok => absurd qe346 (by intro q; cases q))
  obtain rfl := Sum.inl.inj qv345
  refine q_aload_n dX1_hearBlock_22 rfl ?_
  refine q_aload_n dX1_hearBlock_23 rfl ?_
  refine q_iload_n dX1_hearBlock_24 rfl ?_
  refine q_iload dX1_hearBlock_25 rfl ?_
  refine t_callV (M' := mX1_askSources) [.ref a1, .int (nI a2), .int (x344)] [] kX1 dX1_hearBlock_27 wPX1_99v wIX1_askSources wSX1_askSources iX1_askSources oX1_askSources rfl hok gu339 (sX1_askSources Sc Γ n b0 b1 (a2) (by omega) (x344)) (Nat.le_of_ble_eq_true rfl) (Nat.le_of_ble_eq_true rfl) (Nat.le_of_ble_eq_true rfl) (Nat.le_of_ble_eq_true rfl) (Nat.le_of_ble_eq_true rfl) rfl (fun v347 h qv347 hok => ?_) (fun e348 h qe348 hok => absurd qe348 (by intro q; cases q))
  obtain rfl := Sum.inl.inj qv347
  exact q_vret dX1_hearBlock_30 rfl ⟨rfl, hok, rfl⟩
set_option maxRecDepth 20000 in
set_option maxHeartbeats 4000000 in
theorem sX1_hearReport (Sc : q_S) (Γ : Nat → q_K) (n : Nat) {a0 : Nat} (b0 : kLk Γ a0) {a1 : Nat} (b1 : kLg Γ a1) (a2 : Nat) (b2 : a2 < 8) (a3 : Int32) (a4 : Int32) : q_safe Sc Γ mX1_hearReport [.ref a0, .ref a1, .int (nI a2), .int (a3), .int (a4)] n 0 0 (q_RV) := by
  intro h hok
  show q_A Sc mX1_hearReport 0 [.ref a0, .ref a1, .int (nI a2), .int (a3), .int (a4)] [] h n 0 0 (fun O h' n' => (q_RV) O ∧ q_ok Γ h' ∧ n' = n)
  refine q_iload_n dX1_hearReport_0 rfl ?_
  rcases q_sw a3 1 5 (by decide) with hw349 | ⟨jw349, hw349, ew349⟩
  ·
    refine q_tableOut (tgt := 91) dX1_hearReport_1 (by simpa using hw349) (by decide) ?_
    refine q_aload_n dX1_hearReport_91 rfl ?_
    obtain ⟨pu350, qu350, ru350, su350, gu350, au350, bu350, cu350, du350, eu350, fu350⟩ := id b0
    refine t_getr 1 kX1 (by decide) wPX1_11 dX1_hearReport_92 hok gu350 rfl ?_
    refine q_iload_n dX1_hearReport_95 rfl ?_
    refine t_aald "GroupFilters$Filter" dX1_hearReport_96 hok au350 rfl (by rw [bu350]; exact vp_in_nI (by omega) (by omega)) (fun p351 hp351 => ?_)
    have kp351 := cu350 _ _ hp351
    refine q_iload dX1_hearReport_97 rfl ?_
    refine q_aload_n dX1_hearReport_99 rfl ?_
    refine t_callV (M' := mX1_grace) [] [.int (a4), .ref p351.2] kX1 dX1_hearReport_100 wPX1_76v wIX1_grace wSX1_grace iX1_grace oX1_grace rfl hok gu350 (sX1_grace Sc Γ n b0) (Nat.le_of_ble_eq_true rfl) (Nat.le_of_ble_eq_true rfl) (Nat.le_of_ble_eq_true rfl) (Nat.le_of_ble_eq_true rfl) (Nat.le_of_ble_eq_true rfl) rfl (fun v352 h qv352 hok => ?_) (fun e353 h qe353 hok => absurd qe353 (by intro q; obtain ⟨_, q⟩ := q; cases q))
    obtain ⟨x354, qx354⟩ := qv352
    obtain rfl := Sum.inl.inj qx354
    obtain ⟨tu355, gu355, au355⟩ := id kp351
    refine t_callV (M' := mX0_allow) [.int (a4), .int (x354)] [] kX0 dX1_hearReport_103 wPX1_92v wIX0_allow wSX0_allow iX0_allow oX0_allow rfl hok gu355 (sX0_allow Sc Γ n kp351 (a4) (x354)) (Nat.le_of_ble_eq_true rfl) (Nat.le_of_ble_eq_true rfl) (Nat.le_of_ble_eq_true rfl) (Nat.le_of_ble_eq_true rfl) (Nat.le_of_ble_eq_true rfl) rfl (fun v356 h qv356 hok => ?_) (fun e357 h qe357 hok => absurd qe357 (by intro q; cases q))
    obtain rfl := Sum.inl.inj qv356
    exact q_vret dX1_hearReport_106 rfl ⟨rfl, hok, rfl⟩
  ·
    rcases (show jw349 = 0 ∨ jw349 = 1 ∨ jw349 = 2 ∨ jw349 = 3 ∨ jw349 = 4 by omega) with rfl | rfl | rfl | rfl | rfl
    ·
      refine q_tableIn (off := 35) (tgt := 36) dX1_hearReport_1 (by rw [ew349]; decide) (by rw [ew349]; decide) (by rw [ew349]; rfl) (by decide) ?_
      refine q_aload_n dX1_hearReport_36 rfl ?_
      obtain ⟨pu358, qu358, ru358, su358, gu358, au358, bu358, cu358, du358, eu358, fu358⟩ := id b0
      refine t_getr 1 kX1 (by decide) wPX1_11 dX1_hearReport_37 hok gu358 rfl ?_
      refine q_iload_n dX1_hearReport_40 rfl ?_
      refine t_aald "GroupFilters$Filter" dX1_hearReport_41 hok au358 rfl (by rw [bu358]; exact vp_in_nI (by omega) (by omega)) (fun p359 hp359 => ?_)
      have kp359 := cu358 _ _ hp359
      refine q_iload dX1_hearReport_42 rfl ?_
      refine q_aload_n dX1_hearReport_44 rfl ?_
      refine t_callV (M' := mX1_grace) [] [.int (a4), .ref p359.2] kX1 dX1_hearReport_45 wPX1_76v wIX1_grace wSX1_grace iX1_grace oX1_grace rfl hok gu358 (sX1_grace Sc Γ n b0) (Nat.le_of_ble_eq_true rfl) (Nat.le_of_ble_eq_true rfl) (Nat.le_of_ble_eq_true rfl) (Nat.le_of_ble_eq_true rfl) (Nat.le_of_ble_eq_true rfl) rfl (fun v360 h qv360 hok => ?_) (fun e361 h qe361 hok => absurd qe361 (by intro q; obtain ⟨_, q⟩ := q; cases q))
      obtain ⟨x362, qx362⟩ := qv360
      obtain rfl := Sum.inl.inj qx362
      refine q_aload_n dX1_hearReport_48 rfl ?_
      refine t_callV (M' := mX1_grace) [] [.int (x362), .int (a4), .ref p359.2] kX1 dX1_hearReport_49 wPX1_76v wIX1_grace wSX1_grace iX1_grace oX1_grace rfl hok gu358 (sX1_grace Sc Γ n b0) (Nat.le_of_ble_eq_true rfl) (Nat.le_of_ble_eq_true rfl) (Nat.le_of_ble_eq_true rfl) (Nat.le_of_ble_eq_true rfl) (Nat.le_of_ble_eq_true rfl) rfl (fun v363 h qv363 hok => ?_) (fun e364 h qe364 hok => absurd qe364 (by intro q; obtain ⟨_, q⟩ := q; cases q))
      obtain ⟨x365, qx365⟩ := qv363
      obtain rfl := Sum.inl.inj qx365
      obtain ⟨tu366, gu366, au366⟩ := id kp359
      refine t_callV (M' := mX0_exclude) [.int (a4), .int (x362), .int (x365)] [] kX0 dX1_hearReport_52 wPX1_79v wIX0_exclude wSX0_exclude iX0_exclude oX0_exclude rfl hok gu366 (sX0_exclude Sc Γ n kp359 (a4) (x362) (x365)) (Nat.le_of_ble_eq_true rfl) (Nat.le_of_ble_eq_true rfl) (Nat.le_of_ble_eq_true rfl) (Nat.le_of_ble_eq_true rfl) (Nat.le_of_ble_eq_true rfl) rfl (fun v367 h qv367 hok => ?_) (fun e368 h qe368 hok => absurd qe368 (by intro q; cases q))
      obtain rfl := Sum.inl.inj qv367
      refine q_goto (tgt := 106) dX1_hearReport_55 (by decide) ?_
      exact q_vret dX1_hearReport_106 rfl ⟨rfl, hok, rfl⟩
    ·
      refine q_tableIn (off := 57) (tgt := 58) dX1_hearReport_1 (by rw [ew349]; decide) (by rw [ew349]; decide) (by rw [ew349]; rfl) (by decide) ?_
      refine q_aload_n dX1_hearReport_58 rfl ?_
      refine q_aload_n dX1_hearReport_59 rfl ?_
      refine q_iload_n dX1_hearReport_60 rfl ?_
      refine q_iload dX1_hearReport_61 rfl ?_
      obtain ⟨pu369, qu369, ru369, su369, gu369, au369, bu369, cu369, du369, eu369, fu369⟩ := id b0
      refine t_callV (M' := mX1_hearToIn) [.ref a1, .int (nI a2), .int (a4)] [] kX1 dX1_hearReport_63 wPX1_82v wIX1_hearToIn wSX1_hearToIn iX1_hearToIn oX1_hearToIn rfl hok gu369 (sX1_hearToIn Sc Γ n b0 b1 (a2) (by omega) (a4)) (Nat.le_of_ble_eq_true rfl) (Nat.le_of_ble_eq_true rfl) (Nat.le_of_ble_eq_true rfl) (Nat.le_of_ble_eq_true rfl) (Nat.le_of_ble_eq_true rfl) rfl (fun v370 h qv370 hok => ?_) (fun e371 h qe371 hok => absurd qe371 (by intro q; cases q))
      obtain rfl := Sum.inl.inj qv370
      refine q_goto (tgt := 106) dX1_hearReport_66 (by decide) ?_
      exact q_vret dX1_hearReport_106 rfl ⟨rfl, hok, rfl⟩
    ·
      refine q_tableIn (off := 68) (tgt := 69) dX1_hearReport_1 (by rw [ew349]; decide) (by rw [ew349]; decide) (by rw [ew349]; rfl) (by decide) ?_
      refine q_aload_n dX1_hearReport_69 rfl ?_
      refine q_aload_n dX1_hearReport_70 rfl ?_
      refine q_iload_n dX1_hearReport_71 rfl ?_
      refine q_iload dX1_hearReport_72 rfl ?_
      obtain ⟨pu372, qu372, ru372, su372, gu372, au372, bu372, cu372, du372, eu372, fu372⟩ := id b0
      refine t_callV (M' := mX1_hearToEx) [.ref a1, .int (nI a2), .int (a4)] [] kX1 dX1_hearReport_74 wPX1_86v wIX1_hearToEx wSX1_hearToEx iX1_hearToEx oX1_hearToEx rfl hok gu372 (sX1_hearToEx Sc Γ n b0 b1 (a2) (by omega) (a4)) (Nat.le_of_ble_eq_true rfl) (Nat.le_of_ble_eq_true rfl) (Nat.le_of_ble_eq_true rfl) (Nat.le_of_ble_eq_true rfl) (Nat.le_of_ble_eq_true rfl) rfl (fun v373 h qv373 hok => ?_) (fun e374 h qe374 hok => absurd qe374 (by intro q; cases q))
      obtain rfl := Sum.inl.inj qv373
      refine q_goto (tgt := 106) dX1_hearReport_77 (by decide) ?_
      exact q_vret dX1_hearReport_106 rfl ⟨rfl, hok, rfl⟩
    ·
      refine q_tableIn (off := 90) (tgt := 91) dX1_hearReport_1 (by rw [ew349]; decide) (by rw [ew349]; decide) (by rw [ew349]; rfl) (by decide) ?_
      refine q_aload_n dX1_hearReport_91 rfl ?_
      obtain ⟨pu375, qu375, ru375, su375, gu375, au375, bu375, cu375, du375, eu375, fu375⟩ := id b0
      refine t_getr 1 kX1 (by decide) wPX1_11 dX1_hearReport_92 hok gu375 rfl ?_
      refine q_iload_n dX1_hearReport_95 rfl ?_
      refine t_aald "GroupFilters$Filter" dX1_hearReport_96 hok au375 rfl (by rw [bu375]; exact vp_in_nI (by omega) (by omega)) (fun p376 hp376 => ?_)
      have kp376 := cu375 _ _ hp376
      refine q_iload dX1_hearReport_97 rfl ?_
      refine q_aload_n dX1_hearReport_99 rfl ?_
      refine t_callV (M' := mX1_grace) [] [.int (a4), .ref p376.2] kX1 dX1_hearReport_100 wPX1_76v wIX1_grace wSX1_grace iX1_grace oX1_grace rfl hok gu375 (sX1_grace Sc Γ n b0) (Nat.le_of_ble_eq_true rfl) (Nat.le_of_ble_eq_true rfl) (Nat.le_of_ble_eq_true rfl) (Nat.le_of_ble_eq_true rfl) (Nat.le_of_ble_eq_true rfl) rfl (fun v377 h qv377 hok => ?_) (fun e378 h qe378 hok => absurd qe378 (by intro q; obtain ⟨_, q⟩ := q; cases q))
      obtain ⟨x379, qx379⟩ := qv377
      obtain rfl := Sum.inl.inj qx379
      obtain ⟨tu380, gu380, au380⟩ := id kp376
      refine t_callV (M' := mX0_allow) [.int (a4), .int (x379)] [] kX0 dX1_hearReport_103 wPX1_92v wIX0_allow wSX0_allow iX0_allow oX0_allow rfl hok gu380 (sX0_allow Sc Γ n kp376 (a4) (x379)) (Nat.le_of_ble_eq_true rfl) (Nat.le_of_ble_eq_true rfl) (Nat.le_of_ble_eq_true rfl) (Nat.le_of_ble_eq_true rfl) (Nat.le_of_ble_eq_true rfl) rfl (fun v381 h qv381 hok => ?_) (fun e382 h qe382 hok => absurd qe382 (by intro q; cases q))
      obtain rfl := Sum.inl.inj qv381
      exact q_vret dX1_hearReport_106 rfl ⟨rfl, hok, rfl⟩
    ·
      refine q_tableIn (off := 79) (tgt := 80) dX1_hearReport_1 (by rw [ew349]; decide) (by rw [ew349]; decide) (by rw [ew349]; rfl) (by decide) ?_
      refine q_aload_n dX1_hearReport_80 rfl ?_
      refine q_aload_n dX1_hearReport_81 rfl ?_
      refine q_iload_n dX1_hearReport_82 rfl ?_
      refine q_iload dX1_hearReport_83 rfl ?_
      obtain ⟨pu383, qu383, ru383, su383, gu383, au383, bu383, cu383, du383, eu383, fu383⟩ := id b0
      refine t_callV (M' := mX1_hearBlock) [.ref a1, .int (nI a2), .int (a4)] [] kX1 dX1_hearReport_85 wPX1_89v wIX1_hearBlock wSX1_hearBlock iX1_hearBlock oX1_hearBlock rfl hok gu383 (sX1_hearBlock Sc Γ n b0 b1 (a2) (by omega) (a4)) (Nat.le_of_ble_eq_true rfl) (Nat.le_of_ble_eq_true rfl) (Nat.le_of_ble_eq_true rfl) (Nat.le_of_ble_eq_true rfl) (Nat.le_of_ble_eq_true rfl) rfl (fun v384 h qv384 hok => ?_) (fun e385 h qe385 hok => absurd qe385 (by intro q; cases q))
      obtain rfl := Sum.inl.inj qv384
      refine q_goto (tgt := 106) dX1_hearReport_88 (by decide) ?_
      exact q_vret dX1_hearReport_106 rfl ⟨rfl, hok, rfl⟩
set_option maxRecDepth 20000 in
set_option maxHeartbeats 4000000 in
theorem sX1_hearQuery (Sc : q_S) (Γ : Nat → q_K) (n : Nat) {a0 : Nat} (b0 : kLk Γ a0) (a1 : Nat) (b1 : a1 < 8) (a2 : Int32) : q_safe Sc Γ mX1_hearQuery [.ref a0, .int (nI a1), .int (a2)] n 0 0 (q_RV) := by
  intro h hok
  show q_A Sc mX1_hearQuery 0 [.ref a0, .int (nI a1), .int (a2)] [] h n 0 0 (fun O h' n' => (q_RV) O ∧ q_ok Γ h' ∧ n' = n)
  refine q_iload_n dX1_hearQuery_0 rfl ?_
  refine q_if_ne (tgt := 20) dX1_hearQuery_1 (by decide) (fun c386 => ?_) (fun c386 => ?_)
  ·
    refine q_aload_n dX1_hearQuery_20 rfl ?_
    obtain ⟨pu387, qu387, ru387, su387, gu387, au387, bu387, cu387, du387, eu387, fu387⟩ := id b0
    refine t_getr 1 kX1 (by decide) wPX1_11 dX1_hearQuery_21 hok gu387 rfl ?_
    refine q_iload_n dX1_hearQuery_24 rfl ?_
    refine t_aald "GroupFilters$Filter" dX1_hearQuery_25 hok au387 rfl (by rw [bu387]; exact vp_in_nI (by omega) (by omega)) (fun p388 hp388 => ?_)
    have kp388 := cu387 _ _ hp388
    refine q_iload_n dX1_hearQuery_26 rfl ?_
    refine q_aload_n dX1_hearQuery_27 rfl ?_
    refine t_callV (M' := mX1_last) [] [.int (a2), .ref p388.2] kX1 dX1_hearQuery_28 wPX1_120v wIX1_last wSX1_last iX1_last oX1_last rfl hok gu387 (sX1_last Sc Γ n b0) (Nat.le_of_ble_eq_true rfl) (Nat.le_of_ble_eq_true rfl) (Nat.le_of_ble_eq_true rfl) (Nat.le_of_ble_eq_true rfl) (Nat.le_of_ble_eq_true rfl) rfl (fun v389 h qv389 hok => ?_) (fun e390 h qe390 hok => absurd qe390 (by intro q; obtain ⟨_, q⟩ := q; cases q))
    obtain ⟨x391, qx391⟩ := qv389
    obtain rfl := Sum.inl.inj qx391
    obtain ⟨tu392, gu392, au392⟩ := id kp388
    refine t_callV (M' := mX0_lowerTimers) [.int (a2), .int (x391)] [] kX0 dX1_hearQuery_31 wPX1_123v wIX0_lowerTimers wSX0_lowerTimers iX0_lowerTimers oX0_lowerTimers rfl hok gu392 (sX0_lowerTimers Sc Γ n kp388 (a2) (x391)) (Nat.le_of_ble_eq_true rfl) (Nat.le_of_ble_eq_true rfl) (Nat.le_of_ble_eq_true rfl) (Nat.le_of_ble_eq_true rfl) (Nat.le_of_ble_eq_true rfl) rfl (fun v393 h qv393 hok => ?_) (fun e394 h qe394 hok => absurd qe394 (by intro q; cases q))
    obtain rfl := Sum.inl.inj qv393
    exact q_vret dX1_hearQuery_34 rfl ⟨rfl, hok, rfl⟩
  ·
    refine q_aload_n dX1_hearQuery_4 rfl ?_
    obtain ⟨pu395, qu395, ru395, su395, gu395, au395, bu395, cu395, du395, eu395, fu395⟩ := id b0
    refine t_getr 1 kX1 (by decide) wPX1_11 dX1_hearQuery_5 hok gu395 rfl ?_
    refine q_iload_n dX1_hearQuery_8 rfl ?_
    refine t_aald "GroupFilters$Filter" dX1_hearQuery_9 hok au395 rfl (by rw [bu395]; exact vp_in_nI (by omega) (by omega)) (fun p396 hp396 => ?_)
    have kp396 := cu395 _ _ hp396
    refine q_aload_n dX1_hearQuery_10 rfl ?_
    refine t_callV (M' := mX1_last) [] [.ref p396.2] kX1 dX1_hearQuery_11 wPX1_120v wIX1_last wSX1_last iX1_last oX1_last rfl hok gu395 (sX1_last Sc Γ n b0) (Nat.le_of_ble_eq_true rfl) (Nat.le_of_ble_eq_true rfl) (Nat.le_of_ble_eq_true rfl) (Nat.le_of_ble_eq_true rfl) (Nat.le_of_ble_eq_true rfl) rfl (fun v397 h qv397 hok => ?_) (fun e398 h qe398 hok => absurd qe398 (by intro q; obtain ⟨_, q⟩ := q; cases q))
    obtain ⟨x399, qx399⟩ := qv397
    obtain rfl := Sum.inl.inj qx399
    obtain ⟨tu400, gu400, au400⟩ := id kp396
    refine t_callV (M' := mX0_lowerOwnTimer) [.int (x399)] [] kX0 dX1_hearQuery_14 wPX1_126v wIX0_lowerOwnTimer wSX0_lowerOwnTimer iX0_lowerOwnTimer oX0_lowerOwnTimer rfl hok gu400 (sX0_lowerOwnTimer Sc Γ n kp396 (x399)) (Nat.le_of_ble_eq_true rfl) (Nat.le_of_ble_eq_true rfl) (Nat.le_of_ble_eq_true rfl) (Nat.le_of_ble_eq_true rfl) (Nat.le_of_ble_eq_true rfl) rfl (fun v401 h qv401 hok => ?_) (fun e402 h qe402 hok => absurd qe402 (by intro q; cases q))
    obtain rfl := Sum.inl.inj qv401
    refine q_goto (tgt := 34) dX1_hearQuery_17 (by decide) ?_
    exact q_vret dX1_hearQuery_34 rfl ⟨rfl, hok, rfl⟩
set_option maxRecDepth 20000 in
set_option maxHeartbeats 4000000 in
theorem sX1_changeWish (Sc : q_S) (Γ : Nat → q_K) (n : Nat) {a0 : Nat} (b0 : kLk Γ a0) {a1 : Nat} (b1 : kLg Γ a1) (a2 : Nat) (b2 : a2 < 6) (a3 : Nat) (b3 : a3 < 8) (a4 : Int32) (b4 : q_bl a4) (a5 : Int32) : q_safe Sc Γ mX1_changeWish [.ref a0, .ref a1, .int (nI a2), .int (nI a3), .int (a4), .int (a5)] n 0 0 (q_RV) := by
  intro h hok
  show q_A Sc mX1_changeWish 0 [.ref a0, .ref a1, .int (nI a2), .int (nI a3), .int (a4), .int (a5), .retAddr 0, .retAddr 0, .retAddr 0, .retAddr 0, .retAddr 0, .retAddr 0, .retAddr 0] [] h n 0 0 (fun O h' n' => (q_RV) O ∧ q_ok Γ h' ∧ n' = n)
  refine q_aload_n dX1_changeWish_0 rfl ?_
  obtain ⟨pu403, qu403, ru403, su403, gu403, au403, bu403, cu403, du403, eu403, fu403⟩ := id b0
  refine t_getr 2 kX1 (by decide) wPX1_19 dX1_changeWish_1 hok gu403 rfl ?_
  refine q_iload_n dX1_changeWish_4 rfl ?_
  refine t_aald "GroupFilters$Member" dX1_changeWish_5 hok du403 rfl (by rw [eu403]; exact vp_in_nI (by omega) (by omega)) (fun p404 hp404 => ?_)
  have kp404 := fu403 _ _ hp404
  refine q_astore dX1_changeWish_6 (by decide) ?_
  refine q_aload dX1_changeWish_8 rfl ?_
  obtain ⟨tu405, bu405, gu405, au405, cu405⟩ := id kp404
  refine t_getr 0 kX2 (by decide) wPX1_129 dX1_changeWish_10 hok gu405 rfl ?_
  refine q_iload_n dX1_changeWish_13 rfl ?_
  refine t_iald dX1_changeWish_14 hok au405 (by exact vp_in_nI (by omega) (by omega)) (fun x406 => ?_)
  refine t_istore [.ref a0, .ref a1, .int (nI a2), .int (nI a3), .int (a4), .int (a5), .ref p404.2, .int (x406), .retAddr 0, .retAddr 0, .retAddr 0, .retAddr 0, .retAddr 0] (Or.inr ⟨rfl, dX1_changeWish_15⟩) (by decide) rfl ?_
  refine q_aload dX1_changeWish_17 rfl ?_
  refine t_getr 1 kX2 (by decide) wPX1_133 dX1_changeWish_19 hok gu405 rfl ?_
  refine q_iload_n dX1_changeWish_22 rfl ?_
  refine t_zald dX1_changeWish_23 hok cu405 (by exact vp_in_nI (by omega) (by omega)) (fun x407 => ?_)
  refine t_istore [.ref a0, .ref a1, .int (nI a2), .int (nI a3), .int (a4), .int (a5), .ref p404.2, .int (x406), .int (x407), .retAddr 0, .retAddr 0, .retAddr 0, .retAddr 0] (Or.inr ⟨rfl, dX1_changeWish_24⟩) (by decide) rfl ?_
  refine q_aload dX1_changeWish_26 rfl ?_
  refine t_getr 0 kX2 (by decide) wPX1_129 dX1_changeWish_28 hok gu405 rfl ?_
  refine q_iload_n dX1_changeWish_31 rfl ?_
  refine q_iload dX1_changeWish_32 rfl ?_
  refine t_iast dX1_changeWish_34 hok au405 (by exact vp_in_nI (by omega) (by omega)) (fun h hok => ?_)
  refine q_aload dX1_changeWish_35 rfl ?_
  refine t_getr 1 kX2 (by decide) wPX1_133 dX1_changeWish_37 hok gu405 rfl ?_
  refine q_iload_n dX1_changeWish_40 rfl ?_
  refine q_iload dX1_changeWish_41 rfl ?_
  refine t_zast dX1_changeWish_43 hok cu405 (by exact vp_in_nI (by omega) (by omega)) (q_bl.vp b4) (fun h hok => ?_)
  refine q_iload dX1_changeWish_44 rfl ?_
  refine q_iload dX1_changeWish_46 rfl ?_
  refine q_icmp_eq (tgt := 70) dX1_changeWish_48 (by decide) (fun c408 => ?_) (fun c408 => ?_)
  ·
    refine q_iload dX1_changeWish_70 rfl ?_
    refine q_iload dX1_changeWish_72 rfl ?_
    refine q_iconst (v := -1) dX1_changeWish_74 rfl ?_
    refine q_ixor dX1_changeWish_75 ?_
    generalize (x406) ^^^ (-1) = z409
    refine q_iand dX1_changeWish_76 ?_
    generalize (a5) &&& (z409) = z410
    refine t_istore [.ref a0, .ref a1, .int (nI a2), .int (nI a3), .int (a4), .int (a5), .ref p404.2, .int (x406), .int (x407), .int (z410), .retAddr 0, .retAddr 0, .retAddr 0] (Or.inr ⟨rfl, dX1_changeWish_77⟩) (by decide) rfl ?_
    refine q_iload dX1_changeWish_79 rfl ?_
    refine q_iload dX1_changeWish_81 rfl ?_
    refine q_iconst (v := -1) dX1_changeWish_83 rfl ?_
    refine q_ixor dX1_changeWish_84 ?_
    generalize (a5) ^^^ (-1) = z411
    refine q_iand dX1_changeWish_85 ?_
    generalize (x406) &&& (z411) = z412
    refine t_istore [.ref a0, .ref a1, .int (nI a2), .int (nI a3), .int (a4), .int (a5), .ref p404.2, .int (x406), .int (x407), .int (z410), .int (z412), .retAddr 0, .retAddr 0] (Or.inr ⟨rfl, dX1_changeWish_86⟩) (by decide) rfl ?_
    refine q_iload dX1_changeWish_88 rfl ?_
    refine q_if_eq (tgt := 98) dX1_changeWish_90 (by decide) (fun c413 => ?_) (fun c413 => ?_)
    ·
      refine q_iload dX1_changeWish_98 rfl ?_
      refine t_istore [.ref a0, .ref a1, .int (nI a2), .int (nI a3), .int (a4), .int (a5), .ref p404.2, .int (x406), .int (x407), .int (z410), .int (z412), .int (z410), .retAddr 0] (Or.inr ⟨rfl, dX1_changeWish_100⟩) (by decide) rfl ?_
      refine q_iload dX1_changeWish_102 rfl ?_
      refine q_if_eq (tgt := 112) dX1_changeWish_104 (by decide) (fun c414 => ?_) (fun c414 => ?_)
      rotate_left
      · exact absurd c413 c414
      refine q_iload dX1_changeWish_112 rfl ?_
      refine t_istore [.ref a0, .ref a1, .int (nI a2), .int (nI a3), .int (a4), .int (a5), .ref p404.2, .int (x406), .int (x407), .int (z410), .int (z412), .int (z410), .int (z412)] (Or.inr ⟨rfl, dX1_changeWish_114⟩) (by decide) rfl ?_
      refine q_iload dX1_changeWish_116 rfl ?_
      refine q_if_eq (tgt := 130) dX1_changeWish_118 (by decide) (fun c415 => ?_) (fun c415 => ?_)
      ·
        refine q_iload dX1_changeWish_130 rfl ?_
        refine q_if_eq (tgt := 144) dX1_changeWish_132 (by decide) (fun c416 => ?_) (fun c416 => ?_)
        ·
          exact q_vret dX1_changeWish_144 rfl ⟨rfl, hok, rfl⟩
        ·
          refine q_aload_n dX1_changeWish_135 rfl ?_
          refine q_aload_n dX1_changeWish_136 rfl ?_
          refine q_iload_n dX1_changeWish_137 rfl ?_
          refine q_iconst (v := nI 5) dX1_changeWish_138 rfl ?_
          refine q_iload dX1_changeWish_139 rfl ?_
          refine t_callV (M' := mX1_hearReport) [.ref a1, .int (nI a3), .int (nI 5), .int (z412)] [] kX1 dX1_changeWish_141 wPX1_136v wIX1_hearReport wSX1_hearReport iX1_hearReport oX1_hearReport rfl hok gu403 (sX1_hearReport Sc Γ n b0 b1 (a3) (by omega) (nI 5) (z412)) (Nat.le_of_ble_eq_true rfl) (Nat.le_of_ble_eq_true rfl) (Nat.le_of_ble_eq_true rfl) (Nat.le_of_ble_eq_true rfl) (Nat.le_of_ble_eq_true rfl) rfl (fun v417 h qv417 hok => ?_) (fun e418 h qe418 hok => absurd qe418 (by intro q; cases q))
          obtain rfl := Sum.inl.inj qv417
          exact q_vret dX1_changeWish_144 rfl ⟨rfl, hok, rfl⟩
      ·
        refine q_aload_n dX1_changeWish_121 rfl ?_
        refine q_aload_n dX1_changeWish_122 rfl ?_
        refine q_iload_n dX1_changeWish_123 rfl ?_
        refine q_iconst (v := nI 4) dX1_changeWish_124 rfl ?_
        refine q_iload dX1_changeWish_125 rfl ?_
        refine t_callV (M' := mX1_hearReport) [.ref a1, .int (nI a3), .int (nI 4), .int (z410)] [] kX1 dX1_changeWish_127 wPX1_136v wIX1_hearReport wSX1_hearReport iX1_hearReport oX1_hearReport rfl hok gu403 (sX1_hearReport Sc Γ n b0 b1 (a3) (by omega) (nI 4) (z410)) (Nat.le_of_ble_eq_true rfl) (Nat.le_of_ble_eq_true rfl) (Nat.le_of_ble_eq_true rfl) (Nat.le_of_ble_eq_true rfl) (Nat.le_of_ble_eq_true rfl) rfl (fun v419 h qv419 hok => ?_) (fun e420 h qe420 hok => absurd qe420 (by intro q; cases q))
        obtain rfl := Sum.inl.inj qv419
        refine q_iload dX1_changeWish_130 rfl ?_
        refine q_if_eq (tgt := 144) dX1_changeWish_132 (by decide) (fun c421 => ?_) (fun c421 => ?_)
        ·
          exact q_vret dX1_changeWish_144 rfl ⟨rfl, hok, rfl⟩
        ·
          refine q_aload_n dX1_changeWish_135 rfl ?_
          refine q_aload_n dX1_changeWish_136 rfl ?_
          refine q_iload_n dX1_changeWish_137 rfl ?_
          refine q_iconst (v := nI 5) dX1_changeWish_138 rfl ?_
          refine q_iload dX1_changeWish_139 rfl ?_
          refine t_callV (M' := mX1_hearReport) [.ref a1, .int (nI a3), .int (nI 5), .int (z412)] [] kX1 dX1_changeWish_141 wPX1_136v wIX1_hearReport wSX1_hearReport iX1_hearReport oX1_hearReport rfl hok gu403 (sX1_hearReport Sc Γ n b0 b1 (a3) (by omega) (nI 5) (z412)) (Nat.le_of_ble_eq_true rfl) (Nat.le_of_ble_eq_true rfl) (Nat.le_of_ble_eq_true rfl) (Nat.le_of_ble_eq_true rfl) (Nat.le_of_ble_eq_true rfl) rfl (fun v422 h qv422 hok => ?_) (fun e423 h qe423 hok => absurd qe423 (by intro q; cases q))
          obtain rfl := Sum.inl.inj qv422
          exact q_vret dX1_changeWish_144 rfl ⟨rfl, hok, rfl⟩
    ·
      refine q_iload dX1_changeWish_93 rfl ?_
      refine q_goto (tgt := 100) dX1_changeWish_95 (by decide) ?_
      refine t_istore [.ref a0, .ref a1, .int (nI a2), .int (nI a3), .int (a4), .int (a5), .ref p404.2, .int (x406), .int (x407), .int (z410), .int (z412), .int (z412), .retAddr 0] (Or.inr ⟨rfl, dX1_changeWish_100⟩) (by decide) rfl ?_
      refine q_iload dX1_changeWish_102 rfl ?_
      refine q_if_eq (tgt := 112) dX1_changeWish_104 (by decide) (fun c424 => ?_) (fun c424 => ?_)
      · exact absurd c424 c413
      refine q_iload dX1_changeWish_107 rfl ?_
      refine q_goto (tgt := 114) dX1_changeWish_109 (by decide) ?_
      refine t_istore [.ref a0, .ref a1, .int (nI a2), .int (nI a3), .int (a4), .int (a5), .ref p404.2, .int (x406), .int (x407), .int (z410), .int (z412), .int (z412), .int (z410)] (Or.inr ⟨rfl, dX1_changeWish_114⟩) (by decide) rfl ?_
      refine q_iload dX1_changeWish_116 rfl ?_
      refine q_if_eq (tgt := 130) dX1_changeWish_118 (by decide) (fun c425 => ?_) (fun c425 => ?_)
      ·
        refine q_iload dX1_changeWish_130 rfl ?_
        refine q_if_eq (tgt := 144) dX1_changeWish_132 (by decide) (fun c426 => ?_) (fun c426 => ?_)
        ·
          exact q_vret dX1_changeWish_144 rfl ⟨rfl, hok, rfl⟩
        ·
          refine q_aload_n dX1_changeWish_135 rfl ?_
          refine q_aload_n dX1_changeWish_136 rfl ?_
          refine q_iload_n dX1_changeWish_137 rfl ?_
          refine q_iconst (v := nI 5) dX1_changeWish_138 rfl ?_
          refine q_iload dX1_changeWish_139 rfl ?_
          refine t_callV (M' := mX1_hearReport) [.ref a1, .int (nI a3), .int (nI 5), .int (z410)] [] kX1 dX1_changeWish_141 wPX1_136v wIX1_hearReport wSX1_hearReport iX1_hearReport oX1_hearReport rfl hok gu403 (sX1_hearReport Sc Γ n b0 b1 (a3) (by omega) (nI 5) (z410)) (Nat.le_of_ble_eq_true rfl) (Nat.le_of_ble_eq_true rfl) (Nat.le_of_ble_eq_true rfl) (Nat.le_of_ble_eq_true rfl) (Nat.le_of_ble_eq_true rfl) rfl (fun v427 h qv427 hok => ?_) (fun e428 h qe428 hok => absurd qe428 (by intro q; cases q))
          obtain rfl := Sum.inl.inj qv427
          exact q_vret dX1_changeWish_144 rfl ⟨rfl, hok, rfl⟩
      ·
        refine q_aload_n dX1_changeWish_121 rfl ?_
        refine q_aload_n dX1_changeWish_122 rfl ?_
        refine q_iload_n dX1_changeWish_123 rfl ?_
        refine q_iconst (v := nI 4) dX1_changeWish_124 rfl ?_
        refine q_iload dX1_changeWish_125 rfl ?_
        refine t_callV (M' := mX1_hearReport) [.ref a1, .int (nI a3), .int (nI 4), .int (z412)] [] kX1 dX1_changeWish_127 wPX1_136v wIX1_hearReport wSX1_hearReport iX1_hearReport oX1_hearReport rfl hok gu403 (sX1_hearReport Sc Γ n b0 b1 (a3) (by omega) (nI 4) (z412)) (Nat.le_of_ble_eq_true rfl) (Nat.le_of_ble_eq_true rfl) (Nat.le_of_ble_eq_true rfl) (Nat.le_of_ble_eq_true rfl) (Nat.le_of_ble_eq_true rfl) rfl (fun v429 h qv429 hok => ?_) (fun e430 h qe430 hok => absurd qe430 (by intro q; cases q))
        obtain rfl := Sum.inl.inj qv429
        refine q_iload dX1_changeWish_130 rfl ?_
        refine q_if_eq (tgt := 144) dX1_changeWish_132 (by decide) (fun c431 => ?_) (fun c431 => ?_)
        ·
          exact q_vret dX1_changeWish_144 rfl ⟨rfl, hok, rfl⟩
        ·
          refine q_aload_n dX1_changeWish_135 rfl ?_
          refine q_aload_n dX1_changeWish_136 rfl ?_
          refine q_iload_n dX1_changeWish_137 rfl ?_
          refine q_iconst (v := nI 5) dX1_changeWish_138 rfl ?_
          refine q_iload dX1_changeWish_139 rfl ?_
          refine t_callV (M' := mX1_hearReport) [.ref a1, .int (nI a3), .int (nI 5), .int (z410)] [] kX1 dX1_changeWish_141 wPX1_136v wIX1_hearReport wSX1_hearReport iX1_hearReport oX1_hearReport rfl hok gu403 (sX1_hearReport Sc Γ n b0 b1 (a3) (by omega) (nI 5) (z410)) (Nat.le_of_ble_eq_true rfl) (Nat.le_of_ble_eq_true rfl) (Nat.le_of_ble_eq_true rfl) (Nat.le_of_ble_eq_true rfl) (Nat.le_of_ble_eq_true rfl) rfl (fun v432 h qv432 hok => ?_) (fun e433 h qe433 hok => absurd qe433 (by intro q; cases q))
          obtain rfl := Sum.inl.inj qv432
          exact q_vret dX1_changeWish_144 rfl ⟨rfl, hok, rfl⟩
  ·
    refine q_aload_n dX1_changeWish_51 rfl ?_
    refine q_aload_n dX1_changeWish_52 rfl ?_
    refine q_iload_n dX1_changeWish_53 rfl ?_
    refine q_iload dX1_changeWish_54 rfl ?_
    refine q_if_eq (tgt := 63) dX1_changeWish_56 (by decide) (fun c434 => ?_) (fun c434 => ?_)
    ·
      refine q_iconst (v := nI 2) dX1_changeWish_63 rfl ?_
      refine q_iload dX1_changeWish_64 rfl ?_
      refine t_callV (M' := mX1_hearReport) [.ref a1, .int (nI a3), .int (nI 2), .int (a5)] [] kX1 dX1_changeWish_66 wPX1_136v wIX1_hearReport wSX1_hearReport iX1_hearReport oX1_hearReport rfl hok gu403 (sX1_hearReport Sc Γ n b0 b1 (a3) (by omega) (nI 2) (a5)) (Nat.le_of_ble_eq_true rfl) (Nat.le_of_ble_eq_true rfl) (Nat.le_of_ble_eq_true rfl) (Nat.le_of_ble_eq_true rfl) (Nat.le_of_ble_eq_true rfl) rfl (fun v435 h qv435 hok => ?_) (fun e436 h qe436 hok => absurd qe436 (by intro q; cases q))
      obtain rfl := Sum.inl.inj qv435
      exact q_vret dX1_changeWish_69 rfl ⟨rfl, hok, rfl⟩
    ·
      refine q_iconst (v := nI 3) dX1_changeWish_59 rfl ?_
      refine q_goto (tgt := 64) dX1_changeWish_60 (by decide) ?_
      refine q_iload dX1_changeWish_64 rfl ?_
      refine t_callV (M' := mX1_hearReport) [.ref a1, .int (nI a3), .int (nI 3), .int (a5)] [] kX1 dX1_changeWish_66 wPX1_136v wIX1_hearReport wSX1_hearReport iX1_hearReport oX1_hearReport rfl hok gu403 (sX1_hearReport Sc Γ n b0 b1 (a3) (by omega) (nI 3) (a5)) (Nat.le_of_ble_eq_true rfl) (Nat.le_of_ble_eq_true rfl) (Nat.le_of_ble_eq_true rfl) (Nat.le_of_ble_eq_true rfl) (Nat.le_of_ble_eq_true rfl) rfl (fun v437 h qv437 hok => ?_) (fun e438 h qe438 hok => absurd qe438 (by intro q; cases q))
      obtain rfl := Sum.inl.inj qv437
      exact q_vret dX1_changeWish_69 rfl ⟨rfl, hok, rfl⟩
set_option maxRecDepth 20000 in
set_option maxHeartbeats 4000000 in
theorem sX1_letAnswer (Sc : q_S) (Γ : Nat → q_K) (n : Nat) {a0 : Nat} (b0 : kLk Γ a0) {a1 : Nat} (b1 : kLg Γ a1) (a2 : Nat) (b2 : a2 < 6) : q_safe Sc Γ mX1_letAnswer [.ref a0, .ref a1, .int (nI a2)] n 0 0 (q_RI) := by
  intro h hok
  show q_A Sc mX1_letAnswer 0 [.ref a0, .ref a1, .int (nI a2), .retAddr 0, .retAddr 0, .retAddr 0] [] h n 0 0 (fun O h' n' => (q_RI) O ∧ q_ok Γ h' ∧ n' = n)
  refine q_aload_n dX1_letAnswer_0 rfl ?_
  obtain ⟨pu439, qu439, ru439, su439, gu439, au439, bu439, cu439, du439, eu439, fu439⟩ := id b0
  refine t_getr 2 kX1 (by decide) wPX1_19 dX1_letAnswer_1 hok gu439 rfl ?_
  refine q_iload_n dX1_letAnswer_4 rfl ?_
  refine t_aald "GroupFilters$Member" dX1_letAnswer_5 hok du439 rfl (by rw [eu439]; exact vp_in_nI (by omega) (by omega)) (fun p440 hp440 => ?_)
  have kp440 := fu439 _ _ hp440
  refine q_astore_n dX1_letAnswer_6 (by decide) ?_
  refine q_iconst (v := nI 0) dX1_letAnswer_7 rfl ?_
  refine t_istore [.ref a0, .ref a1, .int (nI a2), .ref p440.2, .int (nI 0), .retAddr 0] (Or.inr ⟨rfl, dX1_letAnswer_8⟩) (by decide) rfl ?_
  refine q_iconst (v := nI 0) dX1_letAnswer_10 rfl ?_
  refine t_istore [.ref a0, .ref a1, .int (nI a2), .ref p440.2, .int (nI 0), .int (nI 0)] (Or.inr ⟨rfl, dX1_letAnswer_11⟩) (by decide) rfl ?_
  obtain ⟨pu441, qu441, ru441, su441, gu441, au441, bu441, cu441, du441⟩ := id b1
  obtain ⟨tu442, bu442, gu442, au442, cu442⟩ := id kp440
  have hl443 : ∀ (d445 k444 : Nat) (x446 : Int32) (h : q_H), k444 + d445 = 8 → q_ok Γ h → q_A Sc mX1_letAnswer 13 [.ref a0, .ref a1, .int (nI a2), .ref p440.2, .int (x446), .int (nI k444)] [] h n 0 0 (fun O h' n' => (q_RI) O ∧ q_ok Γ h' ∧ n' = n) := by
    intro d445
    induction d445 with
    | zero =>
      intro k444 x446 h el443 hok
      refine q_iload dX1_letAnswer_13 rfl ?_
      refine q_bipush (v := nI 8) dX1_letAnswer_15 rfl ?_
      refine t_icmp_ge_n (tgt := 78) (by omega) (by omega) dX1_letAnswer_17 (by decide) (fun c447 => ?_) (fun c447 => ?_)
      rotate_left
      · exact absurd c447 (by omega)
      refine q_iload dX1_letAnswer_78 rfl ?_
      exact q_iret dX1_letAnswer_80 rfl (rfl) ⟨⟨_, rfl⟩, hok, rfl⟩
    | succ d445 ihl443 =>
      intro k444 x446 h el443 hok
      refine q_iload dX1_letAnswer_13 rfl ?_
      refine q_bipush (v := nI 8) dX1_letAnswer_15 rfl ?_
      refine t_icmp_ge_n (tgt := 78) (by omega) (by omega) dX1_letAnswer_17 (by decide) (fun c448 => ?_) (fun c448 => ?_)
      · exact absurd c448 (by omega)
      refine q_aload_n dX1_letAnswer_20 rfl ?_
      refine t_getr 1 kX2 (by decide) wPX1_133 dX1_letAnswer_21 hok gu442 rfl ?_
      refine q_iload dX1_letAnswer_24 rfl ?_
      refine t_zald dX1_letAnswer_26 hok cu442 (by exact vp_in_nI (by omega) (by omega)) (fun x449 => ?_)
      refine q_if_ne (tgt := 40) dX1_letAnswer_27 (by decide) (fun c450 => ?_) (fun c450 => ?_)
      ·
        refine q_aload_n dX1_letAnswer_40 rfl ?_
        refine q_aload_n dX1_letAnswer_41 rfl ?_
        refine q_iload dX1_letAnswer_42 rfl ?_
        refine q_aload_n dX1_letAnswer_44 rfl ?_
        refine t_getr 1 kX2 (by decide) wPX1_133 dX1_letAnswer_45 hok gu442 rfl ?_
        refine q_iload dX1_letAnswer_48 rfl ?_
        refine t_zald dX1_letAnswer_50 hok cu442 (by exact vp_in_nI (by omega) (by omega)) (fun x451 => ?_)
        refine q_if_eq (tgt := 58) dX1_letAnswer_51 (by decide) (fun c452 => ?_) (fun c452 => ?_)
        ·
          refine q_iconst (v := nI 0) dX1_letAnswer_58 rfl ?_
          refine q_aload_n dX1_letAnswer_59 rfl ?_
          refine t_getr 0 kX2 (by decide) wPX1_129 dX1_letAnswer_60 hok gu442 rfl ?_
          refine q_iload dX1_letAnswer_63 rfl ?_
          refine t_iald dX1_letAnswer_65 hok au442 (by exact vp_in_nI (by omega) (by omega)) (fun x453 => ?_)
          refine t_callV (M' := mX1_hearReport) [.ref a1, .int (nI k444), .int (nI 0), .int (x453)] [] kX1 dX1_letAnswer_66 wPX1_136v wIX1_hearReport wSX1_hearReport iX1_hearReport oX1_hearReport rfl hok gu439 (sX1_hearReport Sc Γ n b0 b1 (k444) (by omega) (nI 0) (x453)) (Nat.le_of_ble_eq_true rfl) (Nat.le_of_ble_eq_true rfl) (Nat.le_of_ble_eq_true rfl) (Nat.le_of_ble_eq_true rfl) (Nat.le_of_ble_eq_true rfl) rfl (fun v454 h qv454 hok => ?_) (fun e455 h qe455 hok => absurd qe455 (by intro q; cases q))
          obtain rfl := Sum.inl.inj qv454
          obtain ⟨y456, hy456⟩ : ∃ y456 : Int32, x446 + Int32.ofInt (1) = y456 := ⟨_, rfl⟩
          refine t_iinc [.ref a0, .ref a1, .int (nI a2), .ref p440.2, .int (y456), .int (nI k444)] dX1_letAnswer_69 rfl hy456 (by decide) rfl ?_
          refine t_iinc_n [.ref a0, .ref a1, .int (nI a2), .ref p440.2, .int (y456), .int (nI (k444 + 1))] dX1_letAnswer_72 rfl (by decide) rfl ?_
          refine q_goto (tgt := 13) dX1_letAnswer_75 (by decide) ?_
          exact ihl443 (k444 + 1) (y456) h (by omega) hok
        ·
          refine q_iconst (v := nI 1) dX1_letAnswer_54 rfl ?_
          refine q_goto (tgt := 59) dX1_letAnswer_55 (by decide) ?_
          refine q_aload_n dX1_letAnswer_59 rfl ?_
          refine t_getr 0 kX2 (by decide) wPX1_129 dX1_letAnswer_60 hok gu442 rfl ?_
          refine q_iload dX1_letAnswer_63 rfl ?_
          refine t_iald dX1_letAnswer_65 hok au442 (by exact vp_in_nI (by omega) (by omega)) (fun x457 => ?_)
          refine t_callV (M' := mX1_hearReport) [.ref a1, .int (nI k444), .int (nI 1), .int (x457)] [] kX1 dX1_letAnswer_66 wPX1_136v wIX1_hearReport wSX1_hearReport iX1_hearReport oX1_hearReport rfl hok gu439 (sX1_hearReport Sc Γ n b0 b1 (k444) (by omega) (nI 1) (x457)) (Nat.le_of_ble_eq_true rfl) (Nat.le_of_ble_eq_true rfl) (Nat.le_of_ble_eq_true rfl) (Nat.le_of_ble_eq_true rfl) (Nat.le_of_ble_eq_true rfl) rfl (fun v458 h qv458 hok => ?_) (fun e459 h qe459 hok => absurd qe459 (by intro q; cases q))
          obtain rfl := Sum.inl.inj qv458
          obtain ⟨y460, hy460⟩ : ∃ y460 : Int32, x446 + Int32.ofInt (1) = y460 := ⟨_, rfl⟩
          refine t_iinc [.ref a0, .ref a1, .int (nI a2), .ref p440.2, .int (y460), .int (nI k444)] dX1_letAnswer_69 rfl hy460 (by decide) rfl ?_
          refine t_iinc_n [.ref a0, .ref a1, .int (nI a2), .ref p440.2, .int (y460), .int (nI (k444 + 1))] dX1_letAnswer_72 rfl (by decide) rfl ?_
          refine q_goto (tgt := 13) dX1_letAnswer_75 (by decide) ?_
          exact ihl443 (k444 + 1) (y460) h (by omega) hok
      ·
        refine q_aload_n dX1_letAnswer_30 rfl ?_
        refine t_getr 0 kX2 (by decide) wPX1_129 dX1_letAnswer_31 hok gu442 rfl ?_
        refine q_iload dX1_letAnswer_34 rfl ?_
        refine t_iald dX1_letAnswer_36 hok au442 (by exact vp_in_nI (by omega) (by omega)) (fun x461 => ?_)
        refine q_if_eq (tgt := 72) dX1_letAnswer_37 (by decide) (fun c462 => ?_) (fun c462 => ?_)
        ·
          refine t_iinc_n [.ref a0, .ref a1, .int (nI a2), .ref p440.2, .int (x446), .int (nI (k444 + 1))] dX1_letAnswer_72 rfl (by decide) rfl ?_
          refine q_goto (tgt := 13) dX1_letAnswer_75 (by decide) ?_
          exact ihl443 (k444 + 1) (x446) h (by omega) hok
        ·
          refine q_aload_n dX1_letAnswer_40 rfl ?_
          refine q_aload_n dX1_letAnswer_41 rfl ?_
          refine q_iload dX1_letAnswer_42 rfl ?_
          refine q_aload_n dX1_letAnswer_44 rfl ?_
          refine t_getr 1 kX2 (by decide) wPX1_133 dX1_letAnswer_45 hok gu442 rfl ?_
          refine q_iload dX1_letAnswer_48 rfl ?_
          refine t_zald dX1_letAnswer_50 hok cu442 (by exact vp_in_nI (by omega) (by omega)) (fun x463 => ?_)
          refine q_if_eq (tgt := 58) dX1_letAnswer_51 (by decide) (fun c464 => ?_) (fun c464 => ?_)
          ·
            refine q_iconst (v := nI 0) dX1_letAnswer_58 rfl ?_
            refine q_aload_n dX1_letAnswer_59 rfl ?_
            refine t_getr 0 kX2 (by decide) wPX1_129 dX1_letAnswer_60 hok gu442 rfl ?_
            refine q_iload dX1_letAnswer_63 rfl ?_
            refine t_iald dX1_letAnswer_65 hok au442 (by exact vp_in_nI (by omega) (by omega)) (fun x465 => ?_)
            refine t_callV (M' := mX1_hearReport) [.ref a1, .int (nI k444), .int (nI 0), .int (x465)] [] kX1 dX1_letAnswer_66 wPX1_136v wIX1_hearReport wSX1_hearReport iX1_hearReport oX1_hearReport rfl hok gu439 (sX1_hearReport Sc Γ n b0 b1 (k444) (by omega) (nI 0) (x465)) (Nat.le_of_ble_eq_true rfl) (Nat.le_of_ble_eq_true rfl) (Nat.le_of_ble_eq_true rfl) (Nat.le_of_ble_eq_true rfl) (Nat.le_of_ble_eq_true rfl) rfl (fun v466 h qv466 hok => ?_) (fun e467 h qe467 hok => absurd qe467 (by intro q; cases q))
            obtain rfl := Sum.inl.inj qv466
            obtain ⟨y468, hy468⟩ : ∃ y468 : Int32, x446 + Int32.ofInt (1) = y468 := ⟨_, rfl⟩
            refine t_iinc [.ref a0, .ref a1, .int (nI a2), .ref p440.2, .int (y468), .int (nI k444)] dX1_letAnswer_69 rfl hy468 (by decide) rfl ?_
            refine t_iinc_n [.ref a0, .ref a1, .int (nI a2), .ref p440.2, .int (y468), .int (nI (k444 + 1))] dX1_letAnswer_72 rfl (by decide) rfl ?_
            refine q_goto (tgt := 13) dX1_letAnswer_75 (by decide) ?_
            exact ihl443 (k444 + 1) (y468) h (by omega) hok
          ·
            refine q_iconst (v := nI 1) dX1_letAnswer_54 rfl ?_
            refine q_goto (tgt := 59) dX1_letAnswer_55 (by decide) ?_
            refine q_aload_n dX1_letAnswer_59 rfl ?_
            refine t_getr 0 kX2 (by decide) wPX1_129 dX1_letAnswer_60 hok gu442 rfl ?_
            refine q_iload dX1_letAnswer_63 rfl ?_
            refine t_iald dX1_letAnswer_65 hok au442 (by exact vp_in_nI (by omega) (by omega)) (fun x469 => ?_)
            refine t_callV (M' := mX1_hearReport) [.ref a1, .int (nI k444), .int (nI 1), .int (x469)] [] kX1 dX1_letAnswer_66 wPX1_136v wIX1_hearReport wSX1_hearReport iX1_hearReport oX1_hearReport rfl hok gu439 (sX1_hearReport Sc Γ n b0 b1 (k444) (by omega) (nI 1) (x469)) (Nat.le_of_ble_eq_true rfl) (Nat.le_of_ble_eq_true rfl) (Nat.le_of_ble_eq_true rfl) (Nat.le_of_ble_eq_true rfl) (Nat.le_of_ble_eq_true rfl) rfl (fun v470 h qv470 hok => ?_) (fun e471 h qe471 hok => absurd qe471 (by intro q; cases q))
            obtain rfl := Sum.inl.inj qv470
            obtain ⟨y472, hy472⟩ : ∃ y472 : Int32, x446 + Int32.ofInt (1) = y472 := ⟨_, rfl⟩
            refine t_iinc [.ref a0, .ref a1, .int (nI a2), .ref p440.2, .int (y472), .int (nI k444)] dX1_letAnswer_69 rfl hy472 (by decide) rfl ?_
            refine t_iinc_n [.ref a0, .ref a1, .int (nI a2), .ref p440.2, .int (y472), .int (nI (k444 + 1))] dX1_letAnswer_72 rfl (by decide) rfl ?_
            refine q_goto (tgt := 13) dX1_letAnswer_75 (by decide) ?_
            exact ihl443 (k444 + 1) (y472) h (by omega) hok
  exact hl443 (8) 0 (nI 0) h (by omega) hok
set_option maxRecDepth 20000 in
set_option maxHeartbeats 4000000 in
theorem sX1_hasMemberFor (Sc : q_S) (Γ : Nat → q_K) (n : Nat) {a0 : Nat} (b0 : kLk Γ a0) (a1 : Nat) (b1 : a1 < 8) (a2 : Int32) : q_safe Sc Γ mX1_hasMemberFor [.ref a0, .int (nI a1), .int (a2)] n 0 0 (q_RB) := by
  intro h hok
  show q_A Sc mX1_hasMemberFor 0 [.ref a0, .int (nI a1), .int (a2), .retAddr 0] [] h n 0 0 (fun O h' n' => (q_RB) O ∧ q_ok Γ h' ∧ n' = n)
  refine q_iconst (v := nI 0) dX1_hasMemberFor_0 rfl ?_
  refine t_istore [.ref a0, .int (nI a1), .int (a2), .int (nI 0)] (Or.inl ⟨3, rfl, rfl, dX1_hasMemberFor_1⟩) (by decide) rfl ?_
  obtain ⟨pu473, qu473, ru473, su473, gu473, au473, bu473, cu473, du473, eu473, fu473⟩ := id b0
  have hl474 : ∀ (d476 k475 : Nat) (h : q_H), k475 + d476 = 6 → q_ok Γ h → q_A Sc mX1_hasMemberFor 2 [.ref a0, .int (nI a1), .int (a2), .int (nI k475)] [] h n 0 0 (fun O h' n' => (q_RB) O ∧ q_ok Γ h' ∧ n' = n) := by
    intro d476
    induction d476 with
    | zero =>
      intro k475  h el474 hok
      refine q_iload_n dX1_hasMemberFor_2 rfl ?_
      refine q_bipush (v := nI 6) dX1_hasMemberFor_3 rfl ?_
      refine t_icmp_ge_n (tgt := 30) (by omega) (by omega) dX1_hasMemberFor_5 (by decide) (fun c477 => ?_) (fun c477 => ?_)
      rotate_left
      · exact absurd c477 (by omega)
      refine q_iconst (v := nI 0) dX1_hasMemberFor_30 rfl ?_
      exact q_iret dX1_hasMemberFor_31 rfl (rfl) ⟨⟨_, rfl, Or.inl rfl⟩, hok, rfl⟩
    | succ d476 ihl474 =>
      intro k475  h el474 hok
      refine q_iload_n dX1_hasMemberFor_2 rfl ?_
      refine q_bipush (v := nI 6) dX1_hasMemberFor_3 rfl ?_
      refine t_icmp_ge_n (tgt := 30) (by omega) (by omega) dX1_hasMemberFor_5 (by decide) (fun c478 => ?_) (fun c478 => ?_)
      · exact absurd c478 (by omega)
      refine q_aload_n dX1_hasMemberFor_8 rfl ?_
      refine t_getr 2 kX1 (by decide) wPX1_19 dX1_hasMemberFor_9 hok gu473 rfl ?_
      refine q_iload_n dX1_hasMemberFor_12 rfl ?_
      refine t_aald "GroupFilters$Member" dX1_hasMemberFor_13 hok du473 rfl (by rw [eu473]; exact vp_in_nI (by omega) (by omega)) (fun p479 hp479 => ?_)
      have kp479 := fu473 _ _ hp479
      refine q_iload_n dX1_hasMemberFor_14 rfl ?_
      refine q_iload_n dX1_hasMemberFor_15 rfl ?_
      obtain ⟨tu480, bu480, gu480, au480, cu480⟩ := id kp479
      refine t_callV (M' := mX2_wants) [.int (nI a1), .int (a2)] [] kX2 dX1_hasMemberFor_16 wPX1_140v wIX2_wants wSX2_wants iX2_wants oX2_wants rfl hok gu480 (sX2_wants Sc Γ n kp479 (a1) (by omega) (a2)) (Nat.le_of_ble_eq_true rfl) (Nat.le_of_ble_eq_true rfl) (Nat.le_of_ble_eq_true rfl) (Nat.le_of_ble_eq_true rfl) (Nat.le_of_ble_eq_true rfl) rfl (fun v481 h qv481 hok => ?_) (fun e482 h qe482 hok => absurd qe482 (by intro q; obtain ⟨_, q, _⟩ := q; cases q))
      obtain ⟨x483, qx483, bx483⟩ := qv481
      obtain rfl := Sum.inl.inj qx483
      refine q_if_eq (tgt := 24) dX1_hasMemberFor_19 (by decide) (fun c484 => ?_) (fun c484 => ?_)
      ·
        refine t_iinc_n [.ref a0, .int (nI a1), .int (a2), .int (nI (k475 + 1))] dX1_hasMemberFor_24 rfl (by decide) rfl ?_
        refine q_goto (tgt := 2) dX1_hasMemberFor_27 (by decide) ?_
        exact ihl474 (k475 + 1)  h (by omega) hok
      ·
        refine q_iconst (v := nI 1) dX1_hasMemberFor_22 rfl ?_
        exact q_iret dX1_hasMemberFor_23 rfl (rfl) ⟨⟨_, rfl, Or.inr rfl⟩, hok, rfl⟩
  exact hl474 (6) 0  h (by omega) hok
