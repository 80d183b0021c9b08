set_option maxRecDepth 20000 in
set_option maxHeartbeats 4000000 in
theorem sX1_asks (Sc : q_S) (Γ : Nat → q_K) (n : Nat) {a0 : Nat} (b0 : kLk Γ a0) : q_safe Sc Γ mX1_asks [.ref a0] n 0 0 (q_RB) := by
  intro h hok
  show q_A Sc mX1_asks 0 [.ref a0] [] h n 0 0 (fun O h' n' => (q_RB) O ∧ q_ok Γ h' ∧ n' = n)
  refine q_aload_n dX1_asks_0 rfl ?_
  obtain ⟨pu175, qu175, ru175, su175, gu175, au175, bu175, cu175, du175, eu175, fu175⟩ := id b0
  refine t_geti 6 kX1 (by decide) wPX1_34 dX1_asks_1 hok gu175 rfl (fun x176 => ?_)
  refine q_sipush (v := nI 500) dX1_asks_4 rfl ?_
  refine q_icmp_ne (tgt := 14) dX1_asks_7 (by decide) (fun c177 => ?_) (fun c177 => ?_)
  ·
    refine q_iconst (v := nI 0) dX1_asks_14 rfl ?_
    exact q_iret dX1_asks_15 rfl (rfl) ⟨⟨_, rfl, Or.inl rfl⟩, hok, rfl⟩
  ·
    refine q_iconst (v := nI 1) dX1_asks_10 rfl ?_
    refine q_goto (tgt := 15) dX1_asks_11 (by decide) ?_
    exact q_iret dX1_asks_15 rfl (rfl) ⟨⟨_, rfl, Or.inr rfl⟩, hok, rfl⟩
set_option maxRecDepth 20000 in
set_option maxHeartbeats 4000000 in
theorem sX1_set (Sc : q_S) (Γ : Nat → q_K) (n : Nat) {a0 : Nat} (b0 : kLk Γ a0) (a1 : Int32) (a2 : Int32) (a3 : Int32) : q_safe Sc Γ mX1_set [.ref a0, .int (a1), .int (a2), .int (a3)] n 0 0 (q_RV) := by
  intro h hok
  show q_A Sc mX1_set 0 [.ref a0, .int (a1), .int (a2), .int (a3)] [] h n 0 0 (fun O h' n' => (q_RV) O ∧ q_ok Γ h' ∧ n' = n)
  refine q_aload_n dX1_set_0 rfl ?_
  refine q_iload_n dX1_set_1 rfl ?_
  obtain ⟨pu178, qu178, ru178, su178, gu178, au178, bu178, cu178, du178, eu178, fu178⟩ := id b0
  refine t_puti 3 kX1 (by decide) wPX1_41 rfl dX1_set_2 hok gu178 rfl ⟨rfl, rfl⟩ (fun h hok => ?_)
  refine q_aload_n dX1_set_5 rfl ?_
  refine q_iload_n dX1_set_6 rfl ?_
  refine t_puti 4 kX1 (by decide) wPX1_44 rfl dX1_set_7 hok gu178 rfl ⟨rfl, rfl⟩ (fun h hok => ?_)
  refine q_aload_n dX1_set_10 rfl ?_
  refine q_iload_n dX1_set_11 rfl ?_
  refine t_puti 5 kX1 (by decide) wPX1_47 rfl dX1_set_12 hok gu178 rfl ⟨rfl, rfl⟩ (fun h hok => ?_)
  refine q_aload_n dX1_set_15 rfl ?_
  refine t_callV (M' := mX1_asks) [] [] kX1 dX1_set_16 wPX1_50v wIX1_asks wSX1_asks iX1_asks oX1_asks rfl hok gu178 (sX1_asks Sc Γ n b0) (Nat.le_of_ble_eq_true rfl) (Nat.le_of_ble_eq_true rfl) (Nat.le_of_ble_eq_true rfl) (Nat.le_of_ble_eq_true rfl) (Nat.le_of_ble_eq_true rfl) rfl (fun v179 h qv179 hok => ?_) (fun e180 h qe180 hok => absurd qe180 (by intro q; obtain ⟨_, q, _⟩ := q; cases q))
  obtain ⟨x181, qx181, bx181⟩ := qv179
  obtain rfl := Sum.inl.inj qx181
  refine q_if_eq (tgt := 27) dX1_set_19 (by decide) (fun c182 => ?_) (fun c182 => ?_)
  ·
    exact q_vret dX1_set_27 rfl ⟨rfl, hok, rfl⟩
  ·
    refine q_aload_n dX1_set_22 rfl ?_
    refine q_iload_n dX1_set_23 rfl ?_
    refine t_puti 7 kX1 (by decide) wPX1_54 rfl dX1_set_24 hok gu178 rfl ⟨rfl, rfl⟩ (fun h hok => ?_)
    exact q_vret dX1_set_27 rfl ⟨rfl, hok, rfl⟩
set_option maxRecDepth 20000 in
set_option maxHeartbeats 4000000 in
theorem sX1_grace (Sc : q_S) (Γ : Nat → q_K) (n : Nat) {a0 : Nat} (b0 : kLk Γ a0) : q_safe Sc Γ mX1_grace [.ref a0] n 0 0 (q_RI) := by
  intro h hok
  show q_A Sc mX1_grace 0 [.ref a0] [] h n 0 0 (fun O h' n' => (q_RI) O ∧ q_ok Γ h' ∧ n' = n)
  refine q_aload_n dX1_grace_0 rfl ?_
  obtain ⟨pu183, qu183, ru183, su183, gu183, au183, bu183, cu183, du183, eu183, fu183⟩ := id b0
  refine t_geti 3 kX1 (by decide) wPX1_41 dX1_grace_1 hok gu183 rfl (fun x184 => ?_)
  refine q_aload_n dX1_grace_4 rfl ?_
  refine t_geti 4 kX1 (by decide) wPX1_44 dX1_grace_5 hok gu183 rfl (fun x185 => ?_)
  refine q_imul dX1_grace_8 ?_
  generalize (x184) * (x185) = z186
  refine q_aload_n dX1_grace_9 rfl ?_
  refine t_geti 5 kX1 (by decide) wPX1_47 dX1_grace_10 hok gu183 rfl (fun x187 => ?_)
  refine q_iadd dX1_grace_13 ?_
  generalize (z186) + (x187) = z188
  exact q_iret dX1_grace_14 rfl (rfl) ⟨⟨_, rfl⟩, hok, rfl⟩
set_option maxRecDepth 20000 in
set_option maxHeartbeats 4000000 in
theorem sX1_last (Sc : q_S) (Γ : Nat → q_K) (n : Nat) {a0 : Nat} (b0 : kLk Γ a0) : q_safe Sc Γ mX1_last [.ref a0] n 0 0 (q_RI) := by
  intro h hok
  show q_A Sc mX1_last 0 [.ref a0] [] h n 0 0 (fun O h' n' => (q_RI) O ∧ q_ok Γ h' ∧ n' = n)
  refine q_aload_n dX1_last_0 rfl ?_
  obtain ⟨pu189, qu189, ru189, su189, gu189, au189, bu189, cu189, du189, eu189, fu189⟩ := id b0
  refine t_geti 3 kX1 (by decide) wPX1_41 dX1_last_1 hok gu189 rfl (fun x190 => ?_)
  exact q_iret dX1_last_4 rfl (rfl) ⟨⟨_, rfl⟩, hok, rfl⟩
set_option maxRecDepth 20000 in
set_option maxHeartbeats 4000000 in
theorem sX1_records (Sc : q_S) (Γ : Nat → q_K) (n : Nat) {a0 : Nat} (b0 : kLk Γ a0) : q_safe Sc Γ mX1_records [.ref a0] n 0 0 (q_RI) := by
  intro h hok
  show q_A Sc mX1_records 0 [.ref a0, .retAddr 0, .retAddr 0] [] h n 0 0 (fun O h' n' => (q_RI) O ∧ q_ok Γ h' ∧ n' = n)
  refine q_iconst (v := nI 0) dX1_records_0 rfl ?_
  refine t_istore [.ref a0, .int (nI 0), .retAddr 0] (Or.inl ⟨1, rfl, rfl, dX1_records_1⟩) (by decide) rfl ?_
  refine q_iconst (v := nI 0) dX1_records_2 rfl ?_
  refine t_istore [.ref a0, .int (nI 0), .int (nI 0)] (Or.inl ⟨2, rfl, rfl, dX1_records_3⟩) (by decide) rfl ?_
  obtain ⟨pu191, qu191, ru191, su191, gu191, au191, bu191, cu191, du191, eu191, fu191⟩ := id b0
  have hl192 : ∀ (d194 k193 : Nat) (x195 : Int32) (h : q_H), k193 + d194 = 8 → q_ok Γ h → q_A Sc mX1_records 4 [.ref a0, .int (x195), .int (nI k193)] [] h n 0 0 (fun O h' n' => (q_RI) O ∧ q_ok Γ h' ∧ n' = n) := by
    intro d194
    induction d194 with
    | zero =>
      intro k193 x195 h el192 hok
      refine q_iload_n dX1_records_4 rfl ?_
      refine q_bipush (v := nI 8) dX1_records_5 rfl ?_
      refine t_icmp_ge_n (tgt := 32) (by omega) (by omega) dX1_records_7 (by decide) (fun c196 => ?_) (fun c196 => ?_)
      rotate_left
      · exact absurd c196 (by omega)
      refine q_iload_n dX1_records_32 rfl ?_
      exact q_iret dX1_records_33 rfl (rfl) ⟨⟨_, rfl⟩, hok, rfl⟩
    | succ d194 ihl192 =>
      intro k193 x195 h el192 hok
      refine q_iload_n dX1_records_4 rfl ?_
      refine q_bipush (v := nI 8) dX1_records_5 rfl ?_
      refine t_icmp_ge_n (tgt := 32) (by omega) (by omega) dX1_records_7 (by decide) (fun c197 => ?_) (fun c197 => ?_)
      · exact absurd c197 (by omega)
      refine q_aload_n dX1_records_10 rfl ?_
      refine t_getr 1 kX1 (by decide) wPX1_11 dX1_records_11 hok gu191 rfl ?_
      refine q_iload_n dX1_records_14 rfl ?_
      refine t_aald "GroupFilters$Filter" dX1_records_15 hok au191 rfl (by rw [bu191]; exact vp_in_nI (by omega) (by omega)) (fun p198 hp198 => ?_)
      have kp198 := cu191 _ _ hp198
      obtain ⟨tu199, gu199, au199⟩ := id kp198
      refine t_callV (M' := mX0_state) [] [] kX0 dX1_records_16 wPX1_57v wIX0_state wSX0_state iX0_state oX0_state rfl hok gu199 (sX0_state Sc Γ n kp198) (Nat.le_of_ble_eq_true rfl) (Nat.le_of_ble_eq_true rfl) (Nat.le_of_ble_eq_true rfl) (Nat.le_of_ble_eq_true rfl) (Nat.le_of_ble_eq_true rfl) rfl (fun v200 h qv200 hok => ?_) (fun e201 h qe201 hok => absurd qe201 (by intro q; obtain ⟨_, q⟩ := q; cases q))
      obtain ⟨x202, qx202⟩ := qv200
      obtain rfl := Sum.inl.inj qx202
      refine q_iconst (v := -1) dX1_records_19 rfl ?_
      refine q_icmp_eq (tgt := 26) dX1_records_20 (by decide) (fun c203 => ?_) (fun c203 => ?_)
      ·
        refine t_iinc_n [.ref a0, .int (x195), .int (nI (k193 + 1))] dX1_records_26 rfl (by decide) rfl ?_
        refine q_goto (tgt := 4) dX1_records_29 (by decide) ?_
        exact ihl192 (k193 + 1) (x195) h (by omega) hok
      ·
        obtain ⟨y204, hy204⟩ : ∃ y204 : Int32, x195 + Int32.ofInt (1) = y204 := ⟨_, rfl⟩
        refine t_iinc [.ref a0, .int (y204), .int (nI k193)] dX1_records_23 rfl hy204 (by decide) rfl ?_
        refine t_iinc_n [.ref a0, .int (y204), .int (nI (k193 + 1))] dX1_records_26 rfl (by decide) rfl ?_
        refine q_goto (tgt := 4) dX1_records_29 (by decide) ?_
        exact ihl192 (k193 + 1) (y204) h (by omega) hok
  exact hl192 (8) 0 (nI 0) h (by omega) hok
set_option maxRecDepth 20000 in
set_option maxHeartbeats 4000000 in
theorem sX1_yieldTo (Sc : q_S) (Γ : Nat → q_K) (n : Nat) {a0 : Nat} (b0 : kLk Γ a0) (a1 : Int32) : q_safe Sc Γ mX1_yieldTo [.ref a0, .int (a1)] n 0 0 (q_RV) := by
  intro h hok
  show q_A Sc mX1_yieldTo 0 [.ref a0, .int (a1)] [] h n 0 0 (fun O h' n' => (q_RV) O ∧ q_ok Γ h' ∧ n' = n)
  refine q_aload_n dX1_yieldTo_0 rfl ?_
  refine q_aload_n dX1_yieldTo_1 rfl ?_
  obtain ⟨pu205, qu205, ru205, su205, gu205, au205, bu205, cu205, du205, eu205, fu205⟩ := id b0
  refine t_geti 6 kX1 (by decide) wPX1_34 dX1_yieldTo_2 hok gu205 rfl (fun x206 => ?_)
  refine q_iload_n dX1_yieldTo_5 rfl ?_
  refine t_callS (M' := mJ9_min_7cf53) [.int (x206), .int (a1)] [.ref a0] dX1_yieldTo_6 wPX1_61 wTJ9_min_7cf53 wNJ9 iJ9_min_7cf53 oJ9_min_7cf53 rfl hok (sJ9_min_7cf53 Sc Γ n (x206) (a1)) (Nat.le_of_ble_eq_true rfl) (Nat.le_of_ble_eq_true rfl) (Nat.le_of_ble_eq_true rfl) (Nat.le_of_ble_eq_true rfl) (Nat.le_of_ble_eq_true rfl) rfl (fun v207 h qv207 hok => ?_) (fun e208 h qe208 hok => absurd qe208 (by intro q; obtain ⟨_, q⟩ := q; cases q))
  obtain ⟨x209, qx209⟩ := qv207
  obtain rfl := Sum.inl.inj qx209
  refine t_puti 6 kX1 (by decide) wPX1_34 rfl dX1_yieldTo_9 hok gu205 rfl ⟨rfl, rfl⟩ (fun h hok => ?_)
  refine q_aload_n dX1_yieldTo_12 rfl ?_
  refine q_aload_n dX1_yieldTo_13 rfl ?_
  refine t_geti 3 kX1 (by decide) wPX1_41 dX1_yieldTo_14 hok gu205 rfl (fun x210 => ?_)
  refine q_aload_n dX1_yieldTo_17 rfl ?_
  refine t_geti 4 kX1 (by decide) wPX1_44 dX1_yieldTo_18 hok gu205 rfl (fun x211 => ?_)
  refine q_imul dX1_yieldTo_21 ?_
  generalize (x210) * (x211) = z212
  refine q_aload_n dX1_yieldTo_22 rfl ?_
  refine t_geti 5 kX1 (by decide) wPX1_47 dX1_yieldTo_23 hok gu205 rfl (fun x213 => ?_)
  refine q_iconst (v := nI 2) dX1_yieldTo_26 rfl ?_
  refine q_idiv dX1_yieldTo_27 (by decide) ?_
  generalize (x213) / (nI 2) = z214
  refine q_iadd dX1_yieldTo_28 ?_
  generalize (z212) + (z214) = z215
  refine t_puti 7 kX1 (by decide) wPX1_54 rfl dX1_yieldTo_29 hok gu205 rfl ⟨rfl, rfl⟩ (fun h hok => ?_)
  exact q_vret dX1_yieldTo_32 rfl ⟨rfl, hok, rfl⟩
set_option maxRecDepth 20000 in
set_option maxHeartbeats 4000000 in
theorem sX1_ageFilters (Sc : q_S) (Γ : Nat → q_K) (n : Nat) {a0 : Nat} (b0 : kLk Γ a0) (a1 : Int32) : q_safe Sc Γ mX1_ageFilters [.ref a0, .int (a1)] n 0 0 (q_RV) := by
  intro h hok
  show q_A Sc mX1_ageFilters 0 [.ref a0, .int (a1), .retAddr 0] [] h n 0 0 (fun O h' n' => (q_RV) O ∧ q_ok Γ h' ∧ n' = n)
  refine q_iconst (v := nI 0) dX1_ageFilters_0 rfl ?_
  refine t_istore [.ref a0, .int (a1), .int (nI 0)] (Or.inl ⟨2, rfl, rfl, dX1_ageFilters_1⟩) (by decide) rfl ?_
  obtain ⟨pu216, qu216, ru216, su216, gu216, au216, bu216, cu216, du216, eu216, fu216⟩ := id b0
  have hl217 : ∀ (d219 k218 : Nat) (h : q_H), k218 + d219 = 8 → q_ok Γ h → q_A Sc mX1_ageFilters 2 [.ref a0, .int (a1), .int (nI k218)] [] h n 0 0 (fun O h' n' => (q_RV) O ∧ q_ok Γ h' ∧ n' = n) := by
    intro d219
    induction d219 with
    | zero =>
      intro k218  h el217 hok
      refine q_iload_n dX1_ageFilters_2 rfl ?_
      refine q_bipush (v := nI 8) dX1_ageFilters_3 rfl ?_
      refine t_icmp_ge_n (tgt := 24) (by omega) (by omega) dX1_ageFilters_5 (by decide) (fun c220 => ?_) (fun c220 => ?_)
      rotate_left
      · exact absurd c220 (by omega)
      exact q_vret dX1_ageFilters_24 rfl ⟨rfl, hok, rfl⟩
    | succ d219 ihl217 =>
      intro k218  h el217 hok
      refine q_iload_n dX1_ageFilters_2 rfl ?_
      refine q_bipush (v := nI 8) dX1_ageFilters_3 rfl ?_
      refine t_icmp_ge_n (tgt := 24) (by omega) (by omega) dX1_ageFilters_5 (by decide) (fun c221 => ?_) (fun c221 => ?_)
      · exact absurd c221 (by omega)
      refine q_aload_n dX1_ageFilters_8 rfl ?_
      refine t_getr 1 kX1 (by decide) wPX1_11 dX1_ageFilters_9 hok gu216 rfl ?_
      refine q_iload_n dX1_ageFilters_12 rfl ?_
      refine t_aald "GroupFilters$Filter" dX1_ageFilters_13 hok au216 rfl (by rw [bu216]; exact vp_in_nI (by omega) (by omega)) (fun p222 hp222 => ?_)
      have kp222 := cu216 _ _ hp222
      refine q_iload_n dX1_ageFilters_14 rfl ?_
      obtain ⟨tu223, gu223, au223⟩ := id kp222
      refine t_callV (M' := mX0_age) [.int (a1)] [] kX0 dX1_ageFilters_15 wPX1_67v wIX0_age wSX0_age iX0_age oX0_age rfl hok gu223 (sX0_age Sc Γ n kp222 (a1)) (Nat.le_of_ble_eq_true rfl) (Nat.le_of_ble_eq_true rfl) (Nat.le_of_ble_eq_true rfl) (Nat.le_of_ble_eq_true rfl) (Nat.le_of_ble_eq_true rfl) rfl (fun v224 h qv224 hok => ?_) (fun e225 h qe225 hok => absurd qe225 (by intro q; cases q))
      obtain rfl := Sum.inl.inj qv224
      refine t_iinc_n [.ref a0, .int (a1), .int (nI (k218 + 1))] dX1_ageFilters_18 rfl (by decide) rfl ?_
      refine q_goto (tgt := 2) dX1_ageFilters_21 (by decide) ?_
      exact ihl217 (k218 + 1)  h (by omega) hok
  exact hl217 (8) 0  h (by omega) hok
set_option maxRecDepth 20000 in
set_option maxHeartbeats 4000000 in
theorem sX1_runClock (Sc : q_S) (Γ : Nat → q_K) (n : Nat) {a0 : Nat} (b0 : kLk Γ a0) {a1 : Nat} (b1 : kLg Γ a1) (a2 : Int32) : q_safe Sc Γ mX1_runClock [.ref a0, .ref a1, .int (a2)] n 0 0 (q_RV) := by
  intro h hok
  show q_A Sc mX1_runClock 0 [.ref a0, .ref a1, .int (a2)] [] h n 0 0 (fun O h' n' => (q_RV) O ∧ q_ok Γ h' ∧ n' = n)
  refine q_aload_n dX1_runClock_0 rfl ?_
  refine q_dup dX1_runClock_1 rfl ?_
  obtain ⟨pu226, qu226, ru226, su226, gu226, au226, bu226, cu226, du226, eu226, fu226⟩ := id b0
  refine t_geti 7 kX1 (by decide) wPX1_54 dX1_runClock_2 hok gu226 rfl (fun x227 => ?_)
  refine q_iload_n dX1_runClock_5 rfl ?_
  refine q_isub dX1_runClock_6 ?_
  generalize (x227) - (a2) = z228
  refine t_puti 7 kX1 (by decide) wPX1_54 rfl dX1_runClock_7 hok gu226 rfl ⟨rfl, rfl⟩ (fun h hok => ?_)
  refine q_aload_n dX1_runClock_10 rfl ?_
  refine t_geti 7 kX1 (by decide) wPX1_54 dX1_runClock_11 hok gu226 rfl (fun x229 => ?_)
  refine q_if_le (tgt := 18) dX1_runClock_14 (by decide) (fun c230 => ?_) (fun c230 => ?_)
  ·
    refine q_aload_n dX1_runClock_18 rfl ?_
    refine t_callV (M' := mX1_asks) [] [] kX1 dX1_runClock_19 wPX1_50v wIX1_asks wSX1_asks iX1_asks oX1_asks rfl hok gu226 (sX1_asks Sc Γ n b0) (Nat.le_of_ble_eq_true rfl) (Nat.le_of_ble_eq_true rfl) (Nat.le_of_ble_eq_true rfl) (Nat.le_of_ble_eq_true rfl) (Nat.le_of_ble_eq_true rfl) rfl (fun v231 h qv231 hok => ?_) (fun e232 h qe232 hok => absurd qe232 (by intro q; obtain ⟨_, q, _⟩ := q; cases q))
    obtain ⟨x233, qx233, bx233⟩ := qv231
    obtain rfl := Sum.inl.inj qx233
    refine q_if_eq (tgt := 35) dX1_runClock_22 (by decide) (fun c234 => ?_) (fun c234 => ?_)
    ·
      refine q_aload_n dX1_runClock_35 rfl ?_
      refine q_sipush (v := nI 500) dX1_runClock_36 rfl ?_
      refine t_puti 6 kX1 (by decide) wPX1_34 rfl dX1_runClock_39 hok gu226 rfl ⟨rfl, rfl⟩ (fun h hok => ?_)
      refine q_aload_n dX1_runClock_42 rfl ?_
      refine q_aload_n dX1_runClock_43 rfl ?_
      refine t_geti 4 kX1 (by decide) wPX1_44 dX1_runClock_44 hok gu226 rfl (fun x235 => ?_)
      refine t_puti 7 kX1 (by decide) wPX1_54 rfl dX1_runClock_47 hok gu226 rfl ⟨rfl, rfl⟩ (fun h hok => ?_)
      exact q_vret dX1_runClock_50 rfl ⟨rfl, hok, rfl⟩
    ·
      refine q_aload_n dX1_runClock_25 rfl ?_
      refine q_aload_n dX1_runClock_26 rfl ?_
      refine t_geti 0 kX1 (by decide) wPX1_23 dX1_runClock_27 hok gu226 rfl (fun x236 => ?_)
      refine q_iconst (v := -1) dX1_runClock_30 rfl ?_
      refine q_iconst (v := nI 0) dX1_runClock_31 rfl ?_
      obtain ⟨pu237, qu237, ru237, su237, gu237, au237, bu237, cu237, du237⟩ := id b1
      refine t_callV (M' := mX3_add) [.int (x236), .int (-1), .int (nI 0)] [] kX3 dX1_runClock_32 wPX1_71v wIX3_add wSX3_add iX3_add oX3_add rfl hok gu237 (sX3_add Sc Γ n b1 (x236) (-1) (nI 0)) (Nat.le_of_ble_eq_true rfl) (Nat.le_of_ble_eq_true rfl) (Nat.le_of_ble_eq_true rfl) (Nat.le_of_ble_eq_true rfl) (Nat.le_of_ble_eq_true rfl) rfl (fun v238 h qv238 hok => ?_) (fun e239 h qe239 hok => absurd qe239 (by intro q; cases q))
      obtain rfl := Sum.inl.inj qv238
      refine q_aload_n dX1_runClock_35 rfl ?_
      refine q_sipush (v := nI 500) dX1_runClock_36 rfl ?_
      refine t_puti 6 kX1 (by decide) wPX1_34 rfl dX1_runClock_39 hok gu226 rfl ⟨rfl, rfl⟩ (fun h hok => ?_)
      refine q_aload_n dX1_runClock_42 rfl ?_
      refine q_aload_n dX1_runClock_43 rfl ?_
      refine t_geti 4 kX1 (by decide) wPX1_44 dX1_runClock_44 hok gu226 rfl (fun x240 => ?_)
      refine t_puti 7 kX1 (by decide) wPX1_54 rfl dX1_runClock_47 hok gu226 rfl ⟨rfl, rfl⟩ (fun h hok => ?_)
      exact q_vret dX1_runClock_50 rfl ⟨rfl, hok, rfl⟩
  ·
    exact q_vret dX1_runClock_17 rfl ⟨rfl, hok, rfl⟩
set_option maxRecDepth 20000 in
set_option maxHeartbeats 4000000 in
theorem sX1_askSources (Sc : q_S) (Γ : Nat → q_K) (n : Nat) {a0 : Nat} (b0 : kLk Γ a0) {a1 : Nat} (b1 : kLg Γ a1) (a2 : Nat) (b2 : a2 < 8) (a3 : Int32) : q_safe Sc Γ mX1_askSources [.ref a0, .ref a1, .int (nI a2), .int (a3)] n 0 0 (q_RV) := by
  intro h hok
  show q_A Sc mX1_askSources 0 [.ref a0, .ref a1, .int (nI a2), .int (a3)] [] h n 0 0 (fun O h' n' => (q_RV) O ∧ q_ok Γ h' ∧ n' = n)
  refine q_iload_n dX1_askSources_0 rfl ?_
  refine q_if_eq (tgt := 35) dX1_askSources_1 (by decide) (fun c241 => ?_) (fun c241 => ?_)
  ·
    exact q_vret dX1_askSources_35 rfl ⟨rfl, hok, rfl⟩
  ·
    refine q_aload_n dX1_askSources_4 rfl ?_
    obtain ⟨pu242, qu242, ru242, su242, gu242, au242, bu242, cu242, du242, eu242, fu242⟩ := id b0
    refine t_callV (M' := mX1_asks) [] [] kX1 dX1_askSources_5 wPX1_50v wIX1_asks wSX1_asks iX1_asks oX1_asks rfl hok gu242 (sX1_asks Sc Γ n b0) (Nat.le_of_ble_eq_true rfl) (Nat.le_of_ble_eq_true rfl) (Nat.le_of_ble_eq_true rfl) (Nat.le_of_ble_eq_true rfl) (Nat.le_of_ble_eq_true rfl) rfl (fun v243 h qv243 hok => ?_) (fun e244 h qe244 hok => absurd qe244 (by intro q; obtain ⟨_, q, _⟩ := q; cases q))
    obtain ⟨x245, qx245, bx245⟩ := qv243
    obtain rfl := Sum.inl.inj qx245
    refine q_if_eq (tgt := 35) dX1_askSources_8 (by decide) (fun c246 => ?_) (fun c246 => ?_)
    ·
      exact q_vret dX1_askSources_35 rfl ⟨rfl, hok, rfl⟩
    ·
      refine q_aload_n dX1_askSources_11 rfl ?_
      refine q_aload_n dX1_askSources_12 rfl ?_
      refine t_geti 0 kX1 (by decide) wPX1_23 dX1_askSources_13 hok gu242 rfl (fun x247 => ?_)
      refine q_iload_n dX1_askSources_16 rfl ?_
      refine q_iload_n dX1_askSources_17 rfl ?_
      obtain ⟨pu248, qu248, ru248, su248, gu248, au248, bu248, cu248, du248⟩ := id b1
      refine t_callV (M' := mX3_add) [.int (x247), .int (nI a2), .int (a3)] [] kX3 dX1_askSources_18 wPX1_71v wIX3_add wSX3_add iX3_add oX3_add rfl hok gu248 (sX3_add Sc Γ n b1 (x247) (nI a2) (a3)) (Nat.le_of_ble_eq_true rfl) (Nat.le_of_ble_eq_true rfl) (Nat.le_of_ble_eq_true rfl) (Nat.le_of_ble_eq_true rfl) (Nat.le_of_ble_eq_true rfl) rfl (fun v249 h qv249 hok => ?_) (fun e250 h qe250 hok => absurd qe250 (by intro q; cases q))
      obtain rfl := Sum.inl.inj qv249
      refine q_aload_n dX1_askSources_21 rfl ?_
      refine t_getr 1 kX1 (by decide) wPX1_11 dX1_askSources_22 hok gu242 rfl ?_
      refine q_iload_n dX1_askSources_25 rfl ?_
      refine t_aald "GroupFilters$Filter" dX1_askSources_26 hok au242 rfl (by rw [bu242]; exact vp_in_nI (by omega) (by omega)) (fun p251 hp251 => ?_)
      have kp251 := cu242 _ _ hp251
      refine q_iload_n dX1_askSources_27 rfl ?_
      refine q_aload_n dX1_askSources_28 rfl ?_
      refine t_callV (M' := mX1_last) [] [.int (a3), .ref p251.2] kX1 dX1_askSources_29 wPX1_120v wIX1_last wSX1_last iX1_last oX1_last rfl hok gu242 (sX1_last Sc Γ n b0) (Nat.le_of_ble_eq_true rfl) (Nat.le_of_ble_eq_true rfl) (Nat.le_of_ble_eq_true rfl) (Nat.le_of_ble_eq_true rfl) (Nat.le_of_ble_eq_true rfl) rfl (fun v252 h qv252 hok => ?_) (fun e253 h qe253 hok => absurd qe253 (by intro q; obtain ⟨_, q⟩ := q; cases q))
      obtain ⟨x254, qx254⟩ := qv252
      obtain rfl := Sum.inl.inj qx254
      obtain ⟨tu255, gu255, au255⟩ := id kp251
      refine t_callV (M' := mX0_lowerTimers) [.int (a3), .int (x254)] [] kX0 dX1_askSources_32 wPX1_123v wIX0_lowerTimers wSX0_lowerTimers iX0_lowerTimers oX0_lowerTimers rfl hok gu255 (sX0_lowerTimers Sc Γ n kp251 (a3) (x254)) (Nat.le_of_ble_eq_true rfl) (Nat.le_of_ble_eq_true rfl) (Nat.le_of_ble_eq_true rfl) (Nat.le_of_ble_eq_true rfl) (Nat.le_of_ble_eq_true rfl) rfl (fun v256 h qv256 hok => ?_) (fun e257 h qe257 hok => absurd qe257 (by intro q; cases q))
      obtain rfl := Sum.inl.inj qv256
      exact q_vret dX1_askSources_35 rfl ⟨rfl, hok, rfl⟩
set_option maxRecDepth 20000 in
set_option maxHeartbeats 4000000 in
theorem sX1_askGroup (Sc : q_S) (Γ : Nat → q_K) (n : Nat) {a0 : Nat} (b0 : kLk Γ a0) {a1 : Nat} (b1 : kLg Γ a1) (a2 : Nat) (b2 : a2 < 8) : q_safe Sc Γ mX1_askGroup [.ref a0, .ref a1, .int (nI a2)] n 0 0 (q_RV) := by
  intro h hok
  show q_A Sc mX1_askGroup 0 [.ref a0, .ref a1, .int (nI a2)] [] h n 0 0 (fun O h' n' => (q_RV) O ∧ q_ok Γ h' ∧ n' = n)
  refine q_aload_n dX1_askGroup_0 rfl ?_
  obtain ⟨pu258, qu258, ru258, su258, gu258, au258, bu258, cu258, du258, eu258, fu258⟩ := id b0
  refine t_callV (M' := mX1_asks) [] [] kX1 dX1_askGroup_1 wPX1_50v wIX1_asks wSX1_asks iX1_asks oX1_asks rfl hok gu258 (sX1_asks Sc Γ n b0) (Nat.le_of_ble_eq_true rfl) (Nat.le_of_ble_eq_true rfl) (Nat.le_of_ble_eq_true rfl) (Nat.le_of_ble_eq_true rfl) (Nat.le_of_ble_eq_true rfl) rfl (fun v259 h qv259 hok => ?_) (fun e260 h qe260 hok => absurd qe260 (by intro q; obtain ⟨_, q, _⟩ := q; cases q))
  obtain ⟨x261, qx261, bx261⟩ := qv259
  obtain rfl := Sum.inl.inj qx261
  refine q_if_eq (tgt := 30) dX1_askGroup_4 (by decide) (fun c262 => ?_) (fun c262 => ?_)
  ·
    exact q_vret dX1_askGroup_30 rfl ⟨rfl, hok, rfl⟩
  ·
    refine q_aload_n dX1_askGroup_7 rfl ?_
    refine q_aload_n dX1_askGroup_8 rfl ?_
    refine t_geti 0 kX1 (by decide) wPX1_23 dX1_askGroup_9 hok gu258 rfl (fun x263 => ?_)
    refine q_iload_n dX1_askGroup_12 rfl ?_
    refine q_iconst (v := nI 0) dX1_askGroup_13 rfl ?_
    obtain ⟨pu264, qu264, ru264, su264, gu264, au264, bu264, cu264, du264⟩ := id b1
    refine t_callV (M' := mX3_add) [.int (x263), .int (nI a2), .int (nI 0)] [] kX3 dX1_askGroup_14 wPX1_71v wIX3_add wSX3_add iX3_add oX3_add rfl hok gu264 (sX3_add Sc Γ n b1 (x263) (nI a2) (nI 0)) (Nat.le_of_ble_eq_true rfl) (Nat.le_of_ble_eq_true rfl) (Nat.le_of_ble_eq_true rfl) (Nat.le_of_ble_eq_true rfl) (Nat.le_of_ble_eq_true rfl) rfl (fun v265 h qv265 hok => ?_) (fun e266 h qe266 hok => absurd qe266 (by intro q; cases q))
    obtain rfl := Sum.inl.inj qv265
    refine q_aload_n dX1_askGroup_17 rfl ?_
    refine t_getr 1 kX1 (by decide) wPX1_11 dX1_askGroup_18 hok gu258 rfl ?_
    refine q_iload_n dX1_askGroup_21 rfl ?_
    refine t_aald "GroupFilters$Filter" dX1_askGroup_22 hok au258 rfl (by rw [bu258]; exact vp_in_nI (by omega) (by omega)) (fun p267 hp267 => ?_)
    have kp267 := cu258 _ _ hp267
    refine q_aload_n dX1_askGroup_23 rfl ?_
    refine t_callV (M' := mX1_last) [] [.ref p267.2] kX1 dX1_askGroup_24 wPX1_120v wIX1_last wSX1_last iX1_last oX1_last rfl hok gu258 (sX1_last Sc Γ n b0) (Nat.le_of_ble_eq_true rfl) (Nat.le_of_ble_eq_true rfl) (Nat.le_of_ble_eq_true rfl) (Nat.le_of_ble_eq_true rfl) (Nat.le_of_ble_eq_true rfl) rfl (fun v268 h qv268 hok => ?_) (fun e269 h qe269 hok => absurd qe269 (by intro q; obtain ⟨_, q⟩ := q; cases q))
    obtain ⟨x270, qx270⟩ := qv268
    obtain rfl := Sum.inl.inj qx270
    obtain ⟨tu271, gu271, au271⟩ := id kp267
    refine t_callV (M' := mX0_lowerOwnTimer) [.int (x270)] [] kX0 dX1_askGroup_27 wPX1_126v wIX0_lowerOwnTimer wSX0_lowerOwnTimer iX0_lowerOwnTimer oX0_lowerOwnTimer rfl hok gu271 (sX0_lowerOwnTimer Sc Γ n kp267 (x270)) (Nat.le_of_ble_eq_true rfl) (Nat.le_of_ble_eq_true rfl) (Nat.le_of_ble_eq_true rfl) (Nat.le_of_ble_eq_true rfl) (Nat.le_of_ble_eq_true rfl) rfl (fun v272 h qv272 hok => ?_) (fun e273 h qe273 hok => absurd qe273 (by intro q; cases q))
    obtain rfl := Sum.inl.inj qv272
    exact q_vret dX1_askGroup_30 rfl ⟨rfl, hok, rfl⟩
set_option maxRecDepth 20000 in
set_option maxHeartbeats 4000000 in
theorem sX1_hearToIn (Sc : q_S) (Γ : Nat → q_K) (n : Nat) {a0 : Nat} (b0 : kLk Γ a0) {a1 : Nat} (b1 : kLg Γ a1) (a2 : Nat) (b2 : a2 < 8) (a3 : Int32) : q_safe Sc Γ mX1_hearToIn [.ref a0, .ref a1, .int (nI a2), .int (a3)] n 0 0 (q_RV) := by
  intro h hok
  show q_A Sc mX1_hearToIn 0 [.ref a0, .ref a1, .int (nI a2), .int (a3), .retAddr 0, .retAddr 0] [] h n 0 0 (fun O h' n' => (q_RV) O ∧ q_ok Γ h' ∧ n' = n)
  refine q_aload_n dX1_hearToIn_0 rfl ?_
  obtain ⟨pu274, qu274, ru274, su274, gu274, au274, bu274, cu274, du274, eu274, fu274⟩ := id b0
  refine t_getr 1 kX1 (by decide) wPX1_11 dX1_hearToIn_1 hok gu274 rfl ?_
  refine q_iload_n dX1_hearToIn_4 rfl ?_
  refine t_aald "GroupFilters$Filter" dX1_hearToIn_5 hok au274 rfl (by rw [bu274]; exact vp_in_nI (by omega) (by omega)) (fun p275 hp275 => ?_)
  have kp275 := cu274 _ _ hp275
  refine q_astore dX1_hearToIn_6 (by decide) ?_
  refine q_aload dX1_hearToIn_8 rfl ?_
  obtain ⟨tu276, gu276, au276⟩ := id kp275
  refine t_geti 2 kX0 (by decide) wPX1_96 dX1_hearToIn_10 hok gu276 rfl (fun x277 => ?_)
  refine q_iload_n dX1_hearToIn_13 rfl ?_
  refine q_iconst (v := -1) dX1_hearToIn_14 rfl ?_
  refine q_ixor dX1_hearToIn_15 ?_
  generalize (a3) ^^^ (-1) = z278
  refine q_iand dX1_hearToIn_16 ?_
  generalize (x277) &&& (z278) = z279
  refine t_istore [.ref a0, .ref a1, .int (nI a2), .int (a3), .ref p275.2, .int (z279)] (Or.inr ⟨rfl, dX1_hearToIn_17⟩) (by decide) rfl ?_
  refine q_aload dX1_hearToIn_19 rfl ?_
  refine q_iload_n dX1_hearToIn_21 rfl ?_
  refine q_aload_n dX1_hearToIn_22 rfl ?_
  refine t_callV (M' := mX1_grace) [] [.int (a3), .ref p275.2] kX1 dX1_hearToIn_23 wPX1_76v wIX1_grace wSX1_grace iX1_grace oX1_grace rfl hok gu274 (sX1_grace Sc Γ n b0) (Nat.le_of_ble_eq_true rfl) (Nat.le_of_ble_eq_true rfl) (Nat.le_of_ble_eq_true rfl) (Nat.le_of_ble_eq_true rfl) (Nat.le_of_ble_eq_true rfl) rfl (fun v280 h qv280 hok => ?_) (fun e281 h qe281 hok => absurd qe281 (by intro q; obtain ⟨_, q⟩ := q; cases q))
  obtain ⟨x282, qx282⟩ := qv280
  obtain rfl := Sum.inl.inj qx282
  refine t_callV (M' := mX0_allow) [.int (a3), .int (x282)] [] kX0 dX1_hearToIn_26 wPX1_92v wIX0_allow wSX0_allow iX0_allow oX0_allow rfl hok gu276 (sX0_allow Sc Γ n kp275 (a3) (x282)) (Nat.le_of_ble_eq_true rfl) (Nat.le_of_ble_eq_true rfl) (Nat.le_of_ble_eq_true rfl) (Nat.le_of_ble_eq_true rfl) (Nat.le_of_ble_eq_true rfl) rfl (fun v283 h qv283 hok => ?_) (fun e284 h qe284 hok => absurd qe284 (by intro q; cases q))
  obtain rfl := Sum.inl.inj qv283
  refine q_aload_n dX1_hearToIn_29 rfl ?_
  refine q_aload_n dX1_hearToIn_30 rfl ?_
  refine q_iload_n dX1_hearToIn_31 rfl ?_
  refine q_iload dX1_hearToIn_32 rfl ?_
  refine t_callV (M' := mX1_askSources) [.ref a1, .int (nI a2), .int (z279)] [] kX1 dX1_hearToIn_34 wPX1_99v wIX1_askSources wSX1_askSources iX1_askSources oX1_askSources rfl hok gu274 (sX1_askSources Sc Γ n b0 b1 (a2) (by omega) (z279)) (Nat.le_of_ble_eq_true rfl) (Nat.le_of_ble_eq_true rfl) (Nat.le_of_ble_eq_true rfl) (Nat.le_of_ble_eq_true rfl) (Nat.le_of_ble_eq_true rfl) rfl (fun v285 h qv285 hok => ?_) (fun e286 h qe286 hok => absurd qe286 (by intro q; cases q))
  obtain rfl := Sum.inl.inj qv285
  refine q_aload dX1_hearToIn_37 rfl ?_
  refine t_geti 1 kX0 (by decide) wPX1_102 dX1_hearToIn_39 hok gu276 rfl (fun x287 => ?_)
  refine q_if_eq (tgt := 51) dX1_hearToIn_42 (by decide) (fun c288 => ?_) (fun c288 => ?_)
  ·
    exact q_vret dX1_hearToIn_51 rfl ⟨rfl, hok, rfl⟩
  ·
    refine q_aload_n dX1_hearToIn_45 rfl ?_
    refine q_aload_n dX1_hearToIn_46 rfl ?_
    refine q_iload_n dX1_hearToIn_47 rfl ?_
    refine t_callV (M' := mX1_askGroup) [.ref a1, .int (nI a2)] [] kX1 dX1_hearToIn_48 wPX1_106v wIX1_askGroup wSX1_askGroup iX1_askGroup oX1_askGroup rfl hok gu274 (sX1_askGroup Sc Γ n b0 b1 (a2) (by omega)) (Nat.le_of_ble_eq_true rfl) (Nat.le_of_ble_eq_true rfl) (Nat.le_of_ble_eq_true rfl) (Nat.le_of_ble_eq_true rfl) (Nat.le_of_ble_eq_true rfl) rfl (fun v289 h qv289 hok => ?_) (fun e290 h qe290 hok => absurd qe290 (by intro q; cases q))
    obtain rfl := Sum.inl.inj qv289
    exact q_vret dX1_hearToIn_51 rfl ⟨rfl, hok, rfl⟩
set_option maxRecDepth 20000 in
set_option maxHeartbeats 4000000 in
theorem sX1_hearToEx (Sc : q_S) (Γ : Nat → q_K) (n : Nat) {a0 : Nat} (b0 : kLk Γ a0) {a1 : Nat} (b1 : kLg Γ a1) (a2 : Nat) (b2 : a2 < 8) (a3 : Int32) : q_safe Sc Γ mX1_hearToEx [.ref a0, .ref a1, .int (nI a2), .int (a3)] n 0 0 (q_RV) := by
  intro h hok
  show q_A Sc mX1_hearToEx 0 [.ref a0, .ref a1, .int (nI a2), .int (a3), .retAddr 0, .retAddr 0] [] h n 0 0 (fun O h' n' => (q_RV) O ∧ q_ok Γ h' ∧ n' = n)
  refine q_aload_n dX1_hearToEx_0 rfl ?_
  obtain ⟨pu291, qu291, ru291, su291, gu291, au291, bu291, cu291, du291, eu291, fu291⟩ := id b0
  refine t_getr 1 kX1 (by decide) wPX1_11 dX1_hearToEx_1 hok gu291 rfl ?_
  refine q_iload_n dX1_hearToEx_4 rfl ?_
  refine t_aald "GroupFilters$Filter" dX1_hearToEx_5 hok au291 rfl (by rw [bu291]; exact vp_in_nI (by omega) (by omega)) (fun p292 hp292 => ?_)
  have kp292 := cu291 _ _ hp292
  refine q_astore dX1_hearToEx_6 (by decide) ?_
  refine q_aload dX1_hearToEx_8 rfl ?_
  refine q_iload_n dX1_hearToEx_10 rfl ?_
  obtain ⟨tu293, gu293, au293⟩ := id kp292
  refine t_callV (M' := mX0_doubted) [.int (a3)] [] kX0 dX1_hearToEx_11 wPX1_110v wIX0_doubted wSX0_doubted iX0_doubted oX0_doubted rfl hok gu293 (sX0_doubted Sc Γ n kp292 (a3)) (Nat.le_of_ble_eq_true rfl) (Nat.le_of_ble_eq_true rfl) (Nat.le_of_ble_eq_true rfl) (Nat.le_of_ble_eq_true rfl) (Nat.le_of_ble_eq_true rfl) rfl (fun v294 h qv294 hok => ?_) (fun e295 h qe295 hok => absurd qe295 (by intro q; obtain ⟨_, q⟩ := q; cases q))
  obtain ⟨x296, qx296⟩ := qv294
  obtain rfl := Sum.inl.inj qx296
  refine t_istore [.ref a0, .ref a1, .int (nI a2), .int (a3), .ref p292.2, .int (x296)] (Or.inr ⟨rfl, dX1_hearToEx_14⟩) (by decide) rfl ?_
  refine q_aload dX1_hearToEx_16 rfl ?_
  refine q_iload_n dX1_hearToEx_18 rfl ?_
  refine q_aload dX1_hearToEx_19 rfl ?_
  refine t_geti 4 kX0 (by decide) wPX1_114 dX1_hearToEx_21 hok gu293 rfl (fun x297 => ?_)
  refine q_aload_n dX1_hearToEx_24 rfl ?_
  refine t_callV (M' := mX1_grace) [] [.int (x297), .int (a3), .ref p292.2] kX1 dX1_hearToEx_25 wPX1_76v wIX1_grace wSX1_grace iX1_grace oX1_grace rfl hok gu291 (sX1_grace Sc Γ n b0) (Nat.le_of_ble_eq_true rfl) (Nat.le_of_ble_eq_true rfl) (Nat.le_of_ble_eq_true rfl) (Nat.le_of_ble_eq_true rfl) (Nat.le_of_ble_eq_true rfl) rfl (fun v298 h qv298 hok => ?_) (fun e299 h qe299 hok => absurd qe299 (by intro q; obtain ⟨_, q⟩ := q; cases q))
  obtain ⟨x300, qx300⟩ := qv298
  obtain rfl := Sum.inl.inj qx300
  refine t_callV (M' := mX0_exclude) [.int (a3), .int (x297), .int (x300)] [] kX0 dX1_hearToEx_28 wPX1_79v wIX0_exclude wSX0_exclude iX0_exclude oX0_exclude rfl hok gu293 (sX0_exclude Sc Γ n kp292 (a3) (x297) (x300)) (Nat.le_of_ble_eq_true rfl) (Nat.le_of_ble_eq_true rfl) (Nat.le_of_ble_eq_true rfl) (Nat.le_of_ble_eq_true rfl) (Nat.le_of_ble_eq_true rfl) rfl (fun v301 h qv301 hok => ?_) (fun e302 h qe302 hok => absurd qe302 (by intro q; cases q))
  obtain rfl := Sum.inl.inj qv301
  refine q_aload_n dX1_hearToEx_31 rfl ?_
  refine q_aload_n dX1_hearToEx_32 rfl ?_
  refine q_iload_n dX1_hearToEx_33 rfl ?_
  refine q_iload dX1_hearToEx_34 rfl ?_
  refine t_callV (M' := mX1_askSources) [.ref a1, .int (nI a2), .int (x296)] [] kX1 dX1_hearToEx_36 wPX1_99v wIX1_askSources wSX1_askSources iX1_askSources oX1_askSources rfl hok gu291 (sX1_askSources Sc Γ n b0 b1 (a2) (by omega) (x296)) (Nat.le_of_ble_eq_true rfl) (Nat.le_of_ble_eq_true rfl) (Nat.le_of_ble_eq_true rfl) (Nat.le_of_ble_eq_true rfl) (Nat.le_of_ble_eq_true rfl) rfl (fun v303 h qv303 hok => ?_) (fun e304 h qe304 hok => absurd qe304 (by intro q; cases q))
  obtain rfl := Sum.inl.inj qv303
  exact q_vret dX1_hearToEx_39 rfl ⟨rfl, hok, rfl⟩
set_option maxRecDepth 20000 in
set_option maxHeartbeats 4000000 in
theorem sX1_hearBlock (Sc : q_S) (Γ : Nat → q_K) (n : Nat) {a0 : Nat} (b0 : kLk Γ a0) {a1 : Nat} (b1 : kLg Γ a1) (a2 : Nat) (b2 : a2 < 8) (a3 : Int32) : q_safe Sc Γ mX1_hearBlock [.ref a0, .ref a1, .int (nI a2), .int (a3)] n 0 0 (q_RV) := by
  intro h hok
  show q_A Sc mX1_hearBlock 0 [.ref a0, .ref a1, .int (nI a2), .int (a3), .retAddr 0, .retAddr 0] [] h n 0 0 (fun O h' n' => (q_RV) O ∧ q_ok Γ h' ∧ n' = n)
  refine q_aload_n dX1_hearBlock_0 rfl ?_
  obtain ⟨pu305, qu305, ru305, su305, gu305, au305, bu305, cu305, du305, eu305, fu305⟩ := id b0
  refine t_getr 1 kX1 (by decide) wPX1_11 dX1_hearBlock_1 hok gu305 rfl ?_
  refine q_iload_n dX1_hearBlock_4 rfl ?_
  refine t_aald "GroupFilters$Filter" dX1_hearBlock_5 hok au305 rfl (by rw [bu305]; exact vp_in_nI (by omega) (by omega)) (fun p306 hp306 => ?_)
  have kp306 := cu305 _ _ hp306
  refine q_astore dX1_hearBlock_6 (by decide) ?_
  refine q_aload dX1_hearBlock_8 rfl ?_
  refine q_iload_n dX1_hearBlock_10 rfl ?_
  obtain ⟨tu307, gu307, au307⟩ := id kp306
  refine t_callV (M' := mX0_doubted) [.int (a3)] [] kX0 dX1_hearBlock_11 wPX1_110v wIX0_doubted wSX0_doubted iX0_doubted oX0_doubted rfl hok gu307 (sX0_doubted Sc Γ n kp306 (a3)) (Nat.le_of_ble_eq_true rfl) (Nat.le_of_ble_eq_true rfl) (Nat.le_of_ble_eq_true rfl) (Nat.le_of_ble_eq_true rfl) (Nat.le_of_ble_eq_true rfl) rfl (fun v308 h qv308 hok => ?_) (fun e309 h qe309 hok => absurd qe309 (by intro q; obtain ⟨_, q⟩ := q; cases q))
  obtain ⟨x310, qx310⟩ := qv308
  obtain rfl := Sum.inl.inj qx310
  refine t_istore [.ref a0, .ref a1, .int (nI a2), .int (a3), .ref p306.2, .int (x310)] (Or.inr ⟨rfl, dX1_hearBlock_14⟩) (by decide) rfl ?_
  refine q_aload dX1_hearBlock_16 rfl ?_
  refine q_iload_n dX1_hearBlock_18 rfl ?_
  refine t_callV (M' := mX0_block) [.int (a3)] [] kX0 dX1_hearBlock_19 wPX1_117v wIX0_block wSX0_block iX0_block oX0_block rfl hok gu307 (sX0_block Sc Γ n kp306 (a3)) (Nat.le_of_ble_eq_true rfl) (Nat.le_of_ble_eq_true rfl) (Nat.le_of_ble_eq_true rfl) (Nat.le_of_ble_eq_true rfl) (Nat.le_of_ble_eq_true rfl) rfl (fun v311 h qv311 hok => ?_) (fun e312 h qe312 hok => absurd qe312 (by intro q; cases q))
  obtain rfl := Sum.inl.inj qv311
  refine q_aload_n dX1_hearBlock_22 rfl ?_
  refine q_aload_n dX1_hearBlock_23 rfl ?_
  refine q_iload_n dX1_hearBlock_24 rfl ?_
  refine q_iload dX1_hearBlock_25 rfl ?_
  refine t_callV (M' := mX1_askSources) [.ref a1, .int (nI a2), .int (x310)] [] kX1 dX1_hearBlock_27 wPX1_99v wIX1_askSources wSX1_askSources iX1_askSources oX1_askSources rfl hok gu305 (sX1_askSources Sc Γ n b0 b1 (a2) (by omega) (x310)) (Nat.le_of_ble_eq_true rfl) (Nat.le_of_ble_eq_true rfl) (Nat.le_of_ble_eq_true rfl) (Nat.le_of_ble_eq_true rfl) (Nat.le_of_ble_eq_true rfl) rfl (fun v313 h qv313 hok => ?_) (fun e314 h qe314 hok => absurd qe314 (by intro q; cases q))
  obtain rfl := Sum.inl.inj qv313
  exact q_vret dX1_hearBlock_30 rfl ⟨rfl, hok, rfl⟩
set_option maxRecDepth 20000 in
set_option maxHeartbeats 4000000 in
theorem sX1_hearReport (Sc : q_S) (Γ : Nat → q_K) (n : Nat) {a0 : Nat} (b0 : kLk Γ a0) {a1 : Nat} (b1 : kLg Γ a1) (a2 : Nat) (b2 : a2 < 8) (a3 : Int32) (a4 : Int32) : q_safe Sc Γ mX1_hearReport [.ref a0, .ref a1, .int (nI a2), .int (a3), .int (a4)] n 0 0 (q_RV) := by
  intro h hok
  show q_A Sc mX1_hearReport 0 [.ref a0, .ref a1, .int (nI a2), .int (a3), .int (a4)] [] h n 0 0 (fun O h' n' => (q_RV) O ∧ q_ok Γ h' ∧ n' = n)
  refine q_iload_n dX1_hearReport_0 rfl ?_
  rcases q_sw a3 1 5 (by decide) with hw315 | ⟨jw315, hw315, ew315⟩
  ·
    refine q_tableOut (tgt := 91) dX1_hearReport_1 (by simpa using hw315) (by decide) ?_
    refine q_aload_n dX1_hearReport_91 rfl ?_
    obtain ⟨pu316, qu316, ru316, su316, gu316, au316, bu316, cu316, du316, eu316, fu316⟩ := id b0
    refine t_getr 1 kX1 (by decide) wPX1_11 dX1_hearReport_92 hok gu316 rfl ?_
    refine q_iload_n dX1_hearReport_95 rfl ?_
    refine t_aald "GroupFilters$Filter" dX1_hearReport_96 hok au316 rfl (by rw [bu316]; exact vp_in_nI (by omega) (by omega)) (fun p317 hp317 => ?_)
    have kp317 := cu316 _ _ hp317
    refine q_iload dX1_hearReport_97 rfl ?_
    refine q_aload_n dX1_hearReport_99 rfl ?_
    refine t_callV (M' := mX1_grace) [] [.int (a4), .ref p317.2] kX1 dX1_hearReport_100 wPX1_76v wIX1_grace wSX1_grace iX1_grace oX1_grace rfl hok gu316 (sX1_grace Sc Γ n b0) (Nat.le_of_ble_eq_true rfl) (Nat.le_of_ble_eq_true rfl) (Nat.le_of_ble_eq_true rfl) (Nat.le_of_ble_eq_true rfl) (Nat.le_of_ble_eq_true rfl) rfl (fun v318 h qv318 hok => ?_) (fun e319 h qe319 hok => absurd qe319 (by intro q; obtain ⟨_, q⟩ := q; cases q))
    obtain ⟨x320, qx320⟩ := qv318
    obtain rfl := Sum.inl.inj qx320
    obtain ⟨tu321, gu321, au321⟩ := id kp317
    refine t_callV (M' := mX0_allow) [.int (a4), .int (x320)] [] kX0 dX1_hearReport_103 wPX1_92v wIX0_allow wSX0_allow iX0_allow oX0_allow rfl hok gu321 (sX0_allow Sc Γ n kp317 (a4) (x320)) (Nat.le_of_ble_eq_true rfl) (Nat.le_of_ble_eq_true rfl) (Nat.le_of_ble_eq_true rfl) (Nat.le_of_ble_eq_true rfl) (Nat.le_of_ble_eq_true rfl) rfl (fun v322 h qv322 hok => ?_) (fun e323 h qe323 hok => absurd qe323 (by intro q; cases q))
    obtain rfl := Sum.inl.inj qv322
    exact q_vret dX1_hearReport_106 rfl ⟨rfl, hok, rfl⟩
  ·
    rcases (show jw315 = 0 ∨ jw315 = 1 ∨ jw315 = 2 ∨ jw315 = 3 ∨ jw315 = 4 by omega) with rfl | rfl | rfl | rfl | rfl
    ·
      refine q_tableIn (off := 35) (tgt := 36) dX1_hearReport_1 (by rw [ew315]; decide) (by rw [ew315]; decide) (by rw [ew315]; rfl) (by decide) ?_
      refine q_aload_n dX1_hearReport_36 rfl ?_
      obtain ⟨pu324, qu324, ru324, su324, gu324, au324, bu324, cu324, du324, eu324, fu324⟩ := id b0
      refine t_getr 1 kX1 (by decide) wPX1_11 dX1_hearReport_37 hok gu324 rfl ?_
      refine q_iload_n dX1_hearReport_40 rfl ?_
      refine t_aald "GroupFilters$Filter" dX1_hearReport_41 hok au324 rfl (by rw [bu324]; exact vp_in_nI (by omega) (by omega)) (fun p325 hp325 => ?_)
      have kp325 := cu324 _ _ hp325
      refine q_iload dX1_hearReport_42 rfl ?_
      refine q_aload_n dX1_hearReport_44 rfl ?_
      refine t_callV (M' := mX1_grace) [] [.int (a4), .ref p325.2] kX1 dX1_hearReport_45 wPX1_76v wIX1_grace wSX1_grace iX1_grace oX1_grace rfl hok gu324 (sX1_grace Sc Γ n b0) (Nat.le_of_ble_eq_true rfl) (Nat.le_of_ble_eq_true rfl) (Nat.le_of_ble_eq_true rfl) (Nat.le_of_ble_eq_true rfl) (Nat.le_of_ble_eq_true rfl) rfl (fun v326 h qv326 hok => ?_) (fun e327 h qe327 hok => absurd qe327 (by intro q; obtain ⟨_, q⟩ := q; cases q))
      obtain ⟨x328, qx328⟩ := qv326
      obtain rfl := Sum.inl.inj qx328
      refine q_aload_n dX1_hearReport_48 rfl ?_
      refine t_callV (M' := mX1_grace) [] [.int (x328), .int (a4), .ref p325.2] kX1 dX1_hearReport_49 wPX1_76v wIX1_grace wSX1_grace iX1_grace oX1_grace rfl hok gu324 (sX1_grace Sc Γ n b0) (Nat.le_of_ble_eq_true rfl) (Nat.le_of_ble_eq_true rfl) (Nat.le_of_ble_eq_true rfl) (Nat.le_of_ble_eq_true rfl) (Nat.le_of_ble_eq_true rfl) rfl (fun v329 h qv329 hok => ?_) (fun e330 h qe330 hok => absurd qe330 (by intro q; obtain ⟨_, q⟩ := q; cases q))
      obtain ⟨x331, qx331⟩ := qv329
      obtain rfl := Sum.inl.inj qx331
      obtain ⟨tu332, gu332, au332⟩ := id kp325
      refine t_callV (M' := mX0_exclude) [.int (a4), .int (x328), .int (x331)] [] kX0 dX1_hearReport_52 wPX1_79v wIX0_exclude wSX0_exclude iX0_exclude oX0_exclude rfl hok gu332 (sX0_exclude Sc Γ n kp325 (a4) (x328) (x331)) (Nat.le_of_ble_eq_true rfl) (Nat.le_of_ble_eq_true rfl) (Nat.le_of_ble_eq_true rfl) (Nat.le_of_ble_eq_true rfl) (Nat.le_of_ble_eq_true rfl) rfl (fun v333 h qv333 hok => ?_) (fun e334 h qe334 hok => absurd qe334 (by intro q; cases q))
      obtain rfl := Sum.inl.inj qv333
      refine q_goto (tgt := 106) dX1_hearReport_55 (by decide) ?_
      exact q_vret dX1_hearReport_106 rfl ⟨rfl, hok, rfl⟩
    ·
      refine q_tableIn (off := 57) (tgt := 58) dX1_hearReport_1 (by rw [ew315]; decide) (by rw [ew315]; decide) (by rw [ew315]; rfl) (by decide) ?_
      refine q_aload_n dX1_hearReport_58 rfl ?_
      refine q_aload_n dX1_hearReport_59 rfl ?_
      refine q_iload_n dX1_hearReport_60 rfl ?_
      refine q_iload dX1_hearReport_61 rfl ?_
      obtain ⟨pu335, qu335, ru335, su335, gu335, au335, bu335, cu335, du335, eu335, fu335⟩ := id b0
      refine t_callV (M' := mX1_hearToIn) [.ref a1, .int (nI a2), .int (a4)] [] kX1 dX1_hearReport_63 wPX1_82v wIX1_hearToIn wSX1_hearToIn iX1_hearToIn oX1_hearToIn rfl hok gu335 (sX1_hearToIn Sc Γ n b0 b1 (a2) (by omega) (a4)) (Nat.le_of_ble_eq_true rfl) (Nat.le_of_ble_eq_true rfl) (Nat.le_of_ble_eq_true rfl) (Nat.le_of_ble_eq_true rfl) (Nat.le_of_ble_eq_true rfl) rfl (fun v336 h qv336 hok => ?_) (fun e337 h qe337 hok => absurd qe337 (by intro q; cases q))
      obtain rfl := Sum.inl.inj qv336
      refine q_goto (tgt := 106) dX1_hearReport_66 (by decide) ?_
      exact q_vret dX1_hearReport_106 rfl ⟨rfl, hok, rfl⟩
    ·
      refine q_tableIn (off := 68) (tgt := 69) dX1_hearReport_1 (by rw [ew315]; decide) (by rw [ew315]; decide) (by rw [ew315]; rfl) (by decide) ?_
      refine q_aload_n dX1_hearReport_69 rfl ?_
      refine q_aload_n dX1_hearReport_70 rfl ?_
      refine q_iload_n dX1_hearReport_71 rfl ?_
      refine q_iload dX1_hearReport_72 rfl ?_
      obtain ⟨pu338, qu338, ru338, su338, gu338, au338, bu338, cu338, du338, eu338, fu338⟩ := id b0
      refine t_callV (M' := mX1_hearToEx) [.ref a1, .int (nI a2), .int (a4)] [] kX1 dX1_hearReport_74 wPX1_86v wIX1_hearToEx wSX1_hearToEx iX1_hearToEx oX1_hearToEx rfl hok gu338 (sX1_hearToEx Sc Γ n b0 b1 (a2) (by omega) (a4)) (Nat.le_of_ble_eq_true rfl) (Nat.le_of_ble_eq_true rfl) (Nat.le_of_ble_eq_true rfl) (Nat.le_of_ble_eq_true rfl) (Nat.le_of_ble_eq_true rfl) rfl (fun v339 h qv339 hok => ?_) (fun e340 h qe340 hok => absurd qe340 (by intro q; cases q))
      obtain rfl := Sum.inl.inj qv339
      refine q_goto (tgt := 106) dX1_hearReport_77 (by decide) ?_
      exact q_vret dX1_hearReport_106 rfl ⟨rfl, hok, rfl⟩
    ·
      refine q_tableIn (off := 90) (tgt := 91) dX1_hearReport_1 (by rw [ew315]; decide) (by rw [ew315]; decide) (by rw [ew315]; rfl) (by decide) ?_
      refine q_aload_n dX1_hearReport_91 rfl ?_
      obtain ⟨pu341, qu341, ru341, su341, gu341, au341, bu341, cu341, du341, eu341, fu341⟩ := id b0
      refine t_getr 1 kX1 (by decide) wPX1_11 dX1_hearReport_92 hok gu341 rfl ?_
      refine q_iload_n dX1_hearReport_95 rfl ?_
      refine t_aald "GroupFilters$Filter" dX1_hearReport_96 hok au341 rfl (by rw [bu341]; exact vp_in_nI (by omega) (by omega)) (fun p342 hp342 => ?_)
      have kp342 := cu341 _ _ hp342
      refine q_iload dX1_hearReport_97 rfl ?_
      refine q_aload_n dX1_hearReport_99 rfl ?_
      refine t_callV (M' := mX1_grace) [] [.int (a4), .ref p342.2] kX1 dX1_hearReport_100 wPX1_76v wIX1_grace wSX1_grace iX1_grace oX1_grace rfl hok gu341 (sX1_grace Sc Γ n b0) (Nat.le_of_ble_eq_true rfl) (Nat.le_of_ble_eq_true rfl) (Nat.le_of_ble_eq_true rfl) (Nat.le_of_ble_eq_true rfl) (Nat.le_of_ble_eq_true rfl) rfl (fun v343 h qv343 hok => ?_) (fun e344 h qe344 hok => absurd qe344 (by intro q; obtain ⟨_, q⟩ := q; cases q))
      obtain ⟨x345, qx345⟩ := qv343
      obtain rfl := Sum.inl.inj qx345
      obtain ⟨tu346, gu346, au346⟩ := id kp342
      refine t_callV (M' := mX0_allow) [.int (a4), .int (x345)] [] kX0 dX1_hearReport_103 wPX1_92v wIX0_allow wSX0_allow iX0_allow oX0_allow rfl hok gu346 (sX0_allow Sc Γ n kp342 (a4) (x345)) (Nat.le_of_ble_eq_true rfl) (Nat.le_of_ble_eq_true rfl) (Nat.le_of_ble_eq_true rfl) (Nat.le_of_ble_eq_true rfl) (Nat.le_of_ble_eq_true rfl) rfl (fun v347 h qv347 hok => ?_) (fun e348 h qe348 hok => absurd qe348 (by intro q; cases q))
      obtain rfl := Sum.inl.inj qv347
      exact q_vret dX1_hearReport_106 rfl ⟨rfl, hok, rfl⟩
    ·
      refine q_tableIn (off := 79) (tgt := 80) dX1_hearReport_1 (by rw [ew315]; decide) (by rw [ew315]; decide) (by rw [ew315]; rfl) (by decide) ?_
      refine q_aload_n dX1_hearReport_80 rfl ?_
      refine q_aload_n dX1_hearReport_81 rfl ?_
      refine q_iload_n dX1_hearReport_82 rfl ?_
      refine q_iload dX1_hearReport_83 rfl ?_
      obtain ⟨pu349, qu349, ru349, su349, gu349, au349, bu349, cu349, du349, eu349, fu349⟩ := id b0
      refine t_callV (M' := mX1_hearBlock) [.ref a1, .int (nI a2), .int (a4)] [] kX1 dX1_hearReport_85 wPX1_89v wIX1_hearBlock wSX1_hearBlock iX1_hearBlock oX1_hearBlock rfl hok gu349 (sX1_hearBlock Sc Γ n b0 b1 (a2) (by omega) (a4)) (Nat.le_of_ble_eq_true rfl) (Nat.le_of_ble_eq_true rfl) (Nat.le_of_ble_eq_true rfl) (Nat.le_of_ble_eq_true rfl) (Nat.le_of_ble_eq_true rfl) rfl (fun v350 h qv350 hok => ?_) (fun e351 h qe351 hok => absurd qe351 (by intro q; cases q))
      obtain rfl := Sum.inl.inj qv350
      refine q_goto (tgt := 106) dX1_hearReport_88 (by decide) ?_
      exact q_vret dX1_hearReport_106 rfl ⟨rfl, hok, rfl⟩
set_option maxRecDepth 20000 in
set_option maxHeartbeats 4000000 in
theorem sX1_hearQuery (Sc : q_S) (Γ : Nat → q_K) (n : Nat) {a0 : Nat} (b0 : kLk Γ a0) (a1 : Nat) (b1 : a1 < 8) (a2 : Int32) : q_safe Sc Γ mX1_hearQuery [.ref a0, .int (nI a1), .int (a2)] n 0 0 (q_RV) := by
  intro h hok
  show q_A Sc mX1_hearQuery 0 [.ref a0, .int (nI a1), .int (a2)] [] h n 0 0 (fun O h' n' => (q_RV) O ∧ q_ok Γ h' ∧ n' = n)
  refine q_iload_n dX1_hearQuery_0 rfl ?_
  refine q_if_ne (tgt := 20) dX1_hearQuery_1 (by decide) (fun c352 => ?_) (fun c352 => ?_)
  ·
    refine q_aload_n dX1_hearQuery_20 rfl ?_
    obtain ⟨pu353, qu353, ru353, su353, gu353, au353, bu353, cu353, du353, eu353, fu353⟩ := id b0
    refine t_getr 1 kX1 (by decide) wPX1_11 dX1_hearQuery_21 hok gu353 rfl ?_
    refine q_iload_n dX1_hearQuery_24 rfl ?_
    refine t_aald "GroupFilters$Filter" dX1_hearQuery_25 hok au353 rfl (by rw [bu353]; exact vp_in_nI (by omega) (by omega)) (fun p354 hp354 => ?_)
    have kp354 := cu353 _ _ hp354
    refine q_iload_n dX1_hearQuery_26 rfl ?_
    refine q_aload_n dX1_hearQuery_27 rfl ?_
    refine t_callV (M' := mX1_last) [] [.int (a2), .ref p354.2] kX1 dX1_hearQuery_28 wPX1_120v wIX1_last wSX1_last iX1_last oX1_last rfl hok gu353 (sX1_last Sc Γ n b0) (Nat.le_of_ble_eq_true rfl) (Nat.le_of_ble_eq_true rfl) (Nat.le_of_ble_eq_true rfl) (Nat.le_of_ble_eq_true rfl) (Nat.le_of_ble_eq_true rfl) rfl (fun v355 h qv355 hok => ?_) (fun e356 h qe356 hok => absurd qe356 (by intro q; obtain ⟨_, q⟩ := q; cases q))
    obtain ⟨x357, qx357⟩ := qv355
    obtain rfl := Sum.inl.inj qx357
    obtain ⟨tu358, gu358, au358⟩ := id kp354
    refine t_callV (M' := mX0_lowerTimers) [.int (a2), .int (x357)] [] kX0 dX1_hearQuery_31 wPX1_123v wIX0_lowerTimers wSX0_lowerTimers iX0_lowerTimers oX0_lowerTimers rfl hok gu358 (sX0_lowerTimers Sc Γ n kp354 (a2) (x357)) (Nat.le_of_ble_eq_true rfl) (Nat.le_of_ble_eq_true rfl) (Nat.le_of_ble_eq_true rfl) (Nat.le_of_ble_eq_true rfl) (Nat.le_of_ble_eq_true rfl) rfl (fun v359 h qv359 hok => ?_) (fun e360 h qe360 hok => absurd qe360 (by intro q; cases q))
    obtain rfl := Sum.inl.inj qv359
    exact q_vret dX1_hearQuery_34 rfl ⟨rfl, hok, rfl⟩
  ·
    refine q_aload_n dX1_hearQuery_4 rfl ?_
    obtain ⟨pu361, qu361, ru361, su361, gu361, au361, bu361, cu361, du361, eu361, fu361⟩ := id b0
    refine t_getr 1 kX1 (by decide) wPX1_11 dX1_hearQuery_5 hok gu361 rfl ?_
    refine q_iload_n dX1_hearQuery_8 rfl ?_
    refine t_aald "GroupFilters$Filter" dX1_hearQuery_9 hok au361 rfl (by rw [bu361]; exact vp_in_nI (by omega) (by omega)) (fun p362 hp362 => ?_)
    have kp362 := cu361 _ _ hp362
    refine q_aload_n dX1_hearQuery_10 rfl ?_
    refine t_callV (M' := mX1_last) [] [.ref p362.2] kX1 dX1_hearQuery_11 wPX1_120v wIX1_last wSX1_last iX1_last oX1_last rfl hok gu361 (sX1_last Sc Γ n b0) (Nat.le_of_ble_eq_true rfl) (Nat.le_of_ble_eq_true rfl) (Nat.le_of_ble_eq_true rfl) (Nat.le_of_ble_eq_true rfl) (Nat.le_of_ble_eq_true rfl) rfl (fun v363 h qv363 hok => ?_) (fun e364 h qe364 hok => absurd qe364 (by intro q; obtain ⟨_, q⟩ := q; cases q))
    obtain ⟨x365, qx365⟩ := qv363
    obtain rfl := Sum.inl.inj qx365
    obtain ⟨tu366, gu366, au366⟩ := id kp362
    refine t_callV (M' := mX0_lowerOwnTimer) [.int (x365)] [] kX0 dX1_hearQuery_14 wPX1_126v wIX0_lowerOwnTimer wSX0_lowerOwnTimer iX0_lowerOwnTimer oX0_lowerOwnTimer rfl hok gu366 (sX0_lowerOwnTimer Sc Γ n kp362 (x365)) (Nat.le_of_ble_eq_true rfl) (Nat.le_of_ble_eq_true rfl) (Nat.le_of_ble_eq_true rfl) (Nat.le_of_ble_eq_true rfl) (Nat.le_of_ble_eq_true rfl) rfl (fun v367 h qv367 hok => ?_) (fun e368 h qe368 hok => absurd qe368 (by intro q; cases q))
    obtain rfl := Sum.inl.inj qv367
    refine q_goto (tgt := 34) dX1_hearQuery_17 (by decide) ?_
    exact q_vret dX1_hearQuery_34 rfl ⟨rfl, hok, rfl⟩
