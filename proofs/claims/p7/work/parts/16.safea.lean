def q_RC0 (a b : Int32) : q_O → Prop := fun O => (O = .inl none ∧ ¬ a < 0 ∧ ¬ b ≤ a) ∨ O = .inr 0
def q_RC1 (a b c : Int32) : q_O → Prop := fun O => (O = .inl none ∧ ¬ a < b ∧ ¬ c < a) ∨ O = .inr 1
theorem q_RC0.v {a b : Int32} {v : Option Value} (h : q_RC0 a b (.inl v)) : v = none ∧ ¬ a < 0 ∧ ¬ b ≤ a := by
  rcases h with ⟨h, h2⟩ | h
  · exact ⟨Sum.inl.inj h, h2⟩
  · cases h
theorem q_RC0.x {a b : Int32} {v : Nat} (h : q_RC0 a b (.inr v)) : v = 0 := by
  rcases h with ⟨h, h2⟩ | h
  · cases h
  · exact Sum.inr.inj h
theorem q_RC1.v {a b c : Int32} {v : Option Value} (h : q_RC1 a b c (.inl v)) : v = none ∧ ¬ a < b ∧ ¬ c < a := by
  rcases h with ⟨h, h2⟩ | h
  · exact ⟨Sum.inl.inj h, h2⟩
  · cases h
theorem q_RC1.x {a b c : Int32} {v : Nat} (h : q_RC1 a b c (.inr v)) : v = 1 := by
  rcases h with ⟨h, h2⟩ | h
  · cases h
  · exact Sum.inr.inj h
def q_XI (k : Nat → Prop) : q_O → Prop := fun O => (∃ x, O = .inl (some (.int x))) ∨ ∃ x, O = .inr x ∧ k x
def q_XB (k : Nat → Prop) : q_O → Prop := fun O => (∃ x, O = .inl (some (.int x)) ∧ q_bl x) ∨ ∃ x, O = .inr x ∧ k x
theorem t_out {Sc : q_S} {M : q_M} {pc : Nat} {L : List Value} {h : q_H} {n kc ks x : Nat} {Q : q_O → q_H → Nat → Prop} (hh : q_hs M = []) (hq : Q (.inr x) h n) : q_Th Sc M pc L h n kc ks Q x := by
  unfold q_Th q_hf
  rw [hh]
  exact ⟨fun r hr => (nomatch hr), hq⟩
theorem q_chk {a : Int32} {B : Nat} (hB : B < 2 ^ 31) (h1 : ¬ a < 0) (h2 : ¬ nI B ≤ a) : ∃ g, g < B ∧ a = nI g := by
  rcases pk_ix a hB with h | h | ⟨j, h, e⟩
  · exact absurd h h1
  · exact absurd h h2
  · exact ⟨j, h, e⟩
def q_wk : List Value → List Value → Prop
  | [], _ => True
  | a :: r, b :: s => (a = b ∨ ∃ k, a = .retAddr k) ∧ q_wk r s
  | _ :: _, [] => False
theorem q_wk.at : ∀ {L' L : List Value}, q_wk L' L → ∀ {i : Nat} {v : Value}, L'[i]? = some v → (∃ k, v = .retAddr k) ∨ L[i]? = some v
  | [], _, _, i, v, h => by simp at h
  | _ :: _, _ :: _, ⟨h1, h2⟩, i, v, h => by
    cases i with
    | zero =>
      rw [List.getElem?_cons_zero] at h
      cases h
      rcases h1 with rfl | h1
      · exact Or.inr rfl
      · exact Or.inl h1
    | succ i =>
      rw [List.getElem?_cons_succ] at h
      rw [List.getElem?_cons_succ]
      exact q_wk.at h2 h
theorem q_weak {Sc : q_S} {M : q_M} {pc : Nat} {L st : List Value} {h : q_H} {n kc ks : Nat} {Q : q_O → q_H → Nat → Prop} (L' : List Value) (hw : q_wk L' L) (k : q_A Sc M pc L' st h n kc ks Q) : q_A Sc M pc L st h n kc ks Q := by
  intro D dT H0 p l e R s m args below meth c H locs cells slots ls st' sb ws ads0 kc' ks' g
  obtain ⟨hF, hW, hL, hr⟩ := g
  refine k D dT H0 p l e R s m args below meth c H locs cells slots ls st' sb ws ads0 kc' ks' ⟨hF, hW, ⟨hL.1, hL.2.1, fun i v hv => ?_⟩, hr⟩
  rcases hw.at hv with h1 | h1
  · exact Or.inl h1
  · exact hL.2.2 i v h1
theorem q_sw (x : Int32) (lo : Int) (n : Nat) (_ : n < 100) : (x.toInt < lo ∨ lo + n - 1 < x.toInt) ∨ ∃ j : Nat, j < n ∧ x.toInt = lo + j := by
  by_cases h1 : x.toInt < lo
  · exact Or.inl (Or.inl h1)
  · by_cases h2 : lo + n - 1 < x.toInt
    · exact Or.inl (Or.inr h2)
    · exact Or.inr ⟨(x.toInt - lo).toNat, by omega, by omega⟩

set_option maxRecDepth 20000 in
set_option maxHeartbeats 4000000 in
theorem sX4_holds (Sc : q_S) (Γ : Nat → q_K) (n : Nat) (a0 : Int32) (a1 : Int32) : q_safe Sc Γ mX4_holds [.int (a0), .int (a1)] n 0 0 (q_RB) := by
  intro h hok
  show q_A Sc mX4_holds 0 [.int (a0), .int (a1)] [] h n 0 0 (fun O h' n' => (q_RB) O ∧ q_ok Γ h' ∧ n' = n)
  refine q_iload_n dX4_holds_0 rfl ?_
  refine q_iload_n dX4_holds_1 rfl ?_
  refine q_ishr dX4_holds_2 ?_
  generalize (a0) >>> ((a1) &&& 31) = z1
  refine q_iconst (v := nI 1) dX4_holds_3 rfl ?_
  refine q_iand dX4_holds_4 ?_
  generalize (z1) &&& (nI 1) = z2
  refine q_if_eq (tgt := 12) dX4_holds_5 (by decide) (fun c3 => ?_) (fun c3 => ?_)
  ·
    refine q_iconst (v := nI 0) dX4_holds_12 rfl ?_
    exact q_iret dX4_holds_13 rfl (rfl) ⟨⟨_, rfl, Or.inl rfl⟩, hok, rfl⟩
  ·
    refine q_iconst (v := nI 1) dX4_holds_8 rfl ?_
    refine q_goto (tgt := 13) dX4_holds_9 (by decide) ?_
    exact q_iret dX4_holds_13 rfl (rfl) ⟨⟨_, rfl, Or.inr rfl⟩, hok, rfl⟩
set_option maxRecDepth 20000 in
set_option maxHeartbeats 4000000 in
theorem sX0_include (Sc : q_S) (Γ : Nat → q_K) (n : Nat) {a0 : Nat} (b0 : kF Γ a0) : q_safe Sc Γ mX0_include [.ref a0] n 0 0 (q_RV) := by
  intro h hok
  show q_A Sc mX0_include 0 [.ref a0] [] h n 0 0 (fun O h' n' => (q_RV) O ∧ q_ok Γ h' ∧ n' = n)
  refine q_aload_n dX0_include_0 rfl ?_
  refine q_iconst (v := nI 0) dX0_include_1 rfl ?_
  obtain ⟨tu4, gu4, au4⟩ := id b0
  refine t_puti 1 kX0 (by decide) wPX0_27 rfl dX0_include_2 hok gu4 rfl ⟨rfl, rfl⟩ (fun h hok => ?_)
  refine q_aload_n dX0_include_5 rfl ?_
  refine q_iconst (v := nI 0) dX0_include_6 rfl ?_
  refine t_puti 3 kX0 (by decide) wPX0_31 rfl dX0_include_7 hok gu4 rfl ⟨rfl, rfl⟩ (fun h hok => ?_)
  refine q_aload_n dX0_include_10 rfl ?_
  refine q_iconst (v := nI 0) dX0_include_11 rfl ?_
  refine t_puti 4 kX0 (by decide) wPX0_38 rfl dX0_include_12 hok gu4 rfl ⟨rfl, rfl⟩ (fun h hok => ?_)
  exact q_vret dX0_include_15 rfl ⟨rfl, hok, rfl⟩
set_option maxRecDepth 20000 in
set_option maxHeartbeats 4000000 in
theorem sX0_setTimers (Sc : q_S) (Γ : Nat → q_K) (n : Nat) {a0 : Nat} (b0 : kF Γ a0) (a1 : Int32) (a2 : Int32) : q_safe Sc Γ mX0_setTimers [.ref a0, .int (a1), .int (a2)] n 0 0 (q_RV) := by
  intro h hok
  show q_A Sc mX0_setTimers 0 [.ref a0, .int (a1), .int (a2), .retAddr 0] [] h n 0 0 (fun O h' n' => (q_RV) O ∧ q_ok Γ h' ∧ n' = n)
  refine q_iconst (v := nI 0) dX0_setTimers_0 rfl ?_
  refine t_istore [.ref a0, .int (a1), .int (a2), .int (nI 0)] (Or.inl ⟨3, rfl, rfl, dX0_setTimers_1⟩) (by decide) rfl ?_
  obtain ⟨tu5, gu5, au5⟩ := id b0
  have hl6 : ∀ (d8 k7 : Nat) (h : q_H), k7 + d8 = 16 → q_ok Γ h → q_A Sc mX0_setTimers 2 [.ref a0, .int (a1), .int (a2), .int (nI k7)] [] h n 0 0 (fun O h' n' => (q_RV) O ∧ q_ok Γ h' ∧ n' = n) := by
    intro d8
    induction d8 with
    | zero =>
      intro k7  h el6 hok
      refine q_iload_n dX0_setTimers_2 rfl ?_
      refine q_bipush (v := nI 16) dX0_setTimers_3 rfl ?_
      refine t_icmp_ge_n (tgt := 29) (by omega) (by omega) dX0_setTimers_5 (by decide) (fun c9 => ?_) (fun c9 => ?_)
      rotate_left
      · exact absurd c9 (by omega)
      exact q_vret dX0_setTimers_29 rfl ⟨rfl, hok, rfl⟩
    | succ d8 ihl6 =>
      intro k7  h el6 hok
      refine q_iload_n dX0_setTimers_2 rfl ?_
      refine q_bipush (v := nI 16) dX0_setTimers_3 rfl ?_
      refine t_icmp_ge_n (tgt := 29) (by omega) (by omega) dX0_setTimers_5 (by decide) (fun c10 => ?_) (fun c10 => ?_)
      · exact absurd c10 (by omega)
      refine q_iload_n dX0_setTimers_8 rfl ?_
      refine q_iload_n dX0_setTimers_9 rfl ?_
      refine t_callS (M' := mX4_holds) [.int (a1), .int (nI k7)] [] dX0_setTimers_10 wPX0_34 wTX4_holds wNX4 iX4_holds oX4_holds rfl hok (sX4_holds Sc Γ n (a1) (nI k7)) (Nat.le_of_ble_eq_true rfl) (Nat.le_of_ble_eq_true rfl) (Nat.le_of_ble_eq_true rfl) (Nat.le_of_ble_eq_true rfl) (Nat.le_of_ble_eq_true rfl) rfl (fun v11 h qv11 hok => ?_) (fun e12 h qe12 hok => absurd qe12 (by intro q; obtain ⟨_, q, _⟩ := q; cases q))
      obtain ⟨x13, qx13, bx13⟩ := qv11
      obtain rfl := Sum.inl.inj qx13
      refine q_if_eq (tgt := 23) dX0_setTimers_13 (by decide) (fun c14 => ?_) (fun c14 => ?_)
      ·
        refine t_iinc_n [.ref a0, .int (a1), .int (a2), .int (nI (k7 + 1))] dX0_setTimers_23 rfl (by decide) rfl ?_
        refine q_goto (tgt := 2) dX0_setTimers_26 (by decide) ?_
        exact ihl6 (k7 + 1)  h (by omega) hok
      ·
        refine q_aload_n dX0_setTimers_16 rfl ?_
        refine t_getr 0 kX0 (by decide) wPX0_9 dX0_setTimers_17 hok gu5 rfl ?_
        refine q_iload_n dX0_setTimers_20 rfl ?_
        refine q_iload_n dX0_setTimers_21 rfl ?_
        refine t_iast dX0_setTimers_22 hok au5 (by exact vp_in_nI (by omega) (by omega)) (fun h hok => ?_)
        refine t_iinc_n [.ref a0, .int (a1), .int (a2), .int (nI (k7 + 1))] dX0_setTimers_23 rfl (by decide) rfl ?_
        refine q_goto (tgt := 2) dX0_setTimers_26 (by decide) ?_
        exact ihl6 (k7 + 1)  h (by omega) hok
  exact hl6 (16) 0  h (by omega) hok
set_option maxRecDepth 20000 in
set_option maxHeartbeats 4000000 in
theorem sX0_reset (Sc : q_S) (Γ : Nat → q_K) (n : Nat) {a0 : Nat} (b0 : kF Γ a0) : q_safe Sc Γ mX0_reset [.ref a0] n 0 0 (q_RV) := by
  intro h hok
  show q_A Sc mX0_reset 0 [.ref a0] [] h n 0 0 (fun O h' n' => (q_RV) O ∧ q_ok Γ h' ∧ n' = n)
  refine q_aload_n dX0_reset_0 rfl ?_
  refine q_ldc dX0_reset_1 wPX0_15 ?_
  refine q_iconst (v := nI 0) dX0_reset_3 rfl ?_
  obtain ⟨tu15, gu15, au15⟩ := id b0
  refine t_callV (M' := mX0_setTimers) [.int (65535), .int (nI 0)] [] kX0 dX0_reset_4 wPX0_16v wIX0_setTimers wSX0_setTimers iX0_setTimers oX0_setTimers rfl hok gu15 (sX0_setTimers Sc Γ n b0 (65535) (nI 0)) (Nat.le_of_ble_eq_true rfl) (Nat.le_of_ble_eq_true rfl) (Nat.le_of_ble_eq_true rfl) (Nat.le_of_ble_eq_true rfl) (Nat.le_of_ble_eq_true rfl) rfl (fun v16 h qv16 hok => ?_) (fun e17 h qe17 hok => absurd qe17 (by intro q; cases q))
  obtain rfl := Sum.inl.inj qv16
  refine q_aload_n dX0_reset_7 rfl ?_
  refine q_iconst (v := nI 0) dX0_reset_8 rfl ?_
  refine t_puti 2 kX0 (by decide) wPX0_20 rfl dX0_reset_9 hok gu15 rfl ⟨rfl, rfl⟩ (fun h hok => ?_)
  refine q_aload_n dX0_reset_12 rfl ?_
  refine t_callV (M' := mX0_include) [] [] kX0 dX0_reset_13 wPX0_24v wIX0_include wSX0_include iX0_include oX0_include rfl hok gu15 (sX0_include Sc Γ n b0) (Nat.le_of_ble_eq_true rfl) (Nat.le_of_ble_eq_true rfl) (Nat.le_of_ble_eq_true rfl) (Nat.le_of_ble_eq_true rfl) (Nat.le_of_ble_eq_true rfl) rfl (fun v18 h qv18 hok => ?_) (fun e19 h qe19 hok => absurd qe19 (by intro q; cases q))
  obtain rfl := Sum.inl.inj qv18
  exact q_vret dX0_reset_16 rfl ⟨rfl, hok, rfl⟩
set_option maxRecDepth 20000 in
set_option maxHeartbeats 4000000 in
theorem sX0_state (Sc : q_S) (Γ : Nat → q_K) (n : Nat) {a0 : Nat} (b0 : kF Γ a0) : q_safe Sc Γ mX0_state [.ref a0] n 0 0 (q_RI) := by
  intro h hok
  show q_A Sc mX0_state 0 [.ref a0] [] h n 0 0 (fun O h' n' => (q_RI) O ∧ q_ok Γ h' ∧ n' = n)
  refine q_aload_n dX0_state_0 rfl ?_
  obtain ⟨tu20, gu20, au20⟩ := id b0
  refine t_geti 1 kX0 (by decide) wPX0_27 dX0_state_1 hok gu20 rfl (fun x21 => ?_)
  refine q_if_eq (tgt := 9) dX0_state_4 (by decide) (fun c22 => ?_) (fun c22 => ?_)
  ·
    refine q_aload_n dX0_state_9 rfl ?_
    refine t_geti 2 kX0 (by decide) wPX0_20 dX0_state_10 hok gu20 rfl (fun x23 => ?_)
    refine q_if_ne (tgt := 20) dX0_state_13 (by decide) (fun c24 => ?_) (fun c24 => ?_)
    ·
      refine q_iconst (v := nI 0) dX0_state_20 rfl ?_
      exact q_iret dX0_state_21 rfl (rfl) ⟨⟨_, rfl⟩, hok, rfl⟩
    ·
      refine q_iconst (v := -1) dX0_state_16 rfl ?_
      refine q_goto (tgt := 21) dX0_state_17 (by decide) ?_
      exact q_iret dX0_state_21 rfl (rfl) ⟨⟨_, rfl⟩, hok, rfl⟩
  ·
    refine q_iconst (v := nI 1) dX0_state_7 rfl ?_
    exact q_iret dX0_state_8 rfl (rfl) ⟨⟨_, rfl⟩, hok, rfl⟩
set_option maxRecDepth 20000 in
set_option maxHeartbeats 4000000 in
theorem sX0_lets (Sc : q_S) (Γ : Nat → q_K) (n : Nat) {a0 : Nat} (b0 : kF Γ a0) (a1 : Int32) : q_safe Sc Γ mX0_lets [.ref a0, .int (a1)] n 0 0 (q_RB) := by
  intro h hok
  show q_A Sc mX0_lets 0 [.ref a0, .int (a1)] [] h n 0 0 (fun O h' n' => (q_RB) O ∧ q_ok Γ h' ∧ n' = n)
  refine q_aload_n dX0_lets_0 rfl ?_
  obtain ⟨tu25, gu25, au25⟩ := id b0
  refine t_geti 1 kX0 (by decide) wPX0_27 dX0_lets_1 hok gu25 rfl (fun x26 => ?_)
  refine q_if_eq (tgt := 26) dX0_lets_4 (by decide) (fun c27 => ?_) (fun c27 => ?_)
  ·
    refine q_aload_n dX0_lets_26 rfl ?_
    refine t_geti 2 kX0 (by decide) wPX0_20 dX0_lets_27 hok gu25 rfl (fun x28 => ?_)
    refine q_iload_n dX0_lets_30 rfl ?_
    refine t_callS (M' := mX4_holds) [.int (x28), .int (a1)] [] dX0_lets_31 wPX0_34 wTX4_holds wNX4 iX4_holds oX4_holds rfl hok (sX4_holds Sc Γ n (x28) (a1)) (Nat.le_of_ble_eq_true rfl) (Nat.le_of_ble_eq_true rfl) (Nat.le_of_ble_eq_true rfl) (Nat.le_of_ble_eq_true rfl) (Nat.le_of_ble_eq_true rfl) rfl (fun v29 h qv29 hok => ?_) (fun e30 h qe30 hok => absurd qe30 (by intro q; obtain ⟨_, q, _⟩ := q; cases q))
    obtain ⟨x31, qx31, bx31⟩ := qv29
    obtain rfl := Sum.inl.inj qx31
    exact q_iret dX0_lets_34 rfl (q_bl.nar bx31) ⟨⟨_, rfl, bx31⟩, hok, rfl⟩
  ·
    refine q_aload_n dX0_lets_7 rfl ?_
    refine t_geti 3 kX0 (by decide) wPX0_31 dX0_lets_8 hok gu25 rfl (fun x32 => ?_)
    refine q_iload_n dX0_lets_11 rfl ?_
    refine t_callS (M' := mX4_holds) [.int (x32), .int (a1)] [] dX0_lets_12 wPX0_34 wTX4_holds wNX4 iX4_holds oX4_holds rfl hok (sX4_holds Sc Γ n (x32) (a1)) (Nat.le_of_ble_eq_true rfl) (Nat.le_of_ble_eq_true rfl) (Nat.le_of_ble_eq_true rfl) (Nat.le_of_ble_eq_true rfl) (Nat.le_of_ble_eq_true rfl) rfl (fun v33 h qv33 hok => ?_) (fun e34 h qe34 hok => absurd qe34 (by intro q; obtain ⟨_, q, _⟩ := q; cases q))
    obtain ⟨x35, qx35, bx35⟩ := qv33
    obtain rfl := Sum.inl.inj qx35
    refine q_if_ne (tgt := 22) dX0_lets_15 (by decide) (fun c36 => ?_) (fun c36 => ?_)
    ·
      refine q_iconst (v := nI 0) dX0_lets_22 rfl ?_
      refine q_goto (tgt := 34) dX0_lets_23 (by decide) ?_
      exact q_iret dX0_lets_34 rfl (rfl) ⟨⟨_, rfl, Or.inl rfl⟩, hok, rfl⟩
    ·
      refine q_iconst (v := nI 1) dX0_lets_18 rfl ?_
      refine q_goto (tgt := 34) dX0_lets_19 (by decide) ?_
      exact q_iret dX0_lets_34 rfl (rfl) ⟨⟨_, rfl, Or.inr rfl⟩, hok, rfl⟩
set_option maxRecDepth 20000 in
set_option maxHeartbeats 4000000 in
theorem sX0_doubted (Sc : q_S) (Γ : Nat → q_K) (n : Nat) {a0 : Nat} (b0 : kF Γ a0) (a1 : Int32) : q_safe Sc Γ mX0_doubted [.ref a0, .int (a1)] n 0 0 (q_RI) := by
  intro h hok
  show q_A Sc mX0_doubted 0 [.ref a0, .int (a1)] [] h n 0 0 (fun O h' n' => (q_RI) O ∧ q_ok Γ h' ∧ n' = n)
  refine q_aload_n dX0_doubted_0 rfl ?_
  obtain ⟨tu37, gu37, au37⟩ := id b0
  refine t_geti 1 kX0 (by decide) wPX0_27 dX0_doubted_1 hok gu37 rfl (fun x38 => ?_)
  refine q_if_eq (tgt := 18) dX0_doubted_4 (by decide) (fun c39 => ?_) (fun c39 => ?_)
  ·
    refine q_iload_n dX0_doubted_18 rfl ?_
    refine q_aload_n dX0_doubted_19 rfl ?_
    refine t_geti 2 kX0 (by decide) wPX0_20 dX0_doubted_20 hok gu37 rfl (fun x40 => ?_)
    refine q_iand dX0_doubted_23 ?_
    generalize (a1) &&& (x40) = z41
    exact q_iret dX0_doubted_24 rfl (rfl) ⟨⟨_, rfl⟩, hok, rfl⟩
  ·
    refine q_iload_n dX0_doubted_7 rfl ?_
    refine q_aload_n dX0_doubted_8 rfl ?_
    refine t_geti 3 kX0 (by decide) wPX0_31 dX0_doubted_9 hok gu37 rfl (fun x42 => ?_)
    refine q_iconst (v := -1) dX0_doubted_12 rfl ?_
    refine q_ixor dX0_doubted_13 ?_
    generalize (x42) ^^^ (-1) = z43
    refine q_iand dX0_doubted_14 ?_
    generalize (a1) &&& (z43) = z44
    refine q_goto (tgt := 24) dX0_doubted_15 (by decide) ?_
    exact q_iret dX0_doubted_24 rfl (rfl) ⟨⟨_, rfl⟩, hok, rfl⟩
set_option maxRecDepth 20000 in
set_option maxHeartbeats 4000000 in
theorem sX0_allow (Sc : q_S) (Γ : Nat → q_K) (n : Nat) {a0 : Nat} (b0 : kF Γ a0) (a1 : Int32) (a2 : Int32) : q_safe Sc Γ mX0_allow [.ref a0, .int (a1), .int (a2)] n 0 0 (q_RV) := by
  intro h hok
  show q_A Sc mX0_allow 0 [.ref a0, .int (a1), .int (a2)] [] h n 0 0 (fun O h' n' => (q_RV) O ∧ q_ok Γ h' ∧ n' = n)
  refine q_aload_n dX0_allow_0 rfl ?_
  refine q_dup dX0_allow_1 rfl ?_
  obtain ⟨tu45, gu45, au45⟩ := id b0
  refine t_geti 2 kX0 (by decide) wPX0_20 dX0_allow_2 hok gu45 rfl (fun x46 => ?_)
  refine q_iload_n dX0_allow_5 rfl ?_
  refine q_ior dX0_allow_6 ?_
  generalize (x46) ||| (a1) = z47
  refine t_puti 2 kX0 (by decide) wPX0_20 rfl dX0_allow_7 hok gu45 rfl ⟨rfl, rfl⟩ (fun h hok => ?_)
  refine q_aload_n dX0_allow_10 rfl ?_
  refine q_dup dX0_allow_11 rfl ?_
  refine t_geti 3 kX0 (by decide) wPX0_31 dX0_allow_12 hok gu45 rfl (fun x48 => ?_)
  refine q_iload_n dX0_allow_15 rfl ?_
  refine q_iconst (v := -1) dX0_allow_16 rfl ?_
  refine q_ixor dX0_allow_17 ?_
  generalize (a1) ^^^ (-1) = z49
  refine q_iand dX0_allow_18 ?_
  generalize (x48) &&& (z49) = z50
  refine t_puti 3 kX0 (by decide) wPX0_31 rfl dX0_allow_19 hok gu45 rfl ⟨rfl, rfl⟩ (fun h hok => ?_)
  refine q_aload_n dX0_allow_22 rfl ?_
  refine q_iload_n dX0_allow_23 rfl ?_
  refine q_iload_n dX0_allow_24 rfl ?_
  refine t_callV (M' := mX0_setTimers) [.int (a1), .int (a2)] [] kX0 dX0_allow_25 wPX0_16v wIX0_setTimers wSX0_setTimers iX0_setTimers oX0_setTimers rfl hok gu45 (sX0_setTimers Sc Γ n b0 (a1) (a2)) (Nat.le_of_ble_eq_true rfl) (Nat.le_of_ble_eq_true rfl) (Nat.le_of_ble_eq_true rfl) (Nat.le_of_ble_eq_true rfl) (Nat.le_of_ble_eq_true rfl) rfl (fun v51 h qv51 hok => ?_) (fun e52 h qe52 hok => absurd qe52 (by intro q; cases q))
  obtain rfl := Sum.inl.inj qv51
  exact q_vret dX0_allow_28 rfl ⟨rfl, hok, rfl⟩
set_option maxRecDepth 20000 in
set_option maxHeartbeats 4000000 in
theorem sX0_exclude (Sc : q_S) (Γ : Nat → q_K) (n : Nat) {a0 : Nat} (b0 : kF Γ a0) (a1 : Int32) (a2 : Int32) (a3 : Int32) : q_safe Sc Γ mX0_exclude [.ref a0, .int (a1), .int (a2), .int (a3)] n 0 0 (q_RV) := by
  intro h hok
  show q_A Sc mX0_exclude 0 [.ref a0, .int (a1), .int (a2), .int (a3), .retAddr 0, .retAddr 0] [] h n 0 0 (fun O h' n' => (q_RV) O ∧ q_ok Γ h' ∧ n' = n)
  refine q_aload_n dX0_exclude_0 rfl ?_
  obtain ⟨tu53, gu53, au53⟩ := id b0
  refine t_geti 1 kX0 (by decide) wPX0_27 dX0_exclude_1 hok gu53 rfl (fun x54 => ?_)
  refine q_if_eq (tgt := 25) dX0_exclude_4 (by decide) (fun c55 => ?_) (fun c55 => ?_)
  ·
    refine q_iconst (v := nI 0) dX0_exclude_25 rfl ?_
    refine t_istore [.ref a0, .int (a1), .int (a2), .int (a3), .int (nI 0), .retAddr 0] (Or.inr ⟨rfl, dX0_exclude_26⟩) (by decide) rfl ?_
    refine q_aload_n dX0_exclude_28 rfl ?_
    refine t_geti 2 kX0 (by decide) wPX0_20 dX0_exclude_29 hok gu53 rfl (fun x56 => ?_)
    refine q_iload_n dX0_exclude_32 rfl ?_
    refine q_iand dX0_exclude_33 ?_
    generalize (x56) &&& (a1) = z57
    refine t_istore [.ref a0, .int (a1), .int (a2), .int (a3), .int (nI 0), .int (z57)] (Or.inr ⟨rfl, dX0_exclude_34⟩) (by decide) rfl ?_
    refine q_aload_n dX0_exclude_36 rfl ?_
    refine q_aload_n dX0_exclude_37 rfl ?_
    refine t_geti 2 kX0 (by decide) wPX0_20 dX0_exclude_38 hok gu53 rfl (fun x58 => ?_)
    refine q_iload_n dX0_exclude_41 rfl ?_
    refine q_iconst (v := -1) dX0_exclude_42 rfl ?_
    refine q_ixor dX0_exclude_43 ?_
    generalize (a1) ^^^ (-1) = z59
    refine q_iand dX0_exclude_44 ?_
    generalize (x58) &&& (z59) = z60
    refine q_iconst (v := nI 0) dX0_exclude_45 rfl ?_
    refine t_callV (M' := mX0_setTimers) [.int (z60), .int (nI 0)] [] kX0 dX0_exclude_46 wPX0_16v wIX0_setTimers wSX0_setTimers iX0_setTimers oX0_setTimers rfl hok gu53 (sX0_setTimers Sc Γ n b0 (z60) (nI 0)) (Nat.le_of_ble_eq_true rfl) (Nat.le_of_ble_eq_true rfl) (Nat.le_of_ble_eq_true rfl) (Nat.le_of_ble_eq_true rfl) (Nat.le_of_ble_eq_true rfl) rfl (fun v61 h qv61 hok => ?_) (fun e62 h qe62 hok => absurd qe62 (by intro q; cases q))
    obtain rfl := Sum.inl.inj qv61
    refine q_aload_n dX0_exclude_49 rfl ?_
    refine q_iload dX0_exclude_50 rfl ?_
    refine q_iload_n dX0_exclude_52 rfl ?_
    refine t_callV (M' := mX0_setTimers) [.int (nI 0), .int (a2)] [] kX0 dX0_exclude_53 wPX0_16v wIX0_setTimers wSX0_setTimers iX0_setTimers oX0_setTimers rfl hok gu53 (sX0_setTimers Sc Γ n b0 (nI 0) (a2)) (Nat.le_of_ble_eq_true rfl) (Nat.le_of_ble_eq_true rfl) (Nat.le_of_ble_eq_true rfl) (Nat.le_of_ble_eq_true rfl) (Nat.le_of_ble_eq_true rfl) rfl (fun v63 h qv63 hok => ?_) (fun e64 h qe64 hok => absurd qe64 (by intro q; cases q))
    obtain rfl := Sum.inl.inj qv63
    refine q_aload_n dX0_exclude_56 rfl ?_
    refine q_iload dX0_exclude_57 rfl ?_
    refine q_iload dX0_exclude_59 rfl ?_
    refine q_ior dX0_exclude_61 ?_
    generalize (z57) ||| (nI 0) = z65
    refine t_puti 2 kX0 (by decide) wPX0_20 rfl dX0_exclude_62 hok gu53 rfl ⟨rfl, rfl⟩ (fun h hok => ?_)
    refine q_aload_n dX0_exclude_65 rfl ?_
    refine q_iload_n dX0_exclude_66 rfl ?_
    refine q_aload_n dX0_exclude_67 rfl ?_
    refine t_geti 2 kX0 (by decide) wPX0_20 dX0_exclude_68 hok gu53 rfl (fun x66 => ?_)
    refine q_iconst (v := -1) dX0_exclude_71 rfl ?_
    refine q_ixor dX0_exclude_72 ?_
    generalize (x66) ^^^ (-1) = z67
    refine q_iand dX0_exclude_73 ?_
    generalize (a1) &&& (z67) = z68
    refine t_puti 3 kX0 (by decide) wPX0_31 rfl dX0_exclude_74 hok gu53 rfl ⟨rfl, rfl⟩ (fun h hok => ?_)
    refine q_aload_n dX0_exclude_77 rfl ?_
    refine q_iconst (v := nI 1) dX0_exclude_78 rfl ?_
    refine t_puti 1 kX0 (by decide) wPX0_27 rfl dX0_exclude_79 hok gu53 rfl ⟨rfl, rfl⟩ (fun h hok => ?_)
    refine q_aload_n dX0_exclude_82 rfl ?_
    refine q_iload_n dX0_exclude_83 rfl ?_
    refine t_puti 4 kX0 (by decide) wPX0_38 rfl dX0_exclude_84 hok gu53 rfl ⟨rfl, rfl⟩ (fun h hok => ?_)
    exact q_vret dX0_exclude_87 rfl ⟨rfl, hok, rfl⟩
  ·
    refine q_iload_n dX0_exclude_7 rfl ?_
    refine q_aload_n dX0_exclude_8 rfl ?_
    refine t_geti 2 kX0 (by decide) wPX0_20 dX0_exclude_9 hok gu53 rfl (fun x69 => ?_)
    refine q_iconst (v := -1) dX0_exclude_12 rfl ?_
    refine q_ixor dX0_exclude_13 ?_
    generalize (x69) ^^^ (-1) = z70
    refine q_iand dX0_exclude_14 ?_
    generalize (a1) &&& (z70) = z71
    refine q_aload_n dX0_exclude_15 rfl ?_
    refine t_geti 3 kX0 (by decide) wPX0_31 dX0_exclude_16 hok gu53 rfl (fun x72 => ?_)
    refine q_iconst (v := -1) dX0_exclude_19 rfl ?_
    refine q_ixor dX0_exclude_20 ?_
    generalize (x72) ^^^ (-1) = z73
    refine q_iand dX0_exclude_21 ?_
    generalize (z71) &&& (z73) = z74
    refine q_goto (tgt := 26) dX0_exclude_22 (by decide) ?_
    refine t_istore [.ref a0, .int (a1), .int (a2), .int (a3), .int (z74), .retAddr 0] (Or.inr ⟨rfl, dX0_exclude_26⟩) (by decide) rfl ?_
    refine q_aload_n dX0_exclude_28 rfl ?_
    refine t_geti 2 kX0 (by decide) wPX0_20 dX0_exclude_29 hok gu53 rfl (fun x75 => ?_)
    refine q_iload_n dX0_exclude_32 rfl ?_
    refine q_iand dX0_exclude_33 ?_
    generalize (x75) &&& (a1) = z76
    refine t_istore [.ref a0, .int (a1), .int (a2), .int (a3), .int (z74), .int (z76)] (Or.inr ⟨rfl, dX0_exclude_34⟩) (by decide) rfl ?_
    refine q_aload_n dX0_exclude_36 rfl ?_
    refine q_aload_n dX0_exclude_37 rfl ?_
    refine t_geti 2 kX0 (by decide) wPX0_20 dX0_exclude_38 hok gu53 rfl (fun x77 => ?_)
    refine q_iload_n dX0_exclude_41 rfl ?_
    refine q_iconst (v := -1) dX0_exclude_42 rfl ?_
    refine q_ixor dX0_exclude_43 ?_
    generalize (a1) ^^^ (-1) = z78
    refine q_iand dX0_exclude_44 ?_
    generalize (x77) &&& (z78) = z79
    refine q_iconst (v := nI 0) dX0_exclude_45 rfl ?_
    refine t_callV (M' := mX0_setTimers) [.int (z79), .int (nI 0)] [] kX0 dX0_exclude_46 wPX0_16v wIX0_setTimers wSX0_setTimers iX0_setTimers oX0_setTimers rfl hok gu53 (sX0_setTimers Sc Γ n b0 (z79) (nI 0)) (Nat.le_of_ble_eq_true rfl) (Nat.le_of_ble_eq_true rfl) (Nat.le_of_ble_eq_true rfl) (Nat.le_of_ble_eq_true rfl) (Nat.le_of_ble_eq_true rfl) rfl (fun v80 h qv80 hok => ?_) (fun e81 h qe81 hok => absurd qe81 (by intro q; cases q))
    obtain rfl := Sum.inl.inj qv80
    refine q_aload_n dX0_exclude_49 rfl ?_
    refine q_iload dX0_exclude_50 rfl ?_
    refine q_iload_n dX0_exclude_52 rfl ?_
    refine t_callV (M' := mX0_setTimers) [.int (z74), .int (a2)] [] kX0 dX0_exclude_53 wPX0_16v wIX0_setTimers wSX0_setTimers iX0_setTimers oX0_setTimers rfl hok gu53 (sX0_setTimers Sc Γ n b0 (z74) (a2)) (Nat.le_of_ble_eq_true rfl) (Nat.le_of_ble_eq_true rfl) (Nat.le_of_ble_eq_true rfl) (Nat.le_of_ble_eq_true rfl) (Nat.le_of_ble_eq_true rfl) rfl (fun v82 h qv82 hok => ?_) (fun e83 h qe83 hok => absurd qe83 (by intro q; cases q))
    obtain rfl := Sum.inl.inj qv82
    refine q_aload_n dX0_exclude_56 rfl ?_
    refine q_iload dX0_exclude_57 rfl ?_
    refine q_iload dX0_exclude_59 rfl ?_
    refine q_ior dX0_exclude_61 ?_
    generalize (z76) ||| (z74) = z84
    refine t_puti 2 kX0 (by decide) wPX0_20 rfl dX0_exclude_62 hok gu53 rfl ⟨rfl, rfl⟩ (fun h hok => ?_)
    refine q_aload_n dX0_exclude_65 rfl ?_
    refine q_iload_n dX0_exclude_66 rfl ?_
    refine q_aload_n dX0_exclude_67 rfl ?_
    refine t_geti 2 kX0 (by decide) wPX0_20 dX0_exclude_68 hok gu53 rfl (fun x85 => ?_)
    refine q_iconst (v := -1) dX0_exclude_71 rfl ?_
    refine q_ixor dX0_exclude_72 ?_
    generalize (x85) ^^^ (-1) = z86
    refine q_iand dX0_exclude_73 ?_
    generalize (a1) &&& (z86) = z87
    refine t_puti 3 kX0 (by decide) wPX0_31 rfl dX0_exclude_74 hok gu53 rfl ⟨rfl, rfl⟩ (fun h hok => ?_)
    refine q_aload_n dX0_exclude_77 rfl ?_
    refine q_iconst (v := nI 1) dX0_exclude_78 rfl ?_
    refine t_puti 1 kX0 (by decide) wPX0_27 rfl dX0_exclude_79 hok gu53 rfl ⟨rfl, rfl⟩ (fun h hok => ?_)
    refine q_aload_n dX0_exclude_82 rfl ?_
    refine q_iload_n dX0_exclude_83 rfl ?_
    refine t_puti 4 kX0 (by decide) wPX0_38 rfl dX0_exclude_84 hok gu53 rfl ⟨rfl, rfl⟩ (fun h hok => ?_)
    exact q_vret dX0_exclude_87 rfl ⟨rfl, hok, rfl⟩
set_option maxRecDepth 20000 in
set_option maxHeartbeats 4000000 in
theorem sX0_block (Sc : q_S) (Γ : Nat → q_K) (n : Nat) {a0 : Nat} (b0 : kF Γ a0) (a1 : Int32) : q_safe Sc Γ mX0_block [.ref a0, .int (a1)] n 0 0 (q_RV) := by
  intro h hok
  show q_A Sc mX0_block 0 [.ref a0, .int (a1), .retAddr 0] [] h n 0 0 (fun O h' n' => (q_RV) O ∧ q_ok Γ h' ∧ n' = n)
  refine q_aload_n dX0_block_0 rfl ?_
  obtain ⟨tu88, gu88, au88⟩ := id b0
  refine t_geti 1 kX0 (by decide) wPX0_27 dX0_block_1 hok gu88 rfl (fun x89 => ?_)
  refine q_if_eq (tgt := 42) dX0_block_4 (by decide) (fun c90 => ?_) (fun c90 => ?_)
  ·
    exact q_vret dX0_block_42 rfl ⟨rfl, hok, rfl⟩
  ·
    refine q_iload_n dX0_block_7 rfl ?_
    refine q_aload_n dX0_block_8 rfl ?_
    refine t_geti 2 kX0 (by decide) wPX0_20 dX0_block_9 hok gu88 rfl (fun x91 => ?_)
    refine q_iconst (v := -1) dX0_block_12 rfl ?_
    refine q_ixor dX0_block_13 ?_
    generalize (x91) ^^^ (-1) = z92
    refine q_iand dX0_block_14 ?_
    generalize (a1) &&& (z92) = z93
    refine q_aload_n dX0_block_15 rfl ?_
    refine t_geti 3 kX0 (by decide) wPX0_31 dX0_block_16 hok gu88 rfl (fun x94 => ?_)
    refine q_iconst (v := -1) dX0_block_19 rfl ?_
    refine q_ixor dX0_block_20 ?_
    generalize (x94) ^^^ (-1) = z95
    refine q_iand dX0_block_21 ?_
    generalize (z93) &&& (z95) = z96
    refine t_istore [.ref a0, .int (a1), .int (z96)] (Or.inl ⟨2, rfl, rfl, dX0_block_22⟩) (by decide) rfl ?_
    refine q_aload_n dX0_block_23 rfl ?_
    refine q_dup dX0_block_24 rfl ?_
    refine t_geti 2 kX0 (by decide) wPX0_20 dX0_block_25 hok gu88 rfl (fun x97 => ?_)
    refine q_iload_n dX0_block_28 rfl ?_
    refine q_ior dX0_block_29 ?_
    generalize (x97) ||| (z96) = z98
    refine t_puti 2 kX0 (by decide) wPX0_20 rfl dX0_block_30 hok gu88 rfl ⟨rfl, rfl⟩ (fun h hok => ?_)
    refine q_aload_n dX0_block_33 rfl ?_
    refine q_iload_n dX0_block_34 rfl ?_
    refine q_aload_n dX0_block_35 rfl ?_
    refine t_geti 4 kX0 (by decide) wPX0_38 dX0_block_36 hok gu88 rfl (fun x99 => ?_)
    refine t_callV (M' := mX0_setTimers) [.int (z96), .int (x99)] [] kX0 dX0_block_39 wPX0_16v wIX0_setTimers wSX0_setTimers iX0_setTimers oX0_setTimers rfl hok gu88 (sX0_setTimers Sc Γ n b0 (z96) (x99)) (Nat.le_of_ble_eq_true rfl) (Nat.le_of_ble_eq_true rfl) (Nat.le_of_ble_eq_true rfl) (Nat.le_of_ble_eq_true rfl) (Nat.le_of_ble_eq_true rfl) rfl (fun v100 h qv100 hok => ?_) (fun e101 h qe101 hok => absurd qe101 (by intro q; cases q))
    obtain rfl := Sum.inl.inj qv100
    exact q_vret dX0_block_42 rfl ⟨rfl, hok, rfl⟩
set_option maxRecDepth 20000 in
set_option maxHeartbeats 4000000 in
theorem sX0_ageTimers (Sc : q_S) (Γ : Nat → q_K) (n : Nat) {a0 : Nat} (b0 : kF Γ a0) (a1 : Int32) : q_safe Sc Γ mX0_ageTimers [.ref a0, .int (a1)] n 0 0 (q_RI) := by
  intro h hok
  show q_A Sc mX0_ageTimers 0 [.ref a0, .int (a1), .retAddr 0, .retAddr 0] [] h n 0 0 (fun O h' n' => (q_RI) O ∧ q_ok Γ h' ∧ n' = n)
  refine q_iconst (v := nI 0) dX0_ageTimers_0 rfl ?_
  refine t_istore [.ref a0, .int (a1), .int (nI 0), .retAddr 0] (Or.inl ⟨2, rfl, rfl, dX0_ageTimers_1⟩) (by decide) rfl ?_
  refine q_iconst (v := nI 0) dX0_ageTimers_2 rfl ?_
  refine t_istore [.ref a0, .int (a1), .int (nI 0), .int (nI 0)] (Or.inl ⟨3, rfl, rfl, dX0_ageTimers_3⟩) (by decide) rfl ?_
  obtain ⟨tu102, gu102, au102⟩ := id b0
  have hl103 : ∀ (d105 k104 : Nat) (x106 : Int32) (h : q_H), k104 + d105 = 16 → q_ok Γ h → q_A Sc mX0_ageTimers 4 [.ref a0, .int (a1), .int (x106), .int (nI k104)] [] h n 0 0 (fun O h' n' => (q_RI) O ∧ q_ok Γ h' ∧ n' = n) := by
    intro d105
    induction d105 with
    | zero =>
      intro k104 x106 h el103 hok
      refine q_iload_n dX0_ageTimers_4 rfl ?_
      refine q_bipush (v := nI 16) dX0_ageTimers_5 rfl ?_
      refine t_icmp_ge_n (tgt := 61) (by omega) (by omega) dX0_ageTimers_7 (by decide) (fun c107 => ?_) (fun c107 => ?_)
      rotate_left
      · exact absurd c107 (by omega)
      refine q_aload_n dX0_ageTimers_61 rfl ?_
      refine q_dup dX0_ageTimers_62 rfl ?_
      refine t_geti 2 kX0 (by decide) wPX0_20 dX0_ageTimers_63 hok gu102 rfl (fun x108 => ?_)
      refine q_iload_n dX0_ageTimers_66 rfl ?_
      refine q_iconst (v := -1) dX0_ageTimers_67 rfl ?_
      refine q_ixor dX0_ageTimers_68 ?_
      generalize (x106) ^^^ (-1) = z109
      refine q_iand dX0_ageTimers_69 ?_
      generalize (x108) &&& (z109) = z110
      refine t_puti 2 kX0 (by decide) wPX0_20 rfl dX0_ageTimers_70 hok gu102 rfl ⟨rfl, rfl⟩ (fun h hok => ?_)
      refine q_iload_n dX0_ageTimers_73 rfl ?_
      exact q_iret dX0_ageTimers_74 rfl (rfl) ⟨⟨_, rfl⟩, hok, rfl⟩
    | succ d105 ihl103 =>
      intro k104 x106 h el103 hok
      refine q_iload_n dX0_ageTimers_4 rfl ?_
      refine q_bipush (v := nI 16) dX0_ageTimers_5 rfl ?_
      refine t_icmp_ge_n (tgt := 61) (by omega) (by omega) dX0_ageTimers_7 (by decide) (fun c111 => ?_) (fun c111 => ?_)
      · exact absurd c111 (by omega)
      refine q_aload_n dX0_ageTimers_10 rfl ?_
      refine t_getr 0 kX0 (by decide) wPX0_9 dX0_ageTimers_11 hok gu102 rfl ?_
      refine q_iload_n dX0_ageTimers_14 rfl ?_
      refine t_iald dX0_ageTimers_15 hok au102 (by exact vp_in_nI (by omega) (by omega)) (fun x112 => ?_)
      refine q_iload_n dX0_ageTimers_16 rfl ?_
      refine q_icmp_le (tgt := 33) dX0_ageTimers_17 (by decide) (fun c113 => ?_) (fun c113 => ?_)
      ·
        refine q_aload_n dX0_ageTimers_33 rfl ?_
        refine t_getr 0 kX0 (by decide) wPX0_9 dX0_ageTimers_34 hok gu102 rfl ?_
        refine q_iload_n dX0_ageTimers_37 rfl ?_
        refine t_iald dX0_ageTimers_38 hok au102 (by exact vp_in_nI (by omega) (by omega)) (fun x114 => ?_)
        refine q_if_le (tgt := 55) dX0_ageTimers_39 (by decide) (fun c115 => ?_) (fun c115 => ?_)
        ·
          refine t_iinc_n [.ref a0, .int (a1), .int (x106), .int (nI (k104 + 1))] dX0_ageTimers_55 rfl (by decide) rfl ?_
          refine q_goto (tgt := 4) dX0_ageTimers_58 (by decide) ?_
          exact ihl103 (k104 + 1) (x106) h (by omega) hok
        ·
          refine q_aload_n dX0_ageTimers_42 rfl ?_
          refine t_getr 0 kX0 (by decide) wPX0_9 dX0_ageTimers_43 hok gu102 rfl ?_
          refine q_iload_n dX0_ageTimers_46 rfl ?_
          refine q_iconst (v := nI 0) dX0_ageTimers_47 rfl ?_
          refine t_iast dX0_ageTimers_48 hok au102 (by exact vp_in_nI (by omega) (by omega)) (fun h hok => ?_)
          refine q_iload_n dX0_ageTimers_49 rfl ?_
          refine q_iconst (v := nI 1) dX0_ageTimers_50 rfl ?_
          refine q_iload_n dX0_ageTimers_51 rfl ?_
          refine q_ishl dX0_ageTimers_52 ?_
          generalize (nI 1) <<< ((nI k104) &&& 31) = z116
          refine q_ior dX0_ageTimers_53 ?_
          generalize (x106) ||| (z116) = z117
          refine t_istore [.ref a0, .int (a1), .int (z117), .int (nI k104)] (Or.inl ⟨2, rfl, rfl, dX0_ageTimers_54⟩) (by decide) rfl ?_
          refine t_iinc_n [.ref a0, .int (a1), .int (z117), .int (nI (k104 + 1))] dX0_ageTimers_55 rfl (by decide) rfl ?_
          refine q_goto (tgt := 4) dX0_ageTimers_58 (by decide) ?_
          exact ihl103 (k104 + 1) (z117) h (by omega) hok
      ·
        refine q_aload_n dX0_ageTimers_20 rfl ?_
        refine t_getr 0 kX0 (by decide) wPX0_9 dX0_ageTimers_21 hok gu102 rfl ?_
        refine q_iload_n dX0_ageTimers_24 rfl ?_
        refine q_dup2 dX0_ageTimers_25 rfl rfl ?_
        refine t_iald dX0_ageTimers_26 hok au102 (by exact vp_in_nI (by omega) (by omega)) (fun x118 => ?_)
        refine q_iload_n dX0_ageTimers_27 rfl ?_
        refine q_isub dX0_ageTimers_28 ?_
        generalize (x118) - (a1) = z119
        refine t_iast dX0_ageTimers_29 hok au102 (by exact vp_in_nI (by omega) (by omega)) (fun h hok => ?_)
        refine q_goto (tgt := 55) dX0_ageTimers_30 (by decide) ?_
        refine t_iinc_n [.ref a0, .int (a1), .int (x106), .int (nI (k104 + 1))] dX0_ageTimers_55 rfl (by decide) rfl ?_
        refine q_goto (tgt := 4) dX0_ageTimers_58 (by decide) ?_
        exact ihl103 (k104 + 1) (x106) h (by omega) hok
  exact hl103 (16) 0 (nI 0) h (by omega) hok
set_option maxRecDepth 20000 in
set_option maxHeartbeats 4000000 in
theorem sX0_age (Sc : q_S) (Γ : Nat → q_K) (n : Nat) {a0 : Nat} (b0 : kF Γ a0) (a1 : Int32) : q_safe Sc Γ mX0_age [.ref a0, .int (a1)] n 0 0 (q_RV) := by
  intro h hok
  show q_A Sc mX0_age 0 [.ref a0, .int (a1), .retAddr 0] [] h n 0 0 (fun O h' n' => (q_RV) O ∧ q_ok Γ h' ∧ n' = n)
  refine q_aload_n dX0_age_0 rfl ?_
  refine q_iload_n dX0_age_1 rfl ?_
  obtain ⟨tu120, gu120, au120⟩ := id b0
  refine t_callV (M' := mX0_ageTimers) [.int (a1)] [] kX0 dX0_age_2 wPX0_41v wIX0_ageTimers wSX0_ageTimers iX0_ageTimers oX0_ageTimers rfl hok gu120 (sX0_ageTimers Sc Γ n b0 (a1)) (Nat.le_of_ble_eq_true rfl) (Nat.le_of_ble_eq_true rfl) (Nat.le_of_ble_eq_true rfl) (Nat.le_of_ble_eq_true rfl) (Nat.le_of_ble_eq_true rfl) rfl (fun v121 h qv121 hok => ?_) (fun e122 h qe122 hok => absurd qe122 (by intro q; obtain ⟨_, q⟩ := q; cases q))
  obtain ⟨x123, qx123⟩ := qv121
  obtain rfl := Sum.inl.inj qx123
  refine t_istore [.ref a0, .int (a1), .int (x123)] (Or.inl ⟨2, rfl, rfl, dX0_age_5⟩) (by decide) rfl ?_
  refine q_aload_n dX0_age_6 rfl ?_
  refine t_geti 1 kX0 (by decide) wPX0_27 dX0_age_7 hok gu120 rfl (fun x124 => ?_)
  refine q_if_ne (tgt := 14) dX0_age_10 (by decide) (fun c125 => ?_) (fun c125 => ?_)
  ·
    refine q_aload_n dX0_age_14 rfl ?_
    refine t_geti 4 kX0 (by decide) wPX0_38 dX0_age_15 hok gu120 rfl (fun x126 => ?_)
    refine q_iload_n dX0_age_18 rfl ?_
    refine q_icmp_gt (tgt := 29) dX0_age_19 (by decide) (fun c127 => ?_) (fun c127 => ?_)
    ·
      refine q_aload_n dX0_age_29 rfl ?_
      refine q_dup dX0_age_30 rfl ?_
      refine t_geti 4 kX0 (by decide) wPX0_38 dX0_age_31 hok gu120 rfl (fun x128 => ?_)
      refine q_iload_n dX0_age_34 rfl ?_
      refine q_isub dX0_age_35 ?_
      generalize (x128) - (a1) = z129
      refine t_puti 4 kX0 (by decide) wPX0_38 rfl dX0_age_36 hok gu120 rfl ⟨rfl, rfl⟩ (fun h hok => ?_)
      refine q_aload_n dX0_age_39 rfl ?_
      refine q_dup dX0_age_40 rfl ?_
      refine t_geti 3 kX0 (by decide) wPX0_31 dX0_age_41 hok gu120 rfl (fun x130 => ?_)
      refine q_iload_n dX0_age_44 rfl ?_
      refine q_ior dX0_age_45 ?_
      generalize (x130) ||| (x123) = z131
      refine t_puti 3 kX0 (by decide) wPX0_31 rfl dX0_age_46 hok gu120 rfl ⟨rfl, rfl⟩ (fun h hok => ?_)
      exact q_vret dX0_age_49 rfl ⟨rfl, hok, rfl⟩
    ·
      refine q_aload_n dX0_age_22 rfl ?_
      refine t_callV (M' := mX0_include) [] [] kX0 dX0_age_23 wPX0_24v wIX0_include wSX0_include iX0_include oX0_include rfl hok gu120 (sX0_include Sc Γ n b0) (Nat.le_of_ble_eq_true rfl) (Nat.le_of_ble_eq_true rfl) (Nat.le_of_ble_eq_true rfl) (Nat.le_of_ble_eq_true rfl) (Nat.le_of_ble_eq_true rfl) rfl (fun v132 h qv132 hok => ?_) (fun e133 h qe133 hok => absurd qe133 (by intro q; cases q))
      obtain rfl := Sum.inl.inj qv132
      refine q_goto (tgt := 49) dX0_age_26 (by decide) ?_
      exact q_vret dX0_age_49 rfl ⟨rfl, hok, rfl⟩
  ·
    exact q_vret dX0_age_13 rfl ⟨rfl, hok, rfl⟩
set_option maxRecDepth 20000 in
set_option maxHeartbeats 4000000 in
theorem sJ9_min_7cf53 (Sc : q_S) (Γ : Nat → q_K) (n : Nat) (a0 : Int32) (a1 : Int32) : q_safe Sc Γ mJ9_min_7cf53 [.int (a0), .int (a1)] n 0 0 (q_RI) := by
  intro h hok
  show q_A Sc mJ9_min_7cf53 0 [.int (a0), .int (a1)] [] h n 0 0 (fun O h' n' => (q_RI) O ∧ q_ok Γ h' ∧ n' = n)
  refine q_iload_n dJ9_min_7cf53_0 rfl ?_
  refine q_iload_n dJ9_min_7cf53_1 rfl ?_
  refine q_icmp_gt (tgt := 9) dJ9_min_7cf53_2 (by decide) (fun c134 => ?_) (fun c134 => ?_)
  ·
    refine q_iload_n dJ9_min_7cf53_9 rfl ?_
    exact q_iret dJ9_min_7cf53_10 rfl (rfl) ⟨⟨_, rfl⟩, hok, rfl⟩
  ·
    refine q_iload_n dJ9_min_7cf53_5 rfl ?_
    refine q_goto (tgt := 10) dJ9_min_7cf53_6 (by decide) ?_
    exact q_iret dJ9_min_7cf53_10 rfl (rfl) ⟨⟨_, rfl⟩, hok, rfl⟩
set_option maxRecDepth 20000 in
set_option maxHeartbeats 4000000 in
theorem sX0_lowerTimers (Sc : q_S) (Γ : Nat → q_K) (n : Nat) {a0 : Nat} (b0 : kF Γ a0) (a1 : Int32) (a2 : Int32) : q_safe Sc Γ mX0_lowerTimers [.ref a0, .int (a1), .int (a2)] n 0 0 (q_RV) := by
  intro h hok
  show q_A Sc mX0_lowerTimers 0 [.ref a0, .int (a1), .int (a2), .retAddr 0] [] h n 0 0 (fun O h' n' => (q_RV) O ∧ q_ok Γ h' ∧ n' = n)
  refine q_iconst (v := nI 0) dX0_lowerTimers_0 rfl ?_
  refine t_istore [.ref a0, .int (a1), .int (a2), .int (nI 0)] (Or.inl ⟨3, rfl, rfl, dX0_lowerTimers_1⟩) (by decide) rfl ?_
  obtain ⟨tu135, gu135, au135⟩ := id b0
  have hl136 : ∀ (d138 k137 : Nat) (h : q_H), k137 + d138 = 16 → q_ok Γ h → q_A Sc mX0_lowerTimers 2 [.ref a0, .int (a1), .int (a2), .int (nI k137)] [] h n 0 0 (fun O h' n' => (q_RV) O ∧ q_ok Γ h' ∧ n' = n) := by
    intro d138
    induction d138 with
    | zero =>
      intro k137  h el136 hok
      refine q_iload_n dX0_lowerTimers_2 rfl ?_
      refine q_bipush (v := nI 16) dX0_lowerTimers_3 rfl ?_
      refine t_icmp_ge_n (tgt := 38) (by omega) (by omega) dX0_lowerTimers_5 (by decide) (fun c139 => ?_) (fun c139 => ?_)
      rotate_left
      · exact absurd c139 (by omega)
      exact q_vret dX0_lowerTimers_38 rfl ⟨rfl, hok, rfl⟩
    | succ d138 ihl136 =>
      intro k137  h el136 hok
      refine q_iload_n dX0_lowerTimers_2 rfl ?_
      refine q_bipush (v := nI 16) dX0_lowerTimers_3 rfl ?_
      refine t_icmp_ge_n (tgt := 38) (by omega) (by omega) dX0_lowerTimers_5 (by decide) (fun c140 => ?_) (fun c140 => ?_)
      · exact absurd c140 (by omega)
      refine q_iload_n dX0_lowerTimers_8 rfl ?_
      refine q_iload_n dX0_lowerTimers_9 rfl ?_
      refine t_callS (M' := mX4_holds) [.int (a1), .int (nI k137)] [] dX0_lowerTimers_10 wPX0_34 wTX4_holds wNX4 iX4_holds oX4_holds rfl hok (sX4_holds Sc Γ n (a1) (nI k137)) (Nat.le_of_ble_eq_true rfl) (Nat.le_of_ble_eq_true rfl) (Nat.le_of_ble_eq_true rfl) (Nat.le_of_ble_eq_true rfl) (Nat.le_of_ble_eq_true rfl) rfl (fun v141 h qv141 hok => ?_) (fun e142 h qe142 hok => absurd qe142 (by intro q; obtain ⟨_, q, _⟩ := q; cases q))
      obtain ⟨x143, qx143, bx143⟩ := qv141
      obtain rfl := Sum.inl.inj qx143
      refine q_if_eq (tgt := 32) dX0_lowerTimers_13 (by decide) (fun c144 => ?_) (fun c144 => ?_)
      ·
        refine t_iinc_n [.ref a0, .int (a1), .int (a2), .int (nI (k137 + 1))] dX0_lowerTimers_32 rfl (by decide) rfl ?_
        refine q_goto (tgt := 2) dX0_lowerTimers_35 (by decide) ?_
        exact ihl136 (k137 + 1)  h (by omega) hok
      ·
        refine q_aload_n dX0_lowerTimers_16 rfl ?_
        refine t_getr 0 kX0 (by decide) wPX0_9 dX0_lowerTimers_17 hok gu135 rfl ?_
        refine q_iload_n dX0_lowerTimers_20 rfl ?_
        refine q_aload_n dX0_lowerTimers_21 rfl ?_
        refine t_getr 0 kX0 (by decide) wPX0_9 dX0_lowerTimers_22 hok gu135 rfl ?_
        refine q_iload_n dX0_lowerTimers_25 rfl ?_
        refine t_iald dX0_lowerTimers_26 hok au135 (by exact vp_in_nI (by omega) (by omega)) (fun x145 => ?_)
        refine q_iload_n dX0_lowerTimers_27 rfl ?_
        refine t_callS (M' := mJ9_min_7cf53) [.int (x145), .int (a2)] [.int (nI k137), .ref tu135] dX0_lowerTimers_28 wPX0_45 wTJ9_min_7cf53 wNJ9 iJ9_min_7cf53 oJ9_min_7cf53 rfl hok (sJ9_min_7cf53 Sc Γ n (x145) (a2)) (Nat.le_of_ble_eq_true rfl) (Nat.le_of_ble_eq_true rfl) (Nat.le_of_ble_eq_true rfl) (Nat.le_of_ble_eq_true rfl) (Nat.le_of_ble_eq_true rfl) rfl (fun v146 h qv146 hok => ?_) (fun e147 h qe147 hok => absurd qe147 (by intro q; obtain ⟨_, q⟩ := q; cases q))
        obtain ⟨x148, qx148⟩ := qv146
        obtain rfl := Sum.inl.inj qx148
        refine t_iast dX0_lowerTimers_31 hok au135 (by exact vp_in_nI (by omega) (by omega)) (fun h hok => ?_)
        refine t_iinc_n [.ref a0, .int (a1), .int (a2), .int (nI (k137 + 1))] dX0_lowerTimers_32 rfl (by decide) rfl ?_
        refine q_goto (tgt := 2) dX0_lowerTimers_35 (by decide) ?_
        exact ihl136 (k137 + 1)  h (by omega) hok
  exact hl136 (16) 0  h (by omega) hok
set_option maxRecDepth 20000 in
set_option maxHeartbeats 4000000 in
theorem sX0_lowerOwnTimer (Sc : q_S) (Γ : Nat → q_K) (n : Nat) {a0 : Nat} (b0 : kF Γ a0) (a1 : Int32) : q_safe Sc Γ mX0_lowerOwnTimer [.ref a0, .int (a1)] n 0 0 (q_RV) := by
  intro h hok
  show q_A Sc mX0_lowerOwnTimer 0 [.ref a0, .int (a1)] [] h n 0 0 (fun O h' n' => (q_RV) O ∧ q_ok Γ h' ∧ n' = n)
  refine q_aload_n dX0_lowerOwnTimer_0 rfl ?_
  refine q_aload_n dX0_lowerOwnTimer_1 rfl ?_
  obtain ⟨tu149, gu149, au149⟩ := id b0
  refine t_geti 4 kX0 (by decide) wPX0_38 dX0_lowerOwnTimer_2 hok gu149 rfl (fun x150 => ?_)
  refine q_iload_n dX0_lowerOwnTimer_5 rfl ?_
  refine t_callS (M' := mJ9_min_7cf53) [.int (x150), .int (a1)] [.ref a0] dX0_lowerOwnTimer_6 wPX0_45 wTJ9_min_7cf53 wNJ9 iJ9_min_7cf53 oJ9_min_7cf53 rfl hok (sJ9_min_7cf53 Sc Γ n (x150) (a1)) (Nat.le_of_ble_eq_true rfl) (Nat.le_of_ble_eq_true rfl) (Nat.le_of_ble_eq_true rfl) (Nat.le_of_ble_eq_true rfl) (Nat.le_of_ble_eq_true rfl) rfl (fun v151 h qv151 hok => ?_) (fun e152 h qe152 hok => absurd qe152 (by intro q; obtain ⟨_, q⟩ := q; cases q))
  obtain ⟨x153, qx153⟩ := qv151
  obtain rfl := Sum.inl.inj qx153
  refine t_puti 4 kX0 (by decide) wPX0_38 rfl dX0_lowerOwnTimer_9 hok gu149 rfl ⟨rfl, rfl⟩ (fun h hok => ?_)
  exact q_vret dX0_lowerOwnTimer_12 rfl ⟨rfl, hok, rfl⟩
