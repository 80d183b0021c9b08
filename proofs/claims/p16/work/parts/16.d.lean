def vX4_holds (a0 : Int32) (a1 : Int32) (V : q_V) : Int32 := if (((a0) >>> ((a1) &&& 31)) &&& (nI 1)) = 0 then ((nI 0)) else ((nI 1))
set_option maxRecDepth 20000 in
set_option maxHeartbeats 4000000 in
theorem eX4_holds (Sc : q_S) (Γ : Nat → q_K) (n : Nat) (V : q_V) (a0 : Int32) (a1 : Int32) : q_fn Sc Γ mX4_holds [.int (a0), .int (a1)] n V (some (.int (vX4_holds a0 a1 V))) V := by
  refine q_fn.of fun Q h hQ hok => ?_
  show q_A Sc mX4_holds 0 [.int (a0), .int (a1)] [] h n 0 0 Q
  refine q_iload_n dX4_holds_0 rfl ?_
  refine q_iload_n dX4_holds_1 rfl ?_
  refine q_ishr dX4_holds_2 ?_
  refine q_iconst (v := nI 1) dX4_holds_3 rfl ?_
  refine q_iand dX4_holds_4 ?_
  refine q_if_eq (tgt := 12) dX4_holds_5 (by decide) (fun c1 => ?_) (fun c1 => ?_)
  ·
    refine q_iconst (v := nI 0) dX4_holds_12 rfl ?_
    exact q_iret dX4_holds_13 rfl (rfl) (hQ _ _ (by dsimp only [vX4_holds]; rw [if_pos c1]) (hok))
  ·
    refine q_iconst (v := nI 1) dX4_holds_8 rfl ?_
    refine q_goto (tgt := 13) dX4_holds_9 (by decide) ?_
    exact q_iret dX4_holds_13 rfl (rfl) (hQ _ _ (by dsimp only [vX4_holds]; rw [if_neg c1]) (hok))
theorem bX4_holds (a0 : Int32) (a1 : Int32) (V : q_V) : q_bl (vX4_holds a0 a1 V) := by
  dsimp only [vX4_holds]
  repeat' split
  all_goals first | exact Or.inl rfl | exact Or.inr rfl
def vJ9_min_7cf53 (a0 : Int32) (a1 : Int32) (V : q_V) : Int32 := if a1 < a0 then (a1) else (a0)
set_option maxRecDepth 20000 in
set_option maxHeartbeats 4000000 in
theorem eJ9_min_7cf53 (Sc : q_S) (Γ : Nat → q_K) (n : Nat) (V : q_V) (a0 : Int32) (a1 : Int32) : q_fn Sc Γ mJ9_min_7cf53 [.int (a0), .int (a1)] n V (some (.int (vJ9_min_7cf53 a0 a1 V))) V := by
  refine q_fn.of fun Q h hQ hok => ?_
  show q_A Sc mJ9_min_7cf53 0 [.int (a0), .int (a1)] [] h n 0 0 Q
  refine q_iload_n dJ9_min_7cf53_0 rfl ?_
  refine q_iload_n dJ9_min_7cf53_1 rfl ?_
  refine q_icmp_gt (tgt := 9) dJ9_min_7cf53_2 (by decide) (fun c2 => ?_) (fun c2 => ?_)
  ·
    refine q_iload_n dJ9_min_7cf53_9 rfl ?_
    exact q_iret dJ9_min_7cf53_10 rfl (rfl) (hQ _ _ (by dsimp only [vJ9_min_7cf53]; rw [if_pos c2]) (hok))
  ·
    refine q_iload_n dJ9_min_7cf53_5 rfl ?_
    refine q_goto (tgt := 10) dJ9_min_7cf53_6 (by decide) ?_
    exact q_iret dJ9_min_7cf53_10 rfl (rfl) (hQ _ _ (by dsimp only [vJ9_min_7cf53]; rw [if_neg c2]) (hok))
def fX0_include (i : Nat) (V : q_V) : q_V := let V3 := vset V i 1 (nI 0); let V4 := vset V3 i 3 (nI 0); let V5 := vset V4 i 4 (nI 0); V5
set_option maxRecDepth 20000 in
set_option maxHeartbeats 4000000 in
theorem eX0_include (Sc : q_S) (Γ : Nat → q_K) (n : Nat) (V : q_V) (i : Nat) (H : sF Γ i) : q_fn Sc Γ mX0_include [.ref i] n V none (fX0_include i V) := by
  refine q_fn.of fun Q h hQ hok => ?_
  show q_A Sc mX0_include 0 [.ref i] [] h n 0 0 Q
  refine q_aload_n dX0_include_0 rfl ?_
  refine q_iconst (v := nI 0) dX0_include_1 rfl ?_
  refine v_puti 1 kX0 (by decide) wPX0_27 rfl dX0_include_2 hok H.1 rfl ⟨rfl, rfl⟩ (fun h hok => ?_)
  refine q_aload_n dX0_include_5 rfl ?_
  refine q_iconst (v := nI 0) dX0_include_6 rfl ?_
  refine v_puti 3 kX0 (by decide) wPX0_31 rfl dX0_include_7 hok H.1 rfl ⟨rfl, rfl⟩ (fun h hok => ?_)
  refine q_aload_n dX0_include_10 rfl ?_
  refine q_iconst (v := nI 0) dX0_include_11 rfl ?_
  refine v_puti 4 kX0 (by decide) wPX0_38 rfl dX0_include_12 hok H.1 rfl ⟨rfl, rfl⟩ (fun h hok => ?_)
  exact q_vret dX0_include_15 rfl (hQ _ _ (rfl) (by dsimp only [fX0_include]; exact hok))
def fX0_setTimers (i : Nat) (a1 : Int32) (a2 : Int32) (V : q_V) : q_V := let B6 := fun (k6 : Nat) (s6 : q_V) => let W6 := s6; if (vX4_holds a1 (nI k6) W6) = 0 then (W6) else (let V9 := vset W6 (i + 1) k6 (a2); V9); let T6 := lp B6 16 0 V; T6
set_option maxRecDepth 20000 in
set_option maxHeartbeats 4000000 in
theorem eX0_setTimers (Sc : q_S) (Γ : Nat → q_K) (n : Nat) (V : q_V) (i : Nat) (H : sF Γ i) (a1 : Int32) (a2 : Int32) : q_fn Sc Γ mX0_setTimers [.ref i, .int (a1), .int (a2)] n V none (fX0_setTimers i a1 a2 V) := by
  refine q_fn.of fun Q h hQ hok => ?_
  show q_A Sc mX0_setTimers 0 [.ref i, .int (a1), .int (a2), .retAddr 0] [] h n 0 0 Q
  refine q_iconst (v := nI 0) dX0_setTimers_0 rfl ?_
  refine t_istore [.ref i, .int (a1), .int (a2), .int (nI 0)] (Or.inl ⟨3, rfl, rfl, dX0_setTimers_1⟩) (by decide) rfl ?_
  obtain ⟨B6, hB6⟩ : ∃ B_ : Nat → q_V → q_V, B_ = (fun (k6 : Nat) (s6 : q_V) => let W6 := s6; if (vX4_holds a1 (nI k6) W6) = 0 then (W6) else ((vset W6 (i + 1) k6 (a2)))) := ⟨_, rfl⟩
  have hl6 : ∀ (d6 k6 : Nat) (W6 : q_V) (h : q_H), k6 + d6 = 16 → lp B6 d6 k6 W6 = (lp B6 16 0 V) → q_ok (gX Γ W6) h → q_A Sc mX0_setTimers 2 [.ref i, .int (a1), .int (a2), .int (nI k6)] [] h n 0 0 Q := by
    intro d6
    induction d6 with
    | zero =>
      intro k6  W6 h e6 hT6 hok
      have hT6 : W6 = (lp B6 16 0 V) := hT6
      subst hT6
      refine q_iload_n dX0_setTimers_2 rfl ?_
      refine q_bipush (v := nI 16) dX0_setTimers_3 rfl ?_
      refine t_icmp_ge_n (tgt := 29) (by omega) (by omega) dX0_setTimers_5 (by decide) (fun c10 => ?_) (fun c10 => ?_)
      rotate_left
      · exact absurd c10 (by omega)
      exact q_vret dX0_setTimers_29 rfl (hQ _ _ (rfl) (by subst hB6; dsimp only [fX0_setTimers]; exact hok))
    | succ d6 ih6 =>
      intro k6  W6 h e6 hT6 hok
      refine q_iload_n dX0_setTimers_2 rfl ?_
      refine q_bipush (v := nI 16) dX0_setTimers_3 rfl ?_
      refine t_icmp_ge_n (tgt := 29) (by omega) (by omega) dX0_setTimers_5 (by decide) (fun c7 => ?_) (fun c7 => ?_)
      · exact absurd c7 (by omega)
      refine q_iload_n dX0_setTimers_8 rfl ?_
      refine q_iload_n dX0_setTimers_9 rfl ?_
      refine v_callS (M' := mX4_holds) [.int (a1), .int (nI k6)] [] dX0_setTimers_10 wPX0_34 wTX4_holds wNX4 iX4_holds oX4_holds rfl hok (eX4_holds Sc Γ n W6 a1 (nI k6)) (Nat.le_of_ble_eq_true rfl) (Nat.le_of_ble_eq_true rfl) (Nat.le_of_ble_eq_true rfl) rfl (fun h hok => ?_)
      refine q_if_eq (tgt := 23) dX0_setTimers_13 (by decide) (fun c8 => ?_) (fun c8 => ?_)
      ·
        refine t_iinc_n [.ref i, .int (a1), .int (a2), .int (nI (k6 + 1))] dX0_setTimers_23 rfl (by decide) rfl ?_
        refine q_goto (tgt := 2) dX0_setTimers_26 (by decide) ?_
        exact ih6 (k6 + 1) W6 h (by omega) ((congrArg (lp B6 d6 (k6 + 1)) (show W6 = B6 k6 W6 from by rw [hB6]; dsimp only; rw [if_pos c8])).trans hT6) hok
      ·
        refine q_aload_n dX0_setTimers_16 rfl ?_
        refine v_getr 0 kX0 (by decide) wPX0_9 dX0_setTimers_17 hok H.1 rfl ?_
        refine q_iload_n dX0_setTimers_20 rfl ?_
        refine q_iload_n dX0_setTimers_21 rfl ?_
        refine v_iast (by decide) dX0_setTimers_22 hok H.2 (j := k6) (by omega) (fun h hok => ?_)
        refine t_iinc_n [.ref i, .int (a1), .int (a2), .int (nI (k6 + 1))] dX0_setTimers_23 rfl (by decide) rfl ?_
        refine q_goto (tgt := 2) dX0_setTimers_26 (by decide) ?_
        exact ih6 (k6 + 1) ((vset W6 (i + 1) k6 (a2))) h (by omega) ((congrArg (lp B6 d6 (k6 + 1)) (show (vset W6 (i + 1) k6 (a2)) = B6 k6 W6 from by rw [hB6]; dsimp only; rw [if_neg c8])).trans hT6) hok
  exact hl6 16 0  V h (by omega) rfl hok
def fX0_reset (i : Nat) (V : q_V) : q_V := let V11 := fX0_setTimers i 65535 (nI 0) V; let V12 := vset V11 i 2 (nI 0); let V13 := fX0_include i V12; V13
set_option maxRecDepth 20000 in
set_option maxHeartbeats 4000000 in
theorem eX0_reset (Sc : q_S) (Γ : Nat → q_K) (n : Nat) (V : q_V) (i : Nat) (H : sF Γ i) : q_fn Sc Γ mX0_reset [.ref i] n V none (fX0_reset i V) := by
  refine q_fn.of fun Q h hQ hok => ?_
  show q_A Sc mX0_reset 0 [.ref i] [] h n 0 0 Q
  refine q_aload_n dX0_reset_0 rfl ?_
  refine q_ldc dX0_reset_1 wPX0_15 ?_
  refine q_iconst (v := nI 0) dX0_reset_3 rfl ?_
  refine v_callV (M' := mX0_setTimers) [.int (65535), .int (nI 0)] [] kX0 dX0_reset_4 wPX0_16v wIX0_setTimers wSX0_setTimers iX0_setTimers oX0_setTimers rfl hok H.1 (eX0_setTimers Sc Γ n V i H 65535 (nI 0)) (Nat.le_of_ble_eq_true rfl) (Nat.le_of_ble_eq_true rfl) (Nat.le_of_ble_eq_true rfl) rfl (fun h hok => ?_)
  refine q_aload_n dX0_reset_7 rfl ?_
  refine q_iconst (v := nI 0) dX0_reset_8 rfl ?_
  refine v_puti 2 kX0 (by decide) wPX0_20 rfl dX0_reset_9 hok H.1 rfl ⟨rfl, rfl⟩ (fun h hok => ?_)
  refine q_aload_n dX0_reset_12 rfl ?_
  refine v_callV (M' := mX0_include) [] [] kX0 dX0_reset_13 wPX0_24v wIX0_include wSX0_include iX0_include oX0_include rfl hok H.1 (eX0_include Sc Γ n (vset (fX0_setTimers i 65535 (nI 0) V) i 2 (nI 0)) i H) (Nat.le_of_ble_eq_true rfl) (Nat.le_of_ble_eq_true rfl) (Nat.le_of_ble_eq_true rfl) rfl (fun h hok => ?_)
  exact q_vret dX0_reset_16 rfl (hQ _ _ (rfl) (by dsimp only [fX0_reset]; exact hok))
def vX0_state (i : Nat) (V : q_V) : Int32 := if (V i 1) = 0 then (if (V i 2) = 0 then ((-1)) else ((nI 0))) else ((nI 1))
set_option maxRecDepth 20000 in
set_option maxHeartbeats 4000000 in
theorem eX0_state (Sc : q_S) (Γ : Nat → q_K) (n : Nat) (V : q_V) (i : Nat) (H : sF Γ i) : q_fn Sc Γ mX0_state [.ref i] n V (some (.int (vX0_state i V))) V := by
  refine q_fn.of fun Q h hQ hok => ?_
  show q_A Sc mX0_state 0 [.ref i] [] h n 0 0 Q
  refine q_aload_n dX0_state_0 rfl ?_
  refine v_geti 1 kX0 (by decide) wPX0_27 dX0_state_1 hok H.1 rfl ?_
  refine q_if_eq (tgt := 9) dX0_state_4 (by decide) (fun c14 => ?_) (fun c14 => ?_)
  ·
    refine q_aload_n dX0_state_9 rfl ?_
    refine v_geti 2 kX0 (by decide) wPX0_20 dX0_state_10 hok H.1 rfl ?_
    refine q_if_ne (tgt := 20) dX0_state_13 (by decide) (fun c15 => ?_) (fun c15 => ?_)
    ·
      refine q_iconst (v := nI 0) dX0_state_20 rfl ?_
      exact q_iret dX0_state_21 rfl (rfl) (hQ _ _ (by dsimp only [vX0_state]; rw [if_pos c14, if_neg c15]) (hok))
    ·
      refine q_iconst (v := -1) dX0_state_16 rfl ?_
      refine q_goto (tgt := 21) dX0_state_17 (by decide) ?_
      exact q_iret dX0_state_21 rfl (rfl) (hQ _ _ (by dsimp only [vX0_state]; rw [if_pos c14, if_pos c15]) (hok))
  ·
    refine q_iconst (v := nI 1) dX0_state_7 rfl ?_
    exact q_iret dX0_state_8 rfl (rfl) (hQ _ _ (by dsimp only [vX0_state]; rw [if_neg c14]) (hok))
def vX0_lets (i : Nat) (a1 : Int32) (V : q_V) : Int32 := if (V i 1) = 0 then ((vX4_holds (V i 2) a1 V)) else (if (vX4_holds (V i 3) a1 V) = 0 then ((nI 1)) else ((nI 0)))
set_option maxRecDepth 20000 in
set_option maxHeartbeats 4000000 in
theorem eX0_lets (Sc : q_S) (Γ : Nat → q_K) (n : Nat) (V : q_V) (i : Nat) (H : sF Γ i) (a1 : Int32) : q_fn Sc Γ mX0_lets [.ref i, .int (a1)] n V (some (.int (vX0_lets i a1 V))) V := by
  refine q_fn.of fun Q h hQ hok => ?_
  show q_A Sc mX0_lets 0 [.ref i, .int (a1)] [] h n 0 0 Q
  refine q_aload_n dX0_lets_0 rfl ?_
  refine v_geti 1 kX0 (by decide) wPX0_27 dX0_lets_1 hok H.1 rfl ?_
  refine q_if_eq (tgt := 26) dX0_lets_4 (by decide) (fun c16 => ?_) (fun c16 => ?_)
  ·
    refine q_aload_n dX0_lets_26 rfl ?_
    refine v_geti 2 kX0 (by decide) wPX0_20 dX0_lets_27 hok H.1 rfl ?_
    refine q_iload_n dX0_lets_30 rfl ?_
    refine v_callS (M' := mX4_holds) [.int (V i 2), .int (a1)] [] dX0_lets_31 wPX0_34 wTX4_holds wNX4 iX4_holds oX4_holds rfl hok (eX4_holds Sc Γ n V (V i 2) a1) (Nat.le_of_ble_eq_true rfl) (Nat.le_of_ble_eq_true rfl) (Nat.le_of_ble_eq_true rfl) rfl (fun h hok => ?_)
    exact q_iret dX0_lets_34 rfl (q_bl.nar (bX4_holds (V i 2) a1 V)) (hQ _ _ (by dsimp only [vX0_lets]; rw [if_pos c16]) (hok))
  ·
    refine q_aload_n dX0_lets_7 rfl ?_
    refine v_geti 3 kX0 (by decide) wPX0_31 dX0_lets_8 hok H.1 rfl ?_
    refine q_iload_n dX0_lets_11 rfl ?_
    refine v_callS (M' := mX4_holds) [.int (V i 3), .int (a1)] [] dX0_lets_12 wPX0_34 wTX4_holds wNX4 iX4_holds oX4_holds rfl hok (eX4_holds Sc Γ n V (V i 3) a1) (Nat.le_of_ble_eq_true rfl) (Nat.le_of_ble_eq_true rfl) (Nat.le_of_ble_eq_true rfl) rfl (fun h hok => ?_)
    refine q_if_ne (tgt := 22) dX0_lets_15 (by decide) (fun c17 => ?_) (fun c17 => ?_)
    ·
      refine q_iconst (v := nI 0) dX0_lets_22 rfl ?_
      refine q_goto (tgt := 34) dX0_lets_23 (by decide) ?_
      exact q_iret dX0_lets_34 rfl (rfl) (hQ _ _ (by dsimp only [vX0_lets]; rw [if_neg c16, if_neg c17]) (hok))
    ·
      refine q_iconst (v := nI 1) dX0_lets_18 rfl ?_
      refine q_goto (tgt := 34) dX0_lets_19 (by decide) ?_
      exact q_iret dX0_lets_34 rfl (rfl) (hQ _ _ (by dsimp only [vX0_lets]; rw [if_neg c16, if_pos c17]) (hok))
def vX0_doubted (i : Nat) (a1 : Int32) (V : q_V) : Int32 := if (V i 1) = 0 then (((a1) &&& (V i 2))) else (((a1) &&& ((V i 3) ^^^ (-1))))
set_option maxRecDepth 20000 in
set_option maxHeartbeats 4000000 in
theorem eX0_doubted (Sc : q_S) (Γ : Nat → q_K) (n : Nat) (V : q_V) (i : Nat) (H : sF Γ i) (a1 : Int32) : q_fn Sc Γ mX0_doubted [.ref i, .int (a1)] n V (some (.int (vX0_doubted i a1 V))) V := by
  refine q_fn.of fun Q h hQ hok => ?_
  show q_A Sc mX0_doubted 0 [.ref i, .int (a1)] [] h n 0 0 Q
  refine q_aload_n dX0_doubted_0 rfl ?_
  refine v_geti 1 kX0 (by decide) wPX0_27 dX0_doubted_1 hok H.1 rfl ?_
  refine q_if_eq (tgt := 18) dX0_doubted_4 (by decide) (fun c18 => ?_) (fun c18 => ?_)
  ·
    refine q_iload_n dX0_doubted_18 rfl ?_
    refine q_aload_n dX0_doubted_19 rfl ?_
    refine v_geti 2 kX0 (by decide) wPX0_20 dX0_doubted_20 hok H.1 rfl ?_
    refine q_iand dX0_doubted_23 ?_
    exact q_iret dX0_doubted_24 rfl (rfl) (hQ _ _ (by dsimp only [vX0_doubted]; rw [if_pos c18]) (hok))
  ·
    refine q_iload_n dX0_doubted_7 rfl ?_
    refine q_aload_n dX0_doubted_8 rfl ?_
    refine v_geti 3 kX0 (by decide) wPX0_31 dX0_doubted_9 hok H.1 rfl ?_
    refine q_iconst (v := -1) dX0_doubted_12 rfl ?_
    refine q_ixor dX0_doubted_13 ?_
    refine q_iand dX0_doubted_14 ?_
    refine q_goto (tgt := 24) dX0_doubted_15 (by decide) ?_
    exact q_iret dX0_doubted_24 rfl (rfl) (hQ _ _ (by dsimp only [vX0_doubted]; rw [if_neg c18]) (hok))
def fX0_allow (i : Nat) (a1 : Int32) (a2 : Int32) (V : q_V) : q_V := let V19 := vset V i 2 ((V i 2) ||| (a1)); let V20 := vset V19 i 3 ((V19 i 3) &&& ((a1) ^^^ (-1))); let V21 := fX0_setTimers i a1 a2 V20; V21
set_option maxRecDepth 20000 in
set_option maxHeartbeats 4000000 in
theorem eX0_allow (Sc : q_S) (Γ : Nat → q_K) (n : Nat) (V : q_V) (i : Nat) (H : sF Γ i) (a1 : Int32) (a2 : Int32) : q_fn Sc Γ mX0_allow [.ref i, .int (a1), .int (a2)] n V none (fX0_allow i a1 a2 V) := by
  refine q_fn.of fun Q h hQ hok => ?_
  show q_A Sc mX0_allow 0 [.ref i, .int (a1), .int (a2)] [] h n 0 0 Q
  refine q_aload_n dX0_allow_0 rfl ?_
  refine q_dup dX0_allow_1 rfl ?_
  refine v_geti 2 kX0 (by decide) wPX0_20 dX0_allow_2 hok H.1 rfl ?_
  refine q_iload_n dX0_allow_5 rfl ?_
  refine q_ior dX0_allow_6 ?_
  refine v_puti 2 kX0 (by decide) wPX0_20 rfl dX0_allow_7 hok H.1 rfl ⟨rfl, rfl⟩ (fun h hok => ?_)
  refine q_aload_n dX0_allow_10 rfl ?_
  refine q_dup dX0_allow_11 rfl ?_
  refine v_geti 3 kX0 (by decide) wPX0_31 dX0_allow_12 hok H.1 rfl ?_
  refine q_iload_n dX0_allow_15 rfl ?_
  refine q_iconst (v := -1) dX0_allow_16 rfl ?_
  refine q_ixor dX0_allow_17 ?_
  refine q_iand dX0_allow_18 ?_
  refine v_puti 3 kX0 (by decide) wPX0_31 rfl dX0_allow_19 hok H.1 rfl ⟨rfl, rfl⟩ (fun h hok => ?_)
  refine q_aload_n dX0_allow_22 rfl ?_
  refine q_iload_n dX0_allow_23 rfl ?_
  refine q_iload_n dX0_allow_24 rfl ?_
  refine v_callV (M' := mX0_setTimers) [.int (a1), .int (a2)] [] kX0 dX0_allow_25 wPX0_16v wIX0_setTimers wSX0_setTimers iX0_setTimers oX0_setTimers rfl hok H.1 (eX0_setTimers Sc Γ n (vset (vset V i 2 ((V i 2) ||| (a1))) i 3 (((vset V i 2 ((V i 2) ||| (a1))) i 3) &&& ((a1) ^^^ (-1)))) i H a1 a2) (Nat.le_of_ble_eq_true rfl) (Nat.le_of_ble_eq_true rfl) (Nat.le_of_ble_eq_true rfl) rfl (fun h hok => ?_)
  exact q_vret dX0_allow_28 rfl (hQ _ _ (rfl) (by dsimp only [fX0_allow]; exact hok))
def fX0_exclude (i : Nat) (a1 : Int32) (a2 : Int32) (a3 : Int32) (V : q_V) : q_V := if (V i 1) = 0 then (let V23 := fX0_setTimers i ((V i 2) &&& ((a1) ^^^ (-1))) (nI 0) V; let V24 := fX0_setTimers i (nI 0) a2 V23; let V25 := vset V24 i 2 (((V i 2) &&& (a1)) ||| (nI 0)); let V26 := vset V25 i 3 ((a1) &&& ((V25 i 2) ^^^ (-1))); let V27 := vset V26 i 1 (nI 1); let V28 := vset V27 i 4 (a3); V28) else (let V29 := fX0_setTimers i ((V i 2) &&& ((a1) ^^^ (-1))) (nI 0) V; let V30 := fX0_setTimers i (((a1) &&& ((V i 2) ^^^ (-1))) &&& ((V i 3) ^^^ (-1))) a2 V29; let V31 := vset V30 i 2 (((V i 2) &&& (a1)) ||| (((a1) &&& ((V i 2) ^^^ (-1))) &&& ((V i 3) ^^^ (-1)))); let V32 := vset V31 i 3 ((a1) &&& ((V31 i 2) ^^^ (-1))); let V33 := vset V32 i 1 (nI 1); let V34 := vset V33 i 4 (a3); V34)
set_option maxRecDepth 20000 in
set_option maxHeartbeats 4000000 in
theorem eX0_exclude (Sc : q_S) (Γ : Nat → q_K) (n : Nat) (V : q_V) (i : Nat) (H : sF Γ i) (a1 : Int32) (a2 : Int32) (a3 : Int32) : q_fn Sc Γ mX0_exclude [.ref i, .int (a1), .int (a2), .int (a3)] n V none (fX0_exclude i a1 a2 a3 V) := by
  refine q_fn.of fun Q h hQ hok => ?_
  show q_A Sc mX0_exclude 0 [.ref i, .int (a1), .int (a2), .int (a3), .retAddr 0, .retAddr 0] [] h n 0 0 Q
  refine q_aload_n dX0_exclude_0 rfl ?_
  refine v_geti 1 kX0 (by decide) wPX0_27 dX0_exclude_1 hok H.1 rfl ?_
  refine q_if_eq (tgt := 25) dX0_exclude_4 (by decide) (fun c22 => ?_) (fun c22 => ?_)
  ·
    refine q_iconst (v := nI 0) dX0_exclude_25 rfl ?_
    refine t_istore [.ref i, .int (a1), .int (a2), .int (a3), .int (nI 0), .retAddr 0] (Or.inr ⟨rfl, dX0_exclude_26⟩) (by decide) rfl ?_
    refine q_aload_n dX0_exclude_28 rfl ?_
    refine v_geti 2 kX0 (by decide) wPX0_20 dX0_exclude_29 hok H.1 rfl ?_
    refine q_iload_n dX0_exclude_32 rfl ?_
    refine q_iand dX0_exclude_33 ?_
    refine t_istore [.ref i, .int (a1), .int (a2), .int (a3), .int (nI 0), .int ((V i 2) &&& (a1))] (Or.inr ⟨rfl, dX0_exclude_34⟩) (by decide) rfl ?_
    refine q_aload_n dX0_exclude_36 rfl ?_
    refine q_aload_n dX0_exclude_37 rfl ?_
    refine v_geti 2 kX0 (by decide) wPX0_20 dX0_exclude_38 hok H.1 rfl ?_
    refine q_iload_n dX0_exclude_41 rfl ?_
    refine q_iconst (v := -1) dX0_exclude_42 rfl ?_
    refine q_ixor dX0_exclude_43 ?_
    refine q_iand dX0_exclude_44 ?_
    refine q_iconst (v := nI 0) dX0_exclude_45 rfl ?_
    refine v_callV (M' := mX0_setTimers) [.int ((V i 2) &&& ((a1) ^^^ (-1))), .int (nI 0)] [] kX0 dX0_exclude_46 wPX0_16v wIX0_setTimers wSX0_setTimers iX0_setTimers oX0_setTimers rfl hok H.1 (eX0_setTimers Sc Γ n V i H ((V i 2) &&& ((a1) ^^^ (-1))) (nI 0)) (Nat.le_of_ble_eq_true rfl) (Nat.le_of_ble_eq_true rfl) (Nat.le_of_ble_eq_true rfl) rfl (fun h hok => ?_)
    refine q_aload_n dX0_exclude_49 rfl ?_
    refine q_iload dX0_exclude_50 rfl ?_
    refine q_iload_n dX0_exclude_52 rfl ?_
    refine v_callV (M' := mX0_setTimers) [.int (nI 0), .int (a2)] [] kX0 dX0_exclude_53 wPX0_16v wIX0_setTimers wSX0_setTimers iX0_setTimers oX0_setTimers rfl hok H.1 (eX0_setTimers Sc Γ n (fX0_setTimers i ((V i 2) &&& ((a1) ^^^ (-1))) (nI 0) V) i H (nI 0) a2) (Nat.le_of_ble_eq_true rfl) (Nat.le_of_ble_eq_true rfl) (Nat.le_of_ble_eq_true rfl) rfl (fun h hok => ?_)
    refine q_aload_n dX0_exclude_56 rfl ?_
    refine q_iload dX0_exclude_57 rfl ?_
    refine q_iload dX0_exclude_59 rfl ?_
    refine q_ior dX0_exclude_61 ?_
    refine v_puti 2 kX0 (by decide) wPX0_20 rfl dX0_exclude_62 hok H.1 rfl ⟨rfl, rfl⟩ (fun h hok => ?_)
    refine q_aload_n dX0_exclude_65 rfl ?_
    refine q_iload_n dX0_exclude_66 rfl ?_
    refine q_aload_n dX0_exclude_67 rfl ?_
    refine v_geti 2 kX0 (by decide) wPX0_20 dX0_exclude_68 hok H.1 rfl ?_
    refine q_iconst (v := -1) dX0_exclude_71 rfl ?_
    refine q_ixor dX0_exclude_72 ?_
    refine q_iand dX0_exclude_73 ?_
    refine v_puti 3 kX0 (by decide) wPX0_31 rfl dX0_exclude_74 hok H.1 rfl ⟨rfl, rfl⟩ (fun h hok => ?_)
    refine q_aload_n dX0_exclude_77 rfl ?_
    refine q_iconst (v := nI 1) dX0_exclude_78 rfl ?_
    refine v_puti 1 kX0 (by decide) wPX0_27 rfl dX0_exclude_79 hok H.1 rfl ⟨rfl, rfl⟩ (fun h hok => ?_)
    refine q_aload_n dX0_exclude_82 rfl ?_
    refine q_iload_n dX0_exclude_83 rfl ?_
    refine v_puti 4 kX0 (by decide) wPX0_38 rfl dX0_exclude_84 hok H.1 rfl ⟨rfl, rfl⟩ (fun h hok => ?_)
    exact q_vret dX0_exclude_87 rfl (hQ _ _ (rfl) (by dsimp only [fX0_exclude]; rw [if_pos c22]; exact hok))
  ·
    refine q_iload_n dX0_exclude_7 rfl ?_
    refine q_aload_n dX0_exclude_8 rfl ?_
    refine v_geti 2 kX0 (by decide) wPX0_20 dX0_exclude_9 hok H.1 rfl ?_
    refine q_iconst (v := -1) dX0_exclude_12 rfl ?_
    refine q_ixor dX0_exclude_13 ?_
    refine q_iand dX0_exclude_14 ?_
    refine q_aload_n dX0_exclude_15 rfl ?_
    refine v_geti 3 kX0 (by decide) wPX0_31 dX0_exclude_16 hok H.1 rfl ?_
    refine q_iconst (v := -1) dX0_exclude_19 rfl ?_
    refine q_ixor dX0_exclude_20 ?_
    refine q_iand dX0_exclude_21 ?_
    refine q_goto (tgt := 26) dX0_exclude_22 (by decide) ?_
    refine t_istore [.ref i, .int (a1), .int (a2), .int (a3), .int (((a1) &&& ((V i 2) ^^^ (-1))) &&& ((V i 3) ^^^ (-1))), .retAddr 0] (Or.inr ⟨rfl, dX0_exclude_26⟩) (by decide) rfl ?_
    refine q_aload_n dX0_exclude_28 rfl ?_
    refine v_geti 2 kX0 (by decide) wPX0_20 dX0_exclude_29 hok H.1 rfl ?_
    refine q_iload_n dX0_exclude_32 rfl ?_
    refine q_iand dX0_exclude_33 ?_
    refine t_istore [.ref i, .int (a1), .int (a2), .int (a3), .int (((a1) &&& ((V i 2) ^^^ (-1))) &&& ((V i 3) ^^^ (-1))), .int ((V i 2) &&& (a1))] (Or.inr ⟨rfl, dX0_exclude_34⟩) (by decide) rfl ?_
    refine q_aload_n dX0_exclude_36 rfl ?_
    refine q_aload_n dX0_exclude_37 rfl ?_
    refine v_geti 2 kX0 (by decide) wPX0_20 dX0_exclude_38 hok H.1 rfl ?_
    refine q_iload_n dX0_exclude_41 rfl ?_
    refine q_iconst (v := -1) dX0_exclude_42 rfl ?_
    refine q_ixor dX0_exclude_43 ?_
    refine q_iand dX0_exclude_44 ?_
    refine q_iconst (v := nI 0) dX0_exclude_45 rfl ?_
    refine v_callV (M' := mX0_setTimers) [.int ((V i 2) &&& ((a1) ^^^ (-1))), .int (nI 0)] [] kX0 dX0_exclude_46 wPX0_16v wIX0_setTimers wSX0_setTimers iX0_setTimers oX0_setTimers rfl hok H.1 (eX0_setTimers Sc Γ n V i H ((V i 2) &&& ((a1) ^^^ (-1))) (nI 0)) (Nat.le_of_ble_eq_true rfl) (Nat.le_of_ble_eq_true rfl) (Nat.le_of_ble_eq_true rfl) rfl (fun h hok => ?_)
    refine q_aload_n dX0_exclude_49 rfl ?_
    refine q_iload dX0_exclude_50 rfl ?_
    refine q_iload_n dX0_exclude_52 rfl ?_
    refine v_callV (M' := mX0_setTimers) [.int (((a1) &&& ((V i 2) ^^^ (-1))) &&& ((V i 3) ^^^ (-1))), .int (a2)] [] kX0 dX0_exclude_53 wPX0_16v wIX0_setTimers wSX0_setTimers iX0_setTimers oX0_setTimers rfl hok H.1 (eX0_setTimers Sc Γ n (fX0_setTimers i ((V i 2) &&& ((a1) ^^^ (-1))) (nI 0) V) i H (((a1) &&& ((V i 2) ^^^ (-1))) &&& ((V i 3) ^^^ (-1))) a2) (Nat.le_of_ble_eq_true rfl) (Nat.le_of_ble_eq_true rfl) (Nat.le_of_ble_eq_true rfl) rfl (fun h hok => ?_)
    refine q_aload_n dX0_exclude_56 rfl ?_
    refine q_iload dX0_exclude_57 rfl ?_
    refine q_iload dX0_exclude_59 rfl ?_
    refine q_ior dX0_exclude_61 ?_
    refine v_puti 2 kX0 (by decide) wPX0_20 rfl dX0_exclude_62 hok H.1 rfl ⟨rfl, rfl⟩ (fun h hok => ?_)
    refine q_aload_n dX0_exclude_65 rfl ?_
    refine q_iload_n dX0_exclude_66 rfl ?_
    refine q_aload_n dX0_exclude_67 rfl ?_
    refine v_geti 2 kX0 (by decide) wPX0_20 dX0_exclude_68 hok H.1 rfl ?_
    refine q_iconst (v := -1) dX0_exclude_71 rfl ?_
    refine q_ixor dX0_exclude_72 ?_
    refine q_iand dX0_exclude_73 ?_
    refine v_puti 3 kX0 (by decide) wPX0_31 rfl dX0_exclude_74 hok H.1 rfl ⟨rfl, rfl⟩ (fun h hok => ?_)
    refine q_aload_n dX0_exclude_77 rfl ?_
    refine q_iconst (v := nI 1) dX0_exclude_78 rfl ?_
    refine v_puti 1 kX0 (by decide) wPX0_27 rfl dX0_exclude_79 hok H.1 rfl ⟨rfl, rfl⟩ (fun h hok => ?_)
    refine q_aload_n dX0_exclude_82 rfl ?_
    refine q_iload_n dX0_exclude_83 rfl ?_
    refine v_puti 4 kX0 (by decide) wPX0_38 rfl dX0_exclude_84 hok H.1 rfl ⟨rfl, rfl⟩ (fun h hok => ?_)
    exact q_vret dX0_exclude_87 rfl (hQ _ _ (rfl) (by dsimp only [fX0_exclude]; rw [if_neg c22]; exact hok))
def fX0_block (i : Nat) (a1 : Int32) (V : q_V) : q_V := if (V i 1) = 0 then (V) else (let V36 := vset V i 2 ((V i 2) ||| (((a1) &&& ((V i 2) ^^^ (-1))) &&& ((V i 3) ^^^ (-1)))); let V37 := fX0_setTimers i (((a1) &&& ((V i 2) ^^^ (-1))) &&& ((V i 3) ^^^ (-1))) (V36 i 4) V36; V37)
set_option maxRecDepth 20000 in
set_option maxHeartbeats 4000000 in
theorem eX0_block (Sc : q_S) (Γ : Nat → q_K) (n : Nat) (V : q_V) (i : Nat) (H : sF Γ i) (a1 : Int32) : q_fn Sc Γ mX0_block [.ref i, .int (a1)] n V none (fX0_block i a1 V) := by
  refine q_fn.of fun Q h hQ hok => ?_
  show q_A Sc mX0_block 0 [.ref i, .int (a1), .retAddr 0] [] h n 0 0 Q
  refine q_aload_n dX0_block_0 rfl ?_
  refine v_geti 1 kX0 (by decide) wPX0_27 dX0_block_1 hok H.1 rfl ?_
  refine q_if_eq (tgt := 42) dX0_block_4 (by decide) (fun c35 => ?_) (fun c35 => ?_)
  ·
    exact q_vret dX0_block_42 rfl (hQ _ _ (rfl) (by dsimp only [fX0_block]; rw [if_pos c35]; exact hok))
  ·
    refine q_iload_n dX0_block_7 rfl ?_
    refine q_aload_n dX0_block_8 rfl ?_
    refine v_geti 2 kX0 (by decide) wPX0_20 dX0_block_9 hok H.1 rfl ?_
    refine q_iconst (v := -1) dX0_block_12 rfl ?_
    refine q_ixor dX0_block_13 ?_
    refine q_iand dX0_block_14 ?_
    refine q_aload_n dX0_block_15 rfl ?_
    refine v_geti 3 kX0 (by decide) wPX0_31 dX0_block_16 hok H.1 rfl ?_
    refine q_iconst (v := -1) dX0_block_19 rfl ?_
    refine q_ixor dX0_block_20 ?_
    refine q_iand dX0_block_21 ?_
    refine t_istore [.ref i, .int (a1), .int (((a1) &&& ((V i 2) ^^^ (-1))) &&& ((V i 3) ^^^ (-1)))] (Or.inl ⟨2, rfl, rfl, dX0_block_22⟩) (by decide) rfl ?_
    refine q_aload_n dX0_block_23 rfl ?_
    refine q_dup dX0_block_24 rfl ?_
    refine v_geti 2 kX0 (by decide) wPX0_20 dX0_block_25 hok H.1 rfl ?_
    refine q_iload_n dX0_block_28 rfl ?_
    refine q_ior dX0_block_29 ?_
    refine v_puti 2 kX0 (by decide) wPX0_20 rfl dX0_block_30 hok H.1 rfl ⟨rfl, rfl⟩ (fun h hok => ?_)
    refine q_aload_n dX0_block_33 rfl ?_
    refine q_iload_n dX0_block_34 rfl ?_
    refine q_aload_n dX0_block_35 rfl ?_
    refine v_geti 4 kX0 (by decide) wPX0_38 dX0_block_36 hok H.1 rfl ?_
    refine v_callV (M' := mX0_setTimers) [.int (((a1) &&& ((V i 2) ^^^ (-1))) &&& ((V i 3) ^^^ (-1))), .int ((vset V i 2 ((V i 2) ||| (((a1) &&& ((V i 2) ^^^ (-1))) &&& ((V i 3) ^^^ (-1))))) i 4)] [] kX0 dX0_block_39 wPX0_16v wIX0_setTimers wSX0_setTimers iX0_setTimers oX0_setTimers rfl hok H.1 (eX0_setTimers Sc Γ n (vset V i 2 ((V i 2) ||| (((a1) &&& ((V i 2) ^^^ (-1))) &&& ((V i 3) ^^^ (-1))))) i H (((a1) &&& ((V i 2) ^^^ (-1))) &&& ((V i 3) ^^^ (-1))) ((vset V i 2 ((V i 2) ||| (((a1) &&& ((V i 2) ^^^ (-1))) &&& ((V i 3) ^^^ (-1))))) i 4)) (Nat.le_of_ble_eq_true rfl) (Nat.le_of_ble_eq_true rfl) (Nat.le_of_ble_eq_true rfl) rfl (fun h hok => ?_)
    exact q_vret dX0_block_42 rfl (hQ _ _ (rfl) (by dsimp only [fX0_block]; rw [if_neg c35]; exact hok))
def fX0_ageTimers (i : Nat) (a1 : Int32) (V : q_V) : q_V := let B38 := fun (k38 : Nat) (s38 : Int32 × q_V) => let g38a := s38.1; let W38 := s38.2; if (W38 (i + 1) k38) ≤ a1 then (if (W38 (i + 1) k38) ≤ 0 then ((g38a, W38)) else (let V42 := vset W38 (i + 1) k38 (nI 0); ((g38a) ||| ((nI 1) <<< ((nI k38) &&& 31)), V42))) else (let V43 := vset W38 (i + 1) k38 ((W38 (i + 1) k38) - (a1)); (g38a, V43)); let T38 := lp B38 16 0 (nI 0, V); let V44 := T38.2; let V46 := vset V44 i 2 ((V44 i 2) &&& ((T38.1) ^^^ (-1))); V46
def vX0_ageTimers (i : Nat) (a1 : Int32) (V : q_V) : Int32 := let B38 := fun (k38 : Nat) (s38 : Int32 × q_V) => let g38a := s38.1; let W38 := s38.2; if (W38 (i + 1) k38) ≤ a1 then (if (W38 (i + 1) k38) ≤ 0 then ((g38a, W38)) else (let V42 := vset W38 (i + 1) k38 (nI 0); ((g38a) ||| ((nI 1) <<< ((nI k38) &&& 31)), V42))) else (let V43 := vset W38 (i + 1) k38 ((W38 (i + 1) k38) - (a1)); (g38a, V43)); let T38 := lp B38 16 0 (nI 0, V); let V44 := T38.2; let V46 := vset V44 i 2 ((V44 i 2) &&& ((T38.1) ^^^ (-1))); T38.1
set_option maxRecDepth 20000 in
set_option maxHeartbeats 4000000 in
theorem eX0_ageTimers (Sc : q_S) (Γ : Nat → q_K) (n : Nat) (V : q_V) (i : Nat) (H : sF Γ i) (a1 : Int32) : q_fn Sc Γ mX0_ageTimers [.ref i, .int (a1)] n V (some (.int (vX0_ageTimers i a1 V))) (fX0_ageTimers i a1 V) := by
  refine q_fn.of fun Q h hQ hok => ?_
  show q_A Sc mX0_ageTimers 0 [.ref i, .int (a1), .retAddr 0, .retAddr 0] [] h n 0 0 Q
  refine q_iconst (v := nI 0) dX0_ageTimers_0 rfl ?_
  refine t_istore [.ref i, .int (a1), .int (nI 0), .retAddr 0] (Or.inl ⟨2, rfl, rfl, dX0_ageTimers_1⟩) (by decide) rfl ?_
  refine q_iconst (v := nI 0) dX0_ageTimers_2 rfl ?_
  refine t_istore [.ref i, .int (a1), .int (nI 0), .int (nI 0)] (Or.inl ⟨3, rfl, rfl, dX0_ageTimers_3⟩) (by decide) rfl ?_
  obtain ⟨B38, hB38⟩ : ∃ B_ : Nat → (Int32 × q_V) → (Int32 × q_V), B_ = (fun (k38 : Nat) (s38 : Int32 × q_V) => let g38a := s38.1; let W38 := s38.2; if (W38 (i + 1) k38) ≤ a1 then (if (W38 (i + 1) k38) ≤ 0 then ((g38a, W38)) else (((g38a) ||| ((nI 1) <<< ((nI k38) &&& 31)), (vset W38 (i + 1) k38 (nI 0))))) else ((g38a, (vset W38 (i + 1) k38 ((W38 (i + 1) k38) - (a1)))))) := ⟨_, rfl⟩
  have hl38 : ∀ (d38 k38 : Nat) (g38a : Int32) (W38 : q_V) (h : q_H), k38 + d38 = 16 → lp B38 d38 k38 (g38a, W38) = (lp B38 16 0 (nI 0, V)) → q_ok (gX Γ W38) h → q_A Sc mX0_ageTimers 4 [.ref i, .int (a1), .int (g38a), .int (nI k38)] [] h n 0 0 Q := by
    intro d38
    induction d38 with
    | zero =>
      intro k38 g38a W38 h e38 hT38 hok
      obtain ⟨hq380, hq381⟩ : g38a = ((lp B38 16 0 (nI 0, V)).1) ∧ W38 = ((lp B38 16 0 (nI 0, V)).2) := ⟨congrArg (fun q => q.1) hT38, congrArg (fun q => q.2) hT38⟩
      subst hq380
      subst hq381
      refine q_iload_n dX0_ageTimers_4 rfl ?_
      refine q_bipush (v := nI 16) dX0_ageTimers_5 rfl ?_
      refine t_icmp_ge_n (tgt := 61) (by omega) (by omega) dX0_ageTimers_7 (by decide) (fun c45 => ?_) (fun c45 => ?_)
      rotate_left
      · exact absurd c45 (by omega)
      refine q_aload_n dX0_ageTimers_61 rfl ?_
      refine q_dup dX0_ageTimers_62 rfl ?_
      refine v_geti 2 kX0 (by decide) wPX0_20 dX0_ageTimers_63 hok H.1 rfl ?_
      refine q_iload_n dX0_ageTimers_66 rfl ?_
      refine q_iconst (v := -1) dX0_ageTimers_67 rfl ?_
      refine q_ixor dX0_ageTimers_68 ?_
      refine q_iand dX0_ageTimers_69 ?_
      refine v_puti 2 kX0 (by decide) wPX0_20 rfl dX0_ageTimers_70 hok H.1 rfl ⟨rfl, rfl⟩ (fun h hok => ?_)
      refine q_iload_n dX0_ageTimers_73 rfl ?_
      exact q_iret dX0_ageTimers_74 rfl (rfl) (hQ _ _ (by subst hB38; dsimp only [vX0_ageTimers]) (by subst hB38; dsimp only [fX0_ageTimers]; exact hok))
    | succ d38 ih38 =>
      intro k38 g38a W38 h e38 hT38 hok
      refine q_iload_n dX0_ageTimers_4 rfl ?_
      refine q_bipush (v := nI 16) dX0_ageTimers_5 rfl ?_
      refine t_icmp_ge_n (tgt := 61) (by omega) (by omega) dX0_ageTimers_7 (by decide) (fun c39 => ?_) (fun c39 => ?_)
      · exact absurd c39 (by omega)
      refine q_aload_n dX0_ageTimers_10 rfl ?_
      refine v_getr 0 kX0 (by decide) wPX0_9 dX0_ageTimers_11 hok H.1 rfl ?_
      refine q_iload_n dX0_ageTimers_14 rfl ?_
      refine v_iald (by decide) dX0_ageTimers_15 hok H.2 (j := k38) (by omega) ?_
      refine q_iload_n dX0_ageTimers_16 rfl ?_
      refine q_icmp_le (tgt := 33) dX0_ageTimers_17 (by decide) (fun c40 => ?_) (fun c40 => ?_)
      ·
        refine q_aload_n dX0_ageTimers_33 rfl ?_
        refine v_getr 0 kX0 (by decide) wPX0_9 dX0_ageTimers_34 hok H.1 rfl ?_
        refine q_iload_n dX0_ageTimers_37 rfl ?_
        refine v_iald (by decide) dX0_ageTimers_38 hok H.2 (j := k38) (by omega) ?_
        refine q_if_le (tgt := 55) dX0_ageTimers_39 (by decide) (fun c41 => ?_) (fun c41 => ?_)
        ·
          refine t_iinc_n [.ref i, .int (a1), .int (g38a), .int (nI (k38 + 1))] dX0_ageTimers_55 rfl (by decide) rfl ?_
          refine q_goto (tgt := 4) dX0_ageTimers_58 (by decide) ?_
          exact ih38 (k38 + 1) g38a W38 h (by omega) ((congrArg (lp B38 d38 (k38 + 1)) (show (g38a, W38) = B38 k38 (g38a, W38) from by rw [hB38]; dsimp only; rw [if_pos c40, if_pos c41])).trans hT38) hok
        ·
          refine q_aload_n dX0_ageTimers_42 rfl ?_
          refine v_getr 0 kX0 (by decide) wPX0_9 dX0_ageTimers_43 hok H.1 rfl ?_
          refine q_iload_n dX0_ageTimers_46 rfl ?_
          refine q_iconst (v := nI 0) dX0_ageTimers_47 rfl ?_
          refine v_iast (by decide) dX0_ageTimers_48 hok H.2 (j := k38) (by omega) (fun h hok => ?_)
          refine q_iload_n dX0_ageTimers_49 rfl ?_
          refine q_iconst (v := nI 1) dX0_ageTimers_50 rfl ?_
          refine q_iload_n dX0_ageTimers_51 rfl ?_
          refine q_ishl dX0_ageTimers_52 ?_
          refine q_ior dX0_ageTimers_53 ?_
          refine t_istore [.ref i, .int (a1), .int ((g38a) ||| ((nI 1) <<< ((nI k38) &&& 31))), .int (nI k38)] (Or.inl ⟨2, rfl, rfl, dX0_ageTimers_54⟩) (by decide) rfl ?_
          refine t_iinc_n [.ref i, .int (a1), .int ((g38a) ||| ((nI 1) <<< ((nI k38) &&& 31))), .int (nI (k38 + 1))] dX0_ageTimers_55 rfl (by decide) rfl ?_
          refine q_goto (tgt := 4) dX0_ageTimers_58 (by decide) ?_
          exact ih38 (k38 + 1) ((g38a) ||| ((nI 1) <<< ((nI k38) &&& 31))) ((vset W38 (i + 1) k38 (nI 0))) h (by omega) ((congrArg (lp B38 d38 (k38 + 1)) (show ((g38a) ||| ((nI 1) <<< ((nI k38) &&& 31)), (vset W38 (i + 1) k38 (nI 0))) = B38 k38 (g38a, W38) from by rw [hB38]; dsimp only; rw [if_pos c40, if_neg c41])).trans hT38) hok
      ·
        refine q_aload_n dX0_ageTimers_20 rfl ?_
        refine v_getr 0 kX0 (by decide) wPX0_9 dX0_ageTimers_21 hok H.1 rfl ?_
        refine q_iload_n dX0_ageTimers_24 rfl ?_
        refine q_dup2 dX0_ageTimers_25 rfl rfl ?_
        refine v_iald (by decide) dX0_ageTimers_26 hok H.2 (j := k38) (by omega) ?_
        refine q_iload_n dX0_ageTimers_27 rfl ?_
        refine q_isub dX0_ageTimers_28 ?_
        refine v_iast (by decide) dX0_ageTimers_29 hok H.2 (j := k38) (by omega) (fun h hok => ?_)
        refine q_goto (tgt := 55) dX0_ageTimers_30 (by decide) ?_
        refine t_iinc_n [.ref i, .int (a1), .int (g38a), .int (nI (k38 + 1))] dX0_ageTimers_55 rfl (by decide) rfl ?_
        refine q_goto (tgt := 4) dX0_ageTimers_58 (by decide) ?_
        exact ih38 (k38 + 1) g38a ((vset W38 (i + 1) k38 ((W38 (i + 1) k38) - (a1)))) h (by omega) ((congrArg (lp B38 d38 (k38 + 1)) (show (g38a, (vset W38 (i + 1) k38 ((W38 (i + 1) k38) - (a1)))) = B38 k38 (g38a, W38) from by rw [hB38]; dsimp only; rw [if_neg c40])).trans hT38) hok
  exact hl38 16 0 (nI 0) V h (by omega) rfl hok
def fX0_age (i : Nat) (a1 : Int32) (V : q_V) : q_V := let V47 := fX0_ageTimers i a1 V; if (V47 i 1) = 0 then (V47) else (if a1 < (V47 i 4) then (let V50 := vset V47 i 4 ((V47 i 4) - (a1)); let V51 := vset V50 i 3 ((V50 i 3) ||| (vX0_ageTimers i a1 V)); V51) else (let V52 := fX0_include i V47; V52))
set_option maxRecDepth 20000 in
set_option maxHeartbeats 4000000 in
theorem eX0_age (Sc : q_S) (Γ : Nat → q_K) (n : Nat) (V : q_V) (i : Nat) (H : sF Γ i) (a1 : Int32) : q_fn Sc Γ mX0_age [.ref i, .int (a1)] n V none (fX0_age i a1 V) := by
  refine q_fn.of fun Q h hQ hok => ?_
  show q_A Sc mX0_age 0 [.ref i, .int (a1), .retAddr 0] [] h n 0 0 Q
  refine q_aload_n dX0_age_0 rfl ?_
  refine q_iload_n dX0_age_1 rfl ?_
  refine v_callV (M' := mX0_ageTimers) [.int (a1)] [] kX0 dX0_age_2 wPX0_41v wIX0_ageTimers wSX0_ageTimers iX0_ageTimers oX0_ageTimers rfl hok H.1 (eX0_ageTimers Sc Γ n V i H a1) (Nat.le_of_ble_eq_true rfl) (Nat.le_of_ble_eq_true rfl) (Nat.le_of_ble_eq_true rfl) rfl (fun h hok => ?_)
  refine t_istore [.ref i, .int (a1), .int (vX0_ageTimers i a1 V)] (Or.inl ⟨2, rfl, rfl, dX0_age_5⟩) (by decide) rfl ?_
  refine q_aload_n dX0_age_6 rfl ?_
  refine v_geti 1 kX0 (by decide) wPX0_27 dX0_age_7 hok H.1 rfl ?_
  refine q_if_ne (tgt := 14) dX0_age_10 (by decide) (fun c48 => ?_) (fun c48 => ?_)
  ·
    refine q_aload_n dX0_age_14 rfl ?_
    refine v_geti 4 kX0 (by decide) wPX0_38 dX0_age_15 hok H.1 rfl ?_
    refine q_iload_n dX0_age_18 rfl ?_
    refine q_icmp_gt (tgt := 29) dX0_age_19 (by decide) (fun c49 => ?_) (fun c49 => ?_)
    ·
      refine q_aload_n dX0_age_29 rfl ?_
      refine q_dup dX0_age_30 rfl ?_
      refine v_geti 4 kX0 (by decide) wPX0_38 dX0_age_31 hok H.1 rfl ?_
      refine q_iload_n dX0_age_34 rfl ?_
      refine q_isub dX0_age_35 ?_
      refine v_puti 4 kX0 (by decide) wPX0_38 rfl dX0_age_36 hok H.1 rfl ⟨rfl, rfl⟩ (fun h hok => ?_)
      refine q_aload_n dX0_age_39 rfl ?_
      refine q_dup dX0_age_40 rfl ?_
      refine v_geti 3 kX0 (by decide) wPX0_31 dX0_age_41 hok H.1 rfl ?_
      refine q_iload_n dX0_age_44 rfl ?_
      refine q_ior dX0_age_45 ?_
      refine v_puti 3 kX0 (by decide) wPX0_31 rfl dX0_age_46 hok H.1 rfl ⟨rfl, rfl⟩ (fun h hok => ?_)
      exact q_vret dX0_age_49 rfl (hQ _ _ (rfl) (by dsimp only [fX0_age]; rw [if_neg c48, if_pos c49]; exact hok))
    ·
      refine q_aload_n dX0_age_22 rfl ?_
      refine v_callV (M' := mX0_include) [] [] kX0 dX0_age_23 wPX0_24v wIX0_include wSX0_include iX0_include oX0_include rfl hok H.1 (eX0_include Sc Γ n (fX0_ageTimers i a1 V) i H) (Nat.le_of_ble_eq_true rfl) (Nat.le_of_ble_eq_true rfl) (Nat.le_of_ble_eq_true rfl) rfl (fun h hok => ?_)
      refine q_goto (tgt := 49) dX0_age_26 (by decide) ?_
      exact q_vret dX0_age_49 rfl (hQ _ _ (rfl) (by dsimp only [fX0_age]; rw [if_neg c48, if_neg c49]; exact hok))
  ·
    exact q_vret dX0_age_13 rfl (hQ _ _ (rfl) (by dsimp only [fX0_age]; rw [if_pos c48]; exact hok))
def fX0_lowerTimers (i : Nat) (a1 : Int32) (a2 : Int32) (V : q_V) : q_V := let B53 := fun (k53 : Nat) (s53 : q_V) => let W53 := s53; if (vX4_holds a1 (nI k53) W53) = 0 then (W53) else (let V56 := vset W53 (i + 1) k53 (vJ9_min_7cf53 (W53 (i + 1) k53) a2 W53); V56); let T53 := lp B53 16 0 V; T53
set_option maxRecDepth 20000 in
set_option maxHeartbeats 4000000 in
theorem eX0_lowerTimers (Sc : q_S) (Γ : Nat → q_K) (n : Nat) (V : q_V) (i : Nat) (H : sF Γ i) (a1 : Int32) (a2 : Int32) : q_fn Sc Γ mX0_lowerTimers [.ref i, .int (a1), .int (a2)] n V none (fX0_lowerTimers i a1 a2 V) := by
  refine q_fn.of fun Q h hQ hok => ?_
  show q_A Sc mX0_lowerTimers 0 [.ref i, .int (a1), .int (a2), .retAddr 0] [] h n 0 0 Q
  refine q_iconst (v := nI 0) dX0_lowerTimers_0 rfl ?_
  refine t_istore [.ref i, .int (a1), .int (a2), .int (nI 0)] (Or.inl ⟨3, rfl, rfl, dX0_lowerTimers_1⟩) (by decide) rfl ?_
  obtain ⟨B53, hB53⟩ : ∃ B_ : Nat → q_V → q_V, B_ = (fun (k53 : Nat) (s53 : q_V) => let W53 := s53; if (vX4_holds a1 (nI k53) W53) = 0 then (W53) else ((vset W53 (i + 1) k53 (vJ9_min_7cf53 (W53 (i + 1) k53) a2 W53)))) := ⟨_, rfl⟩
  have hl53 : ∀ (d53 k53 : Nat) (W53 : q_V) (h : q_H), k53 + d53 = 16 → lp B53 d53 k53 W53 = (lp B53 16 0 V) → q_ok (gX Γ W53) h → q_A Sc mX0_lowerTimers 2 [.ref i, .int (a1), .int (a2), .int (nI k53)] [] h n 0 0 Q := by
    intro d53
    induction d53 with
    | zero =>
      intro k53  W53 h e53 hT53 hok
      have hT53 : W53 = (lp B53 16 0 V) := hT53
      subst hT53
      refine q_iload_n dX0_lowerTimers_2 rfl ?_
      refine q_bipush (v := nI 16) dX0_lowerTimers_3 rfl ?_
      refine t_icmp_ge_n (tgt := 38) (by omega) (by omega) dX0_lowerTimers_5 (by decide) (fun c57 => ?_) (fun c57 => ?_)
      rotate_left
      · exact absurd c57 (by omega)
      exact q_vret dX0_lowerTimers_38 rfl (hQ _ _ (rfl) (by subst hB53; dsimp only [fX0_lowerTimers]; exact hok))
    | succ d53 ih53 =>
      intro k53  W53 h e53 hT53 hok
      refine q_iload_n dX0_lowerTimers_2 rfl ?_
      refine q_bipush (v := nI 16) dX0_lowerTimers_3 rfl ?_
      refine t_icmp_ge_n (tgt := 38) (by omega) (by omega) dX0_lowerTimers_5 (by decide) (fun c54 => ?_) (fun c54 => ?_)
      · exact absurd c54 (by omega)
      refine q_iload_n dX0_lowerTimers_8 rfl ?_
      refine q_iload_n dX0_lowerTimers_9 rfl ?_
      refine v_callS (M' := mX4_holds) [.int (a1), .int (nI k53)] [] dX0_lowerTimers_10 wPX0_34 wTX4_holds wNX4 iX4_holds oX4_holds rfl hok (eX4_holds Sc Γ n W53 a1 (nI k53)) (Nat.le_of_ble_eq_true rfl) (Nat.le_of_ble_eq_true rfl) (Nat.le_of_ble_eq_true rfl) rfl (fun h hok => ?_)
      refine q_if_eq (tgt := 32) dX0_lowerTimers_13 (by decide) (fun c55 => ?_) (fun c55 => ?_)
      ·
        refine t_iinc_n [.ref i, .int (a1), .int (a2), .int (nI (k53 + 1))] dX0_lowerTimers_32 rfl (by decide) rfl ?_
        refine q_goto (tgt := 2) dX0_lowerTimers_35 (by decide) ?_
        exact ih53 (k53 + 1) W53 h (by omega) ((congrArg (lp B53 d53 (k53 + 1)) (show W53 = B53 k53 W53 from by rw [hB53]; dsimp only; rw [if_pos c55])).trans hT53) hok
      ·
        refine q_aload_n dX0_lowerTimers_16 rfl ?_
        refine v_getr 0 kX0 (by decide) wPX0_9 dX0_lowerTimers_17 hok H.1 rfl ?_
        refine q_iload_n dX0_lowerTimers_20 rfl ?_
        refine q_aload_n dX0_lowerTimers_21 rfl ?_
        refine v_getr 0 kX0 (by decide) wPX0_9 dX0_lowerTimers_22 hok H.1 rfl ?_
        refine q_iload_n dX0_lowerTimers_25 rfl ?_
        refine v_iald (by decide) dX0_lowerTimers_26 hok H.2 (j := k53) (by omega) ?_
        refine q_iload_n dX0_lowerTimers_27 rfl ?_
        refine v_callS (M' := mJ9_min_7cf53) [.int (W53 (i + 1) k53), .int (a2)] [.int (nI k53), .ref (i + 1)] dX0_lowerTimers_28 wPX0_45 wTJ9_min_7cf53 wNJ9 iJ9_min_7cf53 oJ9_min_7cf53 rfl hok (eJ9_min_7cf53 Sc Γ n W53 (W53 (i + 1) k53) a2) (Nat.le_of_ble_eq_true rfl) (Nat.le_of_ble_eq_true rfl) (Nat.le_of_ble_eq_true rfl) rfl (fun h hok => ?_)
        refine v_iast (by decide) dX0_lowerTimers_31 hok H.2 (j := k53) (by omega) (fun h hok => ?_)
        refine t_iinc_n [.ref i, .int (a1), .int (a2), .int (nI (k53 + 1))] dX0_lowerTimers_32 rfl (by decide) rfl ?_
        refine q_goto (tgt := 2) dX0_lowerTimers_35 (by decide) ?_
        exact ih53 (k53 + 1) ((vset W53 (i + 1) k53 (vJ9_min_7cf53 (W53 (i + 1) k53) a2 W53))) h (by omega) ((congrArg (lp B53 d53 (k53 + 1)) (show (vset W53 (i + 1) k53 (vJ9_min_7cf53 (W53 (i + 1) k53) a2 W53)) = B53 k53 W53 from by rw [hB53]; dsimp only; rw [if_neg c55])).trans hT53) hok
  exact hl53 16 0  V h (by omega) rfl hok
def fX0_lowerOwnTimer (i : Nat) (a1 : Int32) (V : q_V) : q_V := let V58 := vset V i 4 (vJ9_min_7cf53 (V i 4) a1 V); V58
set_option maxRecDepth 20000 in
set_option maxHeartbeats 4000000 in
theorem eX0_lowerOwnTimer (Sc : q_S) (Γ : Nat → q_K) (n : Nat) (V : q_V) (i : Nat) (H : sF Γ i) (a1 : Int32) : q_fn Sc Γ mX0_lowerOwnTimer [.ref i, .int (a1)] n V none (fX0_lowerOwnTimer i a1 V) := by
  refine q_fn.of fun Q h hQ hok => ?_
  show q_A Sc mX0_lowerOwnTimer 0 [.ref i, .int (a1)] [] h n 0 0 Q
  refine q_aload_n dX0_lowerOwnTimer_0 rfl ?_
  refine q_aload_n dX0_lowerOwnTimer_1 rfl ?_
  refine v_geti 4 kX0 (by decide) wPX0_38 dX0_lowerOwnTimer_2 hok H.1 rfl ?_
  refine q_iload_n dX0_lowerOwnTimer_5 rfl ?_
  refine v_callS (M' := mJ9_min_7cf53) [.int (V i 4), .int (a1)] [.ref i] dX0_lowerOwnTimer_6 wPX0_45 wTJ9_min_7cf53 wNJ9 iJ9_min_7cf53 oJ9_min_7cf53 rfl hok (eJ9_min_7cf53 Sc Γ n V (V i 4) a1) (Nat.le_of_ble_eq_true rfl) (Nat.le_of_ble_eq_true rfl) (Nat.le_of_ble_eq_true rfl) rfl (fun h hok => ?_)
  refine v_puti 4 kX0 (by decide) wPX0_38 rfl dX0_lowerOwnTimer_9 hok H.1 rfl ⟨rfl, rfl⟩ (fun h hok => ?_)
  exact q_vret dX0_lowerOwnTimer_12 rfl (hQ _ _ (rfl) (by dsimp only [fX0_lowerOwnTimer]; exact hok))
