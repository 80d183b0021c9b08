def vX1_last (B : Nat) (V : q_V) : Int32 := (V B 3)
set_option maxRecDepth 20000 in
set_option maxHeartbeats 4000000 in
theorem eX1_last (Sc : q_S) (Γ : Nat → q_K) (n : Nat) (V : q_V) (B : Nat) (H : sLk Γ B) : q_fn Sc Γ mX1_last [.ref B] n V (some (.int (vX1_last B V))) V := by
  refine q_fn.of fun Q h hQ hok => ?_
  show q_A Sc mX1_last 0 [.ref B] [] h n 0 0 Q
  refine q_aload_n dX1_last_0 rfl ?_
  refine v_geti 3 kX1 (by decide) wPX1_41 dX1_last_1 hok H.1 rfl ?_
  exact q_iret dX1_last_4 rfl (rfl) (hQ _ _ (by dsimp only [vX1_last]) (hok))
def vX1_grace (B : Nat) (V : q_V) : Int32 := (((V B 3) * (V B 4)) + (V B 5))
set_option maxRecDepth 20000 in
set_option maxHeartbeats 4000000 in
theorem eX1_grace (Sc : q_S) (Γ : Nat → q_K) (n : Nat) (V : q_V) (B : Nat) (H : sLk Γ B) : q_fn Sc Γ mX1_grace [.ref B] n V (some (.int (vX1_grace B V))) V := by
  refine q_fn.of fun Q h hQ hok => ?_
  show q_A Sc mX1_grace 0 [.ref B] [] h n 0 0 Q
  refine q_aload_n dX1_grace_0 rfl ?_
  refine v_geti 3 kX1 (by decide) wPX1_41 dX1_grace_1 hok H.1 rfl ?_
  refine q_aload_n dX1_grace_4 rfl ?_
  refine v_geti 4 kX1 (by decide) wPX1_44 dX1_grace_5 hok H.1 rfl ?_
  refine q_imul dX1_grace_8 ?_
  refine q_aload_n dX1_grace_9 rfl ?_
  refine v_geti 5 kX1 (by decide) wPX1_47 dX1_grace_10 hok H.1 rfl ?_
  refine q_iadd dX1_grace_13 ?_
  exact q_iret dX1_grace_14 rfl (rfl) (hQ _ _ (by dsimp only [vX1_grace]) (hok))
def vX1_asks (B : Nat) (V : q_V) : Int32 := if (V B 6) = (nI 500) then ((nI 1)) else ((nI 0))
set_option maxRecDepth 20000 in
set_option maxHeartbeats 4000000 in
theorem eX1_asks (Sc : q_S) (Γ : Nat → q_K) (n : Nat) (V : q_V) (B : Nat) (H : sLk Γ B) : q_fn Sc Γ mX1_asks [.ref B] n V (some (.int (vX1_asks B V))) V := by
  refine q_fn.of fun Q h hQ hok => ?_
  show q_A Sc mX1_asks 0 [.ref B] [] h n 0 0 Q
  refine q_aload_n dX1_asks_0 rfl ?_
  refine v_geti 6 kX1 (by decide) wPX1_34 dX1_asks_1 hok H.1 rfl ?_
  refine q_sipush (v := nI 500) dX1_asks_4 rfl ?_
  refine q_icmp_ne (tgt := 14) dX1_asks_7 (by decide) (fun c78 => ?_) (fun c78 => ?_)
  ·
    refine q_iconst (v := nI 0) dX1_asks_14 rfl ?_
    exact q_iret dX1_asks_15 rfl (rfl) (hQ _ _ (by dsimp only [vX1_asks]; rw [if_neg c78]) (hok))
  ·
    refine q_iconst (v := nI 1) dX1_asks_10 rfl ?_
    refine q_goto (tgt := 15) dX1_asks_11 (by decide) ?_
    exact q_iret dX1_asks_15 rfl (rfl) (hQ _ _ (by dsimp only [vX1_asks]; rw [if_pos c78]) (hok))
theorem bX1_asks (B : Nat) (V : q_V) : q_bl (vX1_asks B V) := by
  dsimp only [vX1_asks]
  repeat' split
  all_goals first | exact Or.inl rfl | exact Or.inr rfl
def fX1_set (B : Nat) (a1 : Int32) (a2 : Int32) (a3 : Int32) (V : q_V) : q_V := let V79 := vset V B 3 (a1); let V80 := vset V79 B 4 (a2); let V81 := vset V80 B 5 (a3); if (vX1_asks B V81) = 0 then (V81) else (let V83 := vset V81 B 7 (a2); V83)
set_option maxRecDepth 20000 in
set_option maxHeartbeats 4000000 in
theorem eX1_set (Sc : q_S) (Γ : Nat → q_K) (n : Nat) (V : q_V) (B : Nat) (H : sLk Γ B) (a1 : Int32) (a2 : Int32) (a3 : Int32) : q_fn Sc Γ mX1_set [.ref B, .int (a1), .int (a2), .int (a3)] n V none (fX1_set B a1 a2 a3 V) := by
  refine q_fn.of fun Q h hQ hok => ?_
  show q_A Sc mX1_set 0 [.ref B, .int (a1), .int (a2), .int (a3)] [] h n 0 0 Q
  refine q_aload_n dX1_set_0 rfl ?_
  refine q_iload_n dX1_set_1 rfl ?_
  refine v_puti 3 kX1 (by decide) wPX1_41 rfl dX1_set_2 hok H.1 rfl ⟨rfl, rfl⟩ (fun h hok => ?_)
  refine q_aload_n dX1_set_5 rfl ?_
  refine q_iload_n dX1_set_6 rfl ?_
  refine v_puti 4 kX1 (by decide) wPX1_44 rfl dX1_set_7 hok H.1 rfl ⟨rfl, rfl⟩ (fun h hok => ?_)
  refine q_aload_n dX1_set_10 rfl ?_
  refine q_iload_n dX1_set_11 rfl ?_
  refine v_puti 5 kX1 (by decide) wPX1_47 rfl dX1_set_12 hok H.1 rfl ⟨rfl, rfl⟩ (fun h hok => ?_)
  refine q_aload_n dX1_set_15 rfl ?_
  refine v_callV (M' := mX1_asks) [] [] kX1 dX1_set_16 wPX1_50v wIX1_asks wSX1_asks iX1_asks oX1_asks rfl hok H.1 (eX1_asks Sc Γ n (vset (vset (vset V B 3 (a1)) B 4 (a2)) B 5 (a3)) B H) (Nat.le_of_ble_eq_true rfl) (Nat.le_of_ble_eq_true rfl) (Nat.le_of_ble_eq_true rfl) rfl (fun h hok => ?_)
  refine q_if_eq (tgt := 27) dX1_set_19 (by decide) (fun c82 => ?_) (fun c82 => ?_)
  ·
    exact q_vret dX1_set_27 rfl (hQ _ _ (rfl) (by dsimp only [fX1_set]; rw [if_pos c82]; exact hok))
  ·
    refine q_aload_n dX1_set_22 rfl ?_
    refine q_iload_n dX1_set_23 rfl ?_
    refine v_puti 7 kX1 (by decide) wPX1_54 rfl dX1_set_24 hok H.1 rfl ⟨rfl, rfl⟩ (fun h hok => ?_)
    exact q_vret dX1_set_27 rfl (hQ _ _ (rfl) (by dsimp only [fX1_set]; rw [if_neg c82]; exact hok))
def vX1_records (B : Nat) (V : q_V) : Int32 := let B84 := fun (k84 : Nat) (s84 : Int32) => let g84a := s84; if (vX0_state (B + 3 + 2 * k84) V) = (-1) then (g84a) else (g84a + Int32.ofInt (1)); let T84 := lp B84 8 0 (nI 0); T84
set_option maxRecDepth 20000 in
set_option maxHeartbeats 4000000 in
theorem eX1_records (Sc : q_S) (Γ : Nat → q_K) (n : Nat) (V : q_V) (B : Nat) (H : sLk Γ B) : q_fn Sc Γ mX1_records [.ref B] n V (some (.int (vX1_records B V))) V := by
  refine q_fn.of fun Q h hQ hok => ?_
  show q_A Sc mX1_records 0 [.ref B, .retAddr 0, .retAddr 0] [] h n 0 0 Q
  refine q_iconst (v := nI 0) dX1_records_0 rfl ?_
  refine t_istore [.ref B, .int (nI 0), .retAddr 0] (Or.inl ⟨1, rfl, rfl, dX1_records_1⟩) (by decide) rfl ?_
  refine q_iconst (v := nI 0) dX1_records_2 rfl ?_
  refine t_istore [.ref B, .int (nI 0), .int (nI 0)] (Or.inl ⟨2, rfl, rfl, dX1_records_3⟩) (by decide) rfl ?_
  obtain ⟨B84, hB84⟩ : ∃ B_ : Nat → Int32 → Int32, B_ = (fun (k84 : Nat) (s84 : Int32) => let g84a := s84; if (vX0_state (B + 3 + 2 * k84) V) = (-1) then (g84a) else (g84a + Int32.ofInt (1))) := ⟨_, rfl⟩
  have hl84 : ∀ (d84 k84 : Nat) (g84a : Int32) (h : q_H), k84 + d84 = 8 → lp B84 d84 k84 g84a = (lp B84 8 0 (nI 0)) → q_ok (gX Γ V) h → q_A Sc mX1_records 4 [.ref B, .int (g84a), .int (nI k84)] [] h n 0 0 Q := by
    intro d84
    induction d84 with
    | zero =>
      intro k84 g84a h e84 hT84 hok
      have hT84 : g84a = (lp B84 8 0 (nI 0)) := hT84
      subst hT84
      refine q_iload_n dX1_records_4 rfl ?_
      refine q_bipush (v := nI 8) dX1_records_5 rfl ?_
      refine t_icmp_ge_n (tgt := 32) (by omega) (by omega) dX1_records_7 (by decide) (fun c87 => ?_) (fun c87 => ?_)
      rotate_left
      · exact absurd c87 (by omega)
      refine q_iload_n dX1_records_32 rfl ?_
      exact q_iret dX1_records_33 rfl (rfl) (hQ _ _ (by subst hB84; dsimp only [vX1_records]) (hok))
    | succ d84 ih84 =>
      intro k84 g84a h e84 hT84 hok
      refine q_iload_n dX1_records_4 rfl ?_
      refine q_bipush (v := nI 8) dX1_records_5 rfl ?_
      refine t_icmp_ge_n (tgt := 32) (by omega) (by omega) dX1_records_7 (by decide) (fun c85 => ?_) (fun c85 => ?_)
      · exact absurd c85 (by omega)
      refine q_aload_n dX1_records_10 rfl ?_
      refine v_getr 1 kX1 (by decide) wPX1_11 dX1_records_11 hok H.1 rfl ?_
      refine q_iload_n dX1_records_14 rfl ?_
      refine v_aald (j := k84) (z := B + 3 + 2 * k84) "GroupFilters$Filter" dX1_records_15 hok H.2.1 rfl (rg_at (by omega)) (by rw [rg_len]; omega) ?_
      refine v_callV (M' := mX0_state) [] [] kX0 dX1_records_16 wPX1_57v wIX0_state wSX0_state iX0_state oX0_state rfl hok (H.2.2.2.1 k84 (by omega)).1 (eX0_state Sc Γ n V (B + 3 + 2 * k84) (H.2.2.2.1 k84 (by omega))) (Nat.le_of_ble_eq_true rfl) (Nat.le_of_ble_eq_true rfl) (Nat.le_of_ble_eq_true rfl) rfl (fun h hok => ?_)
      refine q_iconst (v := -1) dX1_records_19 rfl ?_
      refine q_icmp_eq (tgt := 26) dX1_records_20 (by decide) (fun c86 => ?_) (fun c86 => ?_)
      ·
        refine t_iinc_n [.ref B, .int (g84a), .int (nI (k84 + 1))] dX1_records_26 rfl (by decide) rfl ?_
        refine q_goto (tgt := 4) dX1_records_29 (by decide) ?_
        exact ih84 (k84 + 1) g84a h (by omega) ((congrArg (lp B84 d84 (k84 + 1)) (show g84a = B84 k84 g84a from by rw [hB84]; dsimp only; rw [if_pos c86])).trans hT84) hok
      ·
        refine t_iinc [.ref B, .int (g84a + Int32.ofInt (1)), .int (nI k84)] dX1_records_23 rfl rfl (by decide) rfl ?_
        refine t_iinc_n [.ref B, .int (g84a + Int32.ofInt (1)), .int (nI (k84 + 1))] dX1_records_26 rfl (by decide) rfl ?_
        refine q_goto (tgt := 4) dX1_records_29 (by decide) ?_
        exact ih84 (k84 + 1) (g84a + Int32.ofInt (1)) h (by omega) ((congrArg (lp B84 d84 (k84 + 1)) (show g84a + Int32.ofInt (1) = B84 k84 g84a from by rw [hB84]; dsimp only; rw [if_neg c86])).trans hT84) hok
  exact hl84 8 0 (nI 0) h (by omega) rfl hok
def fX1_yieldTo (B : Nat) (a1 : Int32) (V : q_V) : q_V := let V88 := vset V B 6 (vJ9_min_7cf53 (V B 6) a1 V); let V89 := vset V88 B 7 (((V88 B 3) * (V88 B 4)) + ((V88 B 5) / (nI 2))); V89
set_option maxRecDepth 20000 in
set_option maxHeartbeats 4000000 in
theorem eX1_yieldTo (Sc : q_S) (Γ : Nat → q_K) (n : Nat) (V : q_V) (B : Nat) (H : sLk Γ B) (a1 : Int32) : q_fn Sc Γ mX1_yieldTo [.ref B, .int (a1)] n V none (fX1_yieldTo B a1 V) := by
  refine q_fn.of fun Q h hQ hok => ?_
  show q_A Sc mX1_yieldTo 0 [.ref B, .int (a1)] [] h n 0 0 Q
  refine q_aload_n dX1_yieldTo_0 rfl ?_
  refine q_aload_n dX1_yieldTo_1 rfl ?_
  refine v_geti 6 kX1 (by decide) wPX1_34 dX1_yieldTo_2 hok H.1 rfl ?_
  refine q_iload_n dX1_yieldTo_5 rfl ?_
  refine v_callS (M' := mJ9_min_7cf53) [.int (V B 6), .int (a1)] [.ref B] dX1_yieldTo_6 wPX1_61 wTJ9_min_7cf53 wNJ9 iJ9_min_7cf53 oJ9_min_7cf53 rfl hok (eJ9_min_7cf53 Sc Γ n V (V B 6) a1) (Nat.le_of_ble_eq_true rfl) (Nat.le_of_ble_eq_true rfl) (Nat.le_of_ble_eq_true rfl) rfl (fun h hok => ?_)
  refine v_puti 6 kX1 (by decide) wPX1_34 rfl dX1_yieldTo_9 hok H.1 rfl ⟨rfl, rfl⟩ (fun h hok => ?_)
  refine q_aload_n dX1_yieldTo_12 rfl ?_
  refine q_aload_n dX1_yieldTo_13 rfl ?_
  refine v_geti 3 kX1 (by decide) wPX1_41 dX1_yieldTo_14 hok H.1 rfl ?_
  refine q_aload_n dX1_yieldTo_17 rfl ?_
  refine v_geti 4 kX1 (by decide) wPX1_44 dX1_yieldTo_18 hok H.1 rfl ?_
  refine q_imul dX1_yieldTo_21 ?_
  refine q_aload_n dX1_yieldTo_22 rfl ?_
  refine v_geti 5 kX1 (by decide) wPX1_47 dX1_yieldTo_23 hok H.1 rfl ?_
  refine q_iconst (v := nI 2) dX1_yieldTo_26 rfl ?_
  refine q_idiv dX1_yieldTo_27 (by decide) ?_
  refine q_iadd dX1_yieldTo_28 ?_
  refine v_puti 7 kX1 (by decide) wPX1_54 rfl dX1_yieldTo_29 hok H.1 rfl ⟨rfl, rfl⟩ (fun h hok => ?_)
  exact q_vret dX1_yieldTo_32 rfl (hQ _ _ (rfl) (by dsimp only [fX1_yieldTo]; exact hok))
def fX1_ageFilters (B : Nat) (a1 : Int32) (V : q_V) : q_V := let B90 := fun (k90 : Nat) (s90 : q_V) => let W90 := s90; let V92 := fX0_age (B + 3 + 2 * k90) a1 W90; V92; let T90 := lp B90 8 0 V; T90
set_option maxRecDepth 20000 in
set_option maxHeartbeats 4000000 in
theorem eX1_ageFilters (Sc : q_S) (Γ : Nat → q_K) (n : Nat) (V : q_V) (B : Nat) (H : sLk Γ B) (a1 : Int32) : q_fn Sc Γ mX1_ageFilters [.ref B, .int (a1)] n V none (fX1_ageFilters B a1 V) := by
  refine q_fn.of fun Q h hQ hok => ?_
  show q_A Sc mX1_ageFilters 0 [.ref B, .int (a1), .retAddr 0] [] h n 0 0 Q
  refine q_iconst (v := nI 0) dX1_ageFilters_0 rfl ?_
  refine t_istore [.ref B, .int (a1), .int (nI 0)] (Or.inl ⟨2, rfl, rfl, dX1_ageFilters_1⟩) (by decide) rfl ?_
  obtain ⟨B90, hB90⟩ : ∃ B_ : Nat → q_V → q_V, B_ = (fun (k90 : Nat) (s90 : q_V) => let W90 := s90; (fX0_age (B + 3 + 2 * k90) a1 W90)) := ⟨_, rfl⟩
  have hl90 : ∀ (d90 k90 : Nat) (W90 : q_V) (h : q_H), k90 + d90 = 8 → lp B90 d90 k90 W90 = (lp B90 8 0 V) → q_ok (gX Γ W90) h → q_A Sc mX1_ageFilters 2 [.ref B, .int (a1), .int (nI k90)] [] h n 0 0 Q := by
    intro d90
    induction d90 with
    | zero =>
      intro k90  W90 h e90 hT90 hok
      have hT90 : W90 = (lp B90 8 0 V) := hT90
      subst hT90
      refine q_iload_n dX1_ageFilters_2 rfl ?_
      refine q_bipush (v := nI 8) dX1_ageFilters_3 rfl ?_
      refine t_icmp_ge_n (tgt := 24) (by omega) (by omega) dX1_ageFilters_5 (by decide) (fun c93 => ?_) (fun c93 => ?_)
      rotate_left
      · exact absurd c93 (by omega)
      exact q_vret dX1_ageFilters_24 rfl (hQ _ _ (rfl) (by subst hB90; dsimp only [fX1_ageFilters]; exact hok))
    | succ d90 ih90 =>
      intro k90  W90 h e90 hT90 hok
      refine q_iload_n dX1_ageFilters_2 rfl ?_
      refine q_bipush (v := nI 8) dX1_ageFilters_3 rfl ?_
      refine t_icmp_ge_n (tgt := 24) (by omega) (by omega) dX1_ageFilters_5 (by decide) (fun c91 => ?_) (fun c91 => ?_)
      · exact absurd c91 (by omega)
      refine q_aload_n dX1_ageFilters_8 rfl ?_
      refine v_getr 1 kX1 (by decide) wPX1_11 dX1_ageFilters_9 hok H.1 rfl ?_
      refine q_iload_n dX1_ageFilters_12 rfl ?_
      refine v_aald (j := k90) (z := B + 3 + 2 * k90) "GroupFilters$Filter" dX1_ageFilters_13 hok H.2.1 rfl (rg_at (by omega)) (by rw [rg_len]; omega) ?_
      refine q_iload_n dX1_ageFilters_14 rfl ?_
      refine v_callV (M' := mX0_age) [.int (a1)] [] kX0 dX1_ageFilters_15 wPX1_67v wIX0_age wSX0_age iX0_age oX0_age rfl hok (H.2.2.2.1 k90 (by omega)).1 (eX0_age Sc Γ n W90 (B + 3 + 2 * k90) (H.2.2.2.1 k90 (by omega)) a1) (Nat.le_of_ble_eq_true rfl) (Nat.le_of_ble_eq_true rfl) (Nat.le_of_ble_eq_true rfl) rfl (fun h hok => ?_)
      refine t_iinc_n [.ref B, .int (a1), .int (nI (k90 + 1))] dX1_ageFilters_18 rfl (by decide) rfl ?_
      refine q_goto (tgt := 2) dX1_ageFilters_21 (by decide) ?_
      exact ih90 (k90 + 1) ((fX0_age (B + 3 + 2 * k90) a1 W90)) h (by omega) ((congrArg (lp B90 d90 (k90 + 1)) (show (fX0_age (B + 3 + 2 * k90) a1 W90) = B90 k90 W90 from by rw [hB90] <;> dsimp only)).trans hT90) hok
  exact hl90 8 0  V h (by omega) rfl hok
def fX1_runClock (B : Nat) (lg : Nat) (a2 : Int32) (V : q_V) : q_V := let V94 := vset V B 7 ((V B 7) - (a2)); if (V94 B 7) ≤ 0 then (if (vX1_asks B V94) = 0 then (let V97 := vset V94 B 6 (nI 500); let V98 := vset V97 B 7 (V97 B 4); V98) else (let V99 := fX3_add lg (V94 B 0) (-1) (nI 0) V94; let V100 := vset V99 B 6 (nI 500); let V101 := vset V100 B 7 (V100 B 4); V101)) else (V94)
set_option maxRecDepth 20000 in
set_option maxHeartbeats 4000000 in
theorem eX1_runClock (Sc : q_S) (Γ : Nat → q_K) (n : Nat) (V : q_V) (B : Nat) (H : sLk Γ B) (lg : Nat) (Hg : sLg Γ lg) (a2 : Int32) : q_fn Sc Γ mX1_runClock [.ref B, .ref lg, .int (a2)] n V none (fX1_runClock B lg a2 V) := by
  refine q_fn.of fun Q h hQ hok => ?_
  show q_A Sc mX1_runClock 0 [.ref B, .ref lg, .int (a2)] [] h n 0 0 Q
  refine q_aload_n dX1_runClock_0 rfl ?_
  refine q_dup dX1_runClock_1 rfl ?_
  refine v_geti 7 kX1 (by decide) wPX1_54 dX1_runClock_2 hok H.1 rfl ?_
  refine q_iload_n dX1_runClock_5 rfl ?_
  refine q_isub dX1_runClock_6 ?_
  refine v_puti 7 kX1 (by decide) wPX1_54 rfl dX1_runClock_7 hok H.1 rfl ⟨rfl, rfl⟩ (fun h hok => ?_)
  refine q_aload_n dX1_runClock_10 rfl ?_
  refine v_geti 7 kX1 (by decide) wPX1_54 dX1_runClock_11 hok H.1 rfl ?_
  refine q_if_le (tgt := 18) dX1_runClock_14 (by decide) (fun c95 => ?_) (fun c95 => ?_)
  ·
    refine q_aload_n dX1_runClock_18 rfl ?_
    refine v_callV (M' := mX1_asks) [] [] kX1 dX1_runClock_19 wPX1_50v wIX1_asks wSX1_asks iX1_asks oX1_asks rfl hok H.1 (eX1_asks Sc Γ n (vset V B 7 ((V B 7) - (a2))) B H) (Nat.le_of_ble_eq_true rfl) (Nat.le_of_ble_eq_true rfl) (Nat.le_of_ble_eq_true rfl) rfl (fun h hok => ?_)
    refine q_if_eq (tgt := 35) dX1_runClock_22 (by decide) (fun c96 => ?_) (fun c96 => ?_)
    ·
      refine q_aload_n dX1_runClock_35 rfl ?_
      refine q_sipush (v := nI 500) dX1_runClock_36 rfl ?_
      refine v_puti 6 kX1 (by decide) wPX1_34 rfl dX1_runClock_39 hok H.1 rfl ⟨rfl, rfl⟩ (fun h hok => ?_)
      refine q_aload_n dX1_runClock_42 rfl ?_
      refine q_aload_n dX1_runClock_43 rfl ?_
      refine v_geti 4 kX1 (by decide) wPX1_44 dX1_runClock_44 hok H.1 rfl ?_
      refine v_puti 7 kX1 (by decide) wPX1_54 rfl dX1_runClock_47 hok H.1 rfl ⟨rfl, rfl⟩ (fun h hok => ?_)
      exact q_vret dX1_runClock_50 rfl (hQ _ _ (rfl) (by dsimp only [fX1_runClock]; rw [if_pos c95, if_pos c96]; exact hok))
    ·
      refine q_aload_n dX1_runClock_25 rfl ?_
      refine q_aload_n dX1_runClock_26 rfl ?_
      refine v_geti 0 kX1 (by decide) wPX1_23 dX1_runClock_27 hok H.1 rfl ?_
      refine q_iconst (v := -1) dX1_runClock_30 rfl ?_
      refine q_iconst (v := nI 0) dX1_runClock_31 rfl ?_
      refine v_callV (M' := mX3_add) [.int ((vset V B 7 ((V B 7) - (a2))) B 0), .int (-1), .int (nI 0)] [] kX3 dX1_runClock_32 wPX1_71v wIX3_add wSX3_add iX3_add oX3_add rfl hok Hg.1 (eX3_add Sc Γ n (vset V B 7 ((V B 7) - (a2))) lg Hg ((vset V B 7 ((V B 7) - (a2))) B 0) (-1) (nI 0)) (Nat.le_of_ble_eq_true rfl) (Nat.le_of_ble_eq_true rfl) (Nat.le_of_ble_eq_true rfl) rfl (fun h hok => ?_)
      refine q_aload_n dX1_runClock_35 rfl ?_
      refine q_sipush (v := nI 500) dX1_runClock_36 rfl ?_
      refine v_puti 6 kX1 (by decide) wPX1_34 rfl dX1_runClock_39 hok H.1 rfl ⟨rfl, rfl⟩ (fun h hok => ?_)
      refine q_aload_n dX1_runClock_42 rfl ?_
      refine q_aload_n dX1_runClock_43 rfl ?_
      refine v_geti 4 kX1 (by decide) wPX1_44 dX1_runClock_44 hok H.1 rfl ?_
      refine v_puti 7 kX1 (by decide) wPX1_54 rfl dX1_runClock_47 hok H.1 rfl ⟨rfl, rfl⟩ (fun h hok => ?_)
      exact q_vret dX1_runClock_50 rfl (hQ _ _ (rfl) (by dsimp only [fX1_runClock]; rw [if_pos c95, if_neg c96]; exact hok))
  ·
    exact q_vret dX1_runClock_17 rfl (hQ _ _ (rfl) (by dsimp only [fX1_runClock]; rw [if_neg c95]; exact hok))
def fX1_askSources (B : Nat) (lg : Nat) (a2 : Nat) (a3 : Int32) (V : q_V) : q_V := if a3 = 0 then (V) else (if (vX1_asks B V) = 0 then (V) else (let V104 := fX3_add lg (V B 0) (nI a2) a3 V; let V105 := fX0_lowerTimers (B + 3 + 2 * a2) a3 (vX1_last B V104) V104; V105))
set_option maxRecDepth 20000 in
set_option maxHeartbeats 4000000 in
theorem eX1_askSources (Sc : q_S) (Γ : Nat → q_K) (n : Nat) (V : q_V) (B : Nat) (H : sLk Γ B) (lg : Nat) (Hg : sLg Γ lg) (a2 : Nat) (b2 : a2 < 8) (a3 : Int32) : q_fn Sc Γ mX1_askSources [.ref B, .ref lg, .int (nI a2), .int (a3)] n V none (fX1_askSources B lg a2 a3 V) := by
  refine q_fn.of fun Q h hQ hok => ?_
  show q_A Sc mX1_askSources 0 [.ref B, .ref lg, .int (nI a2), .int (a3)] [] h n 0 0 Q
  refine q_iload_n dX1_askSources_0 rfl ?_
  refine q_if_eq (tgt := 35) dX1_askSources_1 (by decide) (fun c102 => ?_) (fun c102 => ?_)
  ·
    exact q_vret dX1_askSources_35 rfl (hQ _ _ (rfl) (by dsimp only [fX1_askSources]; rw [if_pos c102]; exact hok))
  ·
    refine q_aload_n dX1_askSources_4 rfl ?_
    refine v_callV (M' := mX1_asks) [] [] kX1 dX1_askSources_5 wPX1_50v wIX1_asks wSX1_asks iX1_asks oX1_asks rfl hok H.1 (eX1_asks Sc Γ n V B H) (Nat.le_of_ble_eq_true rfl) (Nat.le_of_ble_eq_true rfl) (Nat.le_of_ble_eq_true rfl) rfl (fun h hok => ?_)
    refine q_if_eq (tgt := 35) dX1_askSources_8 (by decide) (fun c103 => ?_) (fun c103 => ?_)
    ·
      exact q_vret dX1_askSources_35 rfl (hQ _ _ (rfl) (by dsimp only [fX1_askSources]; rw [if_neg c102, if_pos c103]; exact hok))
    ·
      refine q_aload_n dX1_askSources_11 rfl ?_
      refine q_aload_n dX1_askSources_12 rfl ?_
      refine v_geti 0 kX1 (by decide) wPX1_23 dX1_askSources_13 hok H.1 rfl ?_
      refine q_iload_n dX1_askSources_16 rfl ?_
      refine q_iload_n dX1_askSources_17 rfl ?_
      refine v_callV (M' := mX3_add) [.int (V B 0), .int (nI a2), .int (a3)] [] kX3 dX1_askSources_18 wPX1_71v wIX3_add wSX3_add iX3_add oX3_add rfl hok Hg.1 (eX3_add Sc Γ n V lg Hg (V B 0) (nI a2) a3) (Nat.le_of_ble_eq_true rfl) (Nat.le_of_ble_eq_true rfl) (Nat.le_of_ble_eq_true rfl) rfl (fun h hok => ?_)
      refine q_aload_n dX1_askSources_21 rfl ?_
      refine v_getr 1 kX1 (by decide) wPX1_11 dX1_askSources_22 hok H.1 rfl ?_
      refine q_iload_n dX1_askSources_25 rfl ?_
      refine v_aald (j := a2) (z := B + 3 + 2 * a2) "GroupFilters$Filter" dX1_askSources_26 hok H.2.1 rfl (rg_at (by omega)) (by rw [rg_len]; omega) ?_
      refine q_iload_n dX1_askSources_27 rfl ?_
      refine q_aload_n dX1_askSources_28 rfl ?_
      refine v_callV (M' := mX1_last) [] [.int (a3), .ref (B + 3 + 2 * a2)] kX1 dX1_askSources_29 wPX1_120v wIX1_last wSX1_last iX1_last oX1_last rfl hok H.1 (eX1_last Sc Γ n (fX3_add lg (V B 0) (nI a2) a3 V) B H) (Nat.le_of_ble_eq_true rfl) (Nat.le_of_ble_eq_true rfl) (Nat.le_of_ble_eq_true rfl) rfl (fun h hok => ?_)
      refine v_callV (M' := mX0_lowerTimers) [.int (a3), .int (vX1_last B (fX3_add lg (V B 0) (nI a2) a3 V))] [] kX0 dX1_askSources_32 wPX1_123v wIX0_lowerTimers wSX0_lowerTimers iX0_lowerTimers oX0_lowerTimers rfl hok (H.2.2.2.1 a2 (by omega)).1 (eX0_lowerTimers Sc Γ n (fX3_add lg (V B 0) (nI a2) a3 V) (B + 3 + 2 * a2) (H.2.2.2.1 a2 (by omega)) a3 (vX1_last B (fX3_add lg (V B 0) (nI a2) a3 V))) (Nat.le_of_ble_eq_true rfl) (Nat.le_of_ble_eq_true rfl) (Nat.le_of_ble_eq_true rfl) rfl (fun h hok => ?_)
      exact q_vret dX1_askSources_35 rfl (hQ _ _ (rfl) (by dsimp only [fX1_askSources]; rw [if_neg c102, if_neg c103]; exact hok))
def fX1_askGroup (B : Nat) (lg : Nat) (a2 : Nat) (V : q_V) : q_V := if (vX1_asks B V) = 0 then (V) else (let V107 := fX3_add lg (V B 0) (nI a2) (nI 0) V; let V108 := fX0_lowerOwnTimer (B + 3 + 2 * a2) (vX1_last B V107) V107; V108)
set_option maxRecDepth 20000 in
set_option maxHeartbeats 4000000 in
theorem eX1_askGroup (Sc : q_S) (Γ : Nat → q_K) (n : Nat) (V : q_V) (B : Nat) (H : sLk Γ B) (lg : Nat) (Hg : sLg Γ lg) (a2 : Nat) (b2 : a2 < 8) : q_fn Sc Γ mX1_askGroup [.ref B, .ref lg, .int (nI a2)] n V none (fX1_askGroup B lg a2 V) := by
  refine q_fn.of fun Q h hQ hok => ?_
  show q_A Sc mX1_askGroup 0 [.ref B, .ref lg, .int (nI a2)] [] h n 0 0 Q
  refine q_aload_n dX1_askGroup_0 rfl ?_
  refine v_callV (M' := mX1_asks) [] [] kX1 dX1_askGroup_1 wPX1_50v wIX1_asks wSX1_asks iX1_asks oX1_asks rfl hok H.1 (eX1_asks Sc Γ n V B H) (Nat.le_of_ble_eq_true rfl) (Nat.le_of_ble_eq_true rfl) (Nat.le_of_ble_eq_true rfl) rfl (fun h hok => ?_)
  refine q_if_eq (tgt := 30) dX1_askGroup_4 (by decide) (fun c106 => ?_) (fun c106 => ?_)
  ·
    exact q_vret dX1_askGroup_30 rfl (hQ _ _ (rfl) (by dsimp only [fX1_askGroup]; rw [if_pos c106]; exact hok))
  ·
    refine q_aload_n dX1_askGroup_7 rfl ?_
    refine q_aload_n dX1_askGroup_8 rfl ?_
    refine v_geti 0 kX1 (by decide) wPX1_23 dX1_askGroup_9 hok H.1 rfl ?_
    refine q_iload_n dX1_askGroup_12 rfl ?_
    refine q_iconst (v := nI 0) dX1_askGroup_13 rfl ?_
    refine v_callV (M' := mX3_add) [.int (V B 0), .int (nI a2), .int (nI 0)] [] kX3 dX1_askGroup_14 wPX1_71v wIX3_add wSX3_add iX3_add oX3_add rfl hok Hg.1 (eX3_add Sc Γ n V lg Hg (V B 0) (nI a2) (nI 0)) (Nat.le_of_ble_eq_true rfl) (Nat.le_of_ble_eq_true rfl) (Nat.le_of_ble_eq_true rfl) rfl (fun h hok => ?_)
    refine q_aload_n dX1_askGroup_17 rfl ?_
    refine v_getr 1 kX1 (by decide) wPX1_11 dX1_askGroup_18 hok H.1 rfl ?_
    refine q_iload_n dX1_askGroup_21 rfl ?_
    refine v_aald (j := a2) (z := B + 3 + 2 * a2) "GroupFilters$Filter" dX1_askGroup_22 hok H.2.1 rfl (rg_at (by omega)) (by rw [rg_len]; omega) ?_
    refine q_aload_n dX1_askGroup_23 rfl ?_
    refine v_callV (M' := mX1_last) [] [.ref (B + 3 + 2 * a2)] kX1 dX1_askGroup_24 wPX1_120v wIX1_last wSX1_last iX1_last oX1_last rfl hok H.1 (eX1_last Sc Γ n (fX3_add lg (V B 0) (nI a2) (nI 0) V) B H) (Nat.le_of_ble_eq_true rfl) (Nat.le_of_ble_eq_true rfl) (Nat.le_of_ble_eq_true rfl) rfl (fun h hok => ?_)
    refine v_callV (M' := mX0_lowerOwnTimer) [.int (vX1_last B (fX3_add lg (V B 0) (nI a2) (nI 0) V))] [] kX0 dX1_askGroup_27 wPX1_126v wIX0_lowerOwnTimer wSX0_lowerOwnTimer iX0_lowerOwnTimer oX0_lowerOwnTimer rfl hok (H.2.2.2.1 a2 (by omega)).1 (eX0_lowerOwnTimer Sc Γ n (fX3_add lg (V B 0) (nI a2) (nI 0) V) (B + 3 + 2 * a2) (H.2.2.2.1 a2 (by omega)) (vX1_last B (fX3_add lg (V B 0) (nI a2) (nI 0) V))) (Nat.le_of_ble_eq_true rfl) (Nat.le_of_ble_eq_true rfl) (Nat.le_of_ble_eq_true rfl) rfl (fun h hok => ?_)
    exact q_vret dX1_askGroup_30 rfl (hQ _ _ (rfl) (by dsimp only [fX1_askGroup]; rw [if_neg c106]; exact hok))
def fX1_hearToIn (B : Nat) (lg : Nat) (a2 : Nat) (a3 : Int32) (V : q_V) : q_V := let V109 := fX0_allow (B + 3 + 2 * a2) a3 (vX1_grace B V) V; let V110 := fX1_askSources B lg a2 ((V (B + 3 + 2 * a2) 2) &&& ((a3) ^^^ (-1))) V109; if (V110 (B + 3 + 2 * a2) 1) = 0 then (V110) else (let V112 := fX1_askGroup B lg a2 V110; V112)
set_option maxRecDepth 20000 in
set_option maxHeartbeats 4000000 in
theorem eX1_hearToIn (Sc : q_S) (Γ : Nat → q_K) (n : Nat) (V : q_V) (B : Nat) (H : sLk Γ B) (lg : Nat) (Hg : sLg Γ lg) (a2 : Nat) (b2 : a2 < 8) (a3 : Int32) : q_fn Sc Γ mX1_hearToIn [.ref B, .ref lg, .int (nI a2), .int (a3)] n V none (fX1_hearToIn B lg a2 a3 V) := by
  refine q_fn.of fun Q h hQ hok => ?_
  show q_A Sc mX1_hearToIn 0 [.ref B, .ref lg, .int (nI a2), .int (a3), .retAddr 0, .retAddr 0] [] h n 0 0 Q
  refine q_aload_n dX1_hearToIn_0 rfl ?_
  refine v_getr 1 kX1 (by decide) wPX1_11 dX1_hearToIn_1 hok H.1 rfl ?_
  refine q_iload_n dX1_hearToIn_4 rfl ?_
  refine v_aald (j := a2) (z := B + 3 + 2 * a2) "GroupFilters$Filter" dX1_hearToIn_5 hok H.2.1 rfl (rg_at (by omega)) (by rw [rg_len]; omega) ?_
  refine q_astore dX1_hearToIn_6 (by decide) ?_
  refine q_aload dX1_hearToIn_8 rfl ?_
  refine v_geti 2 kX0 (by decide) wPX1_96 dX1_hearToIn_10 hok (H.2.2.2.1 a2 (by omega)).1 rfl ?_
  refine q_iload_n dX1_hearToIn_13 rfl ?_
  refine q_iconst (v := -1) dX1_hearToIn_14 rfl ?_
  refine q_ixor dX1_hearToIn_15 ?_
  refine q_iand dX1_hearToIn_16 ?_
  refine t_istore [.ref B, .ref lg, .int (nI a2), .int (a3), .ref (B + 3 + 2 * a2), .int ((V (B + 3 + 2 * a2) 2) &&& ((a3) ^^^ (-1)))] (Or.inr ⟨rfl, dX1_hearToIn_17⟩) (by decide) rfl ?_
  refine q_aload dX1_hearToIn_19 rfl ?_
  refine q_iload_n dX1_hearToIn_21 rfl ?_
  refine q_aload_n dX1_hearToIn_22 rfl ?_
  refine v_callV (M' := mX1_grace) [] [.int (a3), .ref (B + 3 + 2 * a2)] kX1 dX1_hearToIn_23 wPX1_76v wIX1_grace wSX1_grace iX1_grace oX1_grace rfl hok H.1 (eX1_grace Sc Γ n V B H) (Nat.le_of_ble_eq_true rfl) (Nat.le_of_ble_eq_true rfl) (Nat.le_of_ble_eq_true rfl) rfl (fun h hok => ?_)
  refine v_callV (M' := mX0_allow) [.int (a3), .int (vX1_grace B V)] [] kX0 dX1_hearToIn_26 wPX1_92v wIX0_allow wSX0_allow iX0_allow oX0_allow rfl hok (H.2.2.2.1 a2 (by omega)).1 (eX0_allow Sc Γ n V (B + 3 + 2 * a2) (H.2.2.2.1 a2 (by omega)) a3 (vX1_grace B V)) (Nat.le_of_ble_eq_true rfl) (Nat.le_of_ble_eq_true rfl) (Nat.le_of_ble_eq_true rfl) rfl (fun h hok => ?_)
  refine q_aload_n dX1_hearToIn_29 rfl ?_
  refine q_aload_n dX1_hearToIn_30 rfl ?_
  refine q_iload_n dX1_hearToIn_31 rfl ?_
  refine q_iload dX1_hearToIn_32 rfl ?_
  refine v_callV (M' := mX1_askSources) [.ref lg, .int (nI a2), .int ((V (B + 3 + 2 * a2) 2) &&& ((a3) ^^^ (-1)))] [] kX1 dX1_hearToIn_34 wPX1_99v wIX1_askSources wSX1_askSources iX1_askSources oX1_askSources rfl hok H.1 (eX1_askSources Sc Γ n (fX0_allow (B + 3 + 2 * a2) a3 (vX1_grace B V) V) B H lg Hg a2 (by omega) ((V (B + 3 + 2 * a2) 2) &&& ((a3) ^^^ (-1)))) (Nat.le_of_ble_eq_true rfl) (Nat.le_of_ble_eq_true rfl) (Nat.le_of_ble_eq_true rfl) rfl (fun h hok => ?_)
  refine q_aload dX1_hearToIn_37 rfl ?_
  refine v_geti 1 kX0 (by decide) wPX1_102 dX1_hearToIn_39 hok (H.2.2.2.1 a2 (by omega)).1 rfl ?_
  refine q_if_eq (tgt := 51) dX1_hearToIn_42 (by decide) (fun c111 => ?_) (fun c111 => ?_)
  ·
    exact q_vret dX1_hearToIn_51 rfl (hQ _ _ (rfl) (by dsimp only [fX1_hearToIn]; rw [if_pos c111]; exact hok))
  ·
    refine q_aload_n dX1_hearToIn_45 rfl ?_
    refine q_aload_n dX1_hearToIn_46 rfl ?_
    refine q_iload_n dX1_hearToIn_47 rfl ?_
    refine v_callV (M' := mX1_askGroup) [.ref lg, .int (nI a2)] [] kX1 dX1_hearToIn_48 wPX1_106v wIX1_askGroup wSX1_askGroup iX1_askGroup oX1_askGroup rfl hok H.1 (eX1_askGroup Sc Γ n (fX1_askSources B lg a2 ((V (B + 3 + 2 * a2) 2) &&& ((a3) ^^^ (-1))) (fX0_allow (B + 3 + 2 * a2) a3 (vX1_grace B V) V)) B H lg Hg a2 (by omega)) (Nat.le_of_ble_eq_true rfl) (Nat.le_of_ble_eq_true rfl) (Nat.le_of_ble_eq_true rfl) rfl (fun h hok => ?_)
    exact q_vret dX1_hearToIn_51 rfl (hQ _ _ (rfl) (by dsimp only [fX1_hearToIn]; rw [if_neg c111]; exact hok))
def fX1_hearToEx (B : Nat) (lg : Nat) (a2 : Nat) (a3 : Int32) (V : q_V) : q_V := let V113 := fX0_exclude (B + 3 + 2 * a2) a3 (V (B + 3 + 2 * a2) 4) (vX1_grace B V) V; let V114 := fX1_askSources B lg a2 (vX0_doubted (B + 3 + 2 * a2) a3 V) V113; V114
set_option maxRecDepth 20000 in
set_option maxHeartbeats 4000000 in
theorem eX1_hearToEx (Sc : q_S) (Γ : Nat → q_K) (n : Nat) (V : q_V) (B : Nat) (H : sLk Γ B) (lg : Nat) (Hg : sLg Γ lg) (a2 : Nat) (b2 : a2 < 8) (a3 : Int32) : q_fn Sc Γ mX1_hearToEx [.ref B, .ref lg, .int (nI a2), .int (a3)] n V none (fX1_hearToEx B lg a2 a3 V) := by
  refine q_fn.of fun Q h hQ hok => ?_
  show q_A Sc mX1_hearToEx 0 [.ref B, .ref lg, .int (nI a2), .int (a3), .retAddr 0, .retAddr 0] [] h n 0 0 Q
  refine q_aload_n dX1_hearToEx_0 rfl ?_
  refine v_getr 1 kX1 (by decide) wPX1_11 dX1_hearToEx_1 hok H.1 rfl ?_
  refine q_iload_n dX1_hearToEx_4 rfl ?_
  refine v_aald (j := a2) (z := B + 3 + 2 * a2) "GroupFilters$Filter" dX1_hearToEx_5 hok H.2.1 rfl (rg_at (by omega)) (by rw [rg_len]; omega) ?_
  refine q_astore dX1_hearToEx_6 (by decide) ?_
  refine q_aload dX1_hearToEx_8 rfl ?_
  refine q_iload_n dX1_hearToEx_10 rfl ?_
  refine v_callV (M' := mX0_doubted) [.int (a3)] [] kX0 dX1_hearToEx_11 wPX1_110v wIX0_doubted wSX0_doubted iX0_doubted oX0_doubted rfl hok (H.2.2.2.1 a2 (by omega)).1 (eX0_doubted Sc Γ n V (B + 3 + 2 * a2) (H.2.2.2.1 a2 (by omega)) a3) (Nat.le_of_ble_eq_true rfl) (Nat.le_of_ble_eq_true rfl) (Nat.le_of_ble_eq_true rfl) rfl (fun h hok => ?_)
  refine t_istore [.ref B, .ref lg, .int (nI a2), .int (a3), .ref (B + 3 + 2 * a2), .int (vX0_doubted (B + 3 + 2 * a2) a3 V)] (Or.inr ⟨rfl, dX1_hearToEx_14⟩) (by decide) rfl ?_
  refine q_aload dX1_hearToEx_16 rfl ?_
  refine q_iload_n dX1_hearToEx_18 rfl ?_
  refine q_aload dX1_hearToEx_19 rfl ?_
  refine v_geti 4 kX0 (by decide) wPX1_114 dX1_hearToEx_21 hok (H.2.2.2.1 a2 (by omega)).1 rfl ?_
  refine q_aload_n dX1_hearToEx_24 rfl ?_
  refine v_callV (M' := mX1_grace) [] [.int (V (B + 3 + 2 * a2) 4), .int (a3), .ref (B + 3 + 2 * a2)] kX1 dX1_hearToEx_25 wPX1_76v wIX1_grace wSX1_grace iX1_grace oX1_grace rfl hok H.1 (eX1_grace Sc Γ n V B H) (Nat.le_of_ble_eq_true rfl) (Nat.le_of_ble_eq_true rfl) (Nat.le_of_ble_eq_true rfl) rfl (fun h hok => ?_)
  refine v_callV (M' := mX0_exclude) [.int (a3), .int (V (B + 3 + 2 * a2) 4), .int (vX1_grace B V)] [] kX0 dX1_hearToEx_28 wPX1_79v wIX0_exclude wSX0_exclude iX0_exclude oX0_exclude rfl hok (H.2.2.2.1 a2 (by omega)).1 (eX0_exclude Sc Γ n V (B + 3 + 2 * a2) (H.2.2.2.1 a2 (by omega)) a3 (V (B + 3 + 2 * a2) 4) (vX1_grace B V)) (Nat.le_of_ble_eq_true rfl) (Nat.le_of_ble_eq_true rfl) (Nat.le_of_ble_eq_true rfl) rfl (fun h hok => ?_)
  refine q_aload_n dX1_hearToEx_31 rfl ?_
  refine q_aload_n dX1_hearToEx_32 rfl ?_
  refine q_iload_n dX1_hearToEx_33 rfl ?_
  refine q_iload dX1_hearToEx_34 rfl ?_
  refine v_callV (M' := mX1_askSources) [.ref lg, .int (nI a2), .int (vX0_doubted (B + 3 + 2 * a2) a3 V)] [] kX1 dX1_hearToEx_36 wPX1_99v wIX1_askSources wSX1_askSources iX1_askSources oX1_askSources rfl hok H.1 (eX1_askSources Sc Γ n (fX0_exclude (B + 3 + 2 * a2) a3 (V (B + 3 + 2 * a2) 4) (vX1_grace B V) V) B H lg Hg a2 (by omega) (vX0_doubted (B + 3 + 2 * a2) a3 V)) (Nat.le_of_ble_eq_true rfl) (Nat.le_of_ble_eq_true rfl) (Nat.le_of_ble_eq_true rfl) rfl (fun h hok => ?_)
  exact q_vret dX1_hearToEx_39 rfl (hQ _ _ (rfl) (by dsimp only [fX1_hearToEx]; exact hok))
def fX1_hearBlock (B : Nat) (lg : Nat) (a2 : Nat) (a3 : Int32) (V : q_V) : q_V := let V115 := fX0_block (B + 3 + 2 * a2) a3 V; let V116 := fX1_askSources B lg a2 (vX0_doubted (B + 3 + 2 * a2) a3 V) V115; V116
set_option maxRecDepth 20000 in
set_option maxHeartbeats 4000000 in
theorem eX1_hearBlock (Sc : q_S) (Γ : Nat → q_K) (n : Nat) (V : q_V) (B : Nat) (H : sLk Γ B) (lg : Nat) (Hg : sLg Γ lg) (a2 : Nat) (b2 : a2 < 8) (a3 : Int32) : q_fn Sc Γ mX1_hearBlock [.ref B, .ref lg, .int (nI a2), .int (a3)] n V none (fX1_hearBlock B lg a2 a3 V) := by
  refine q_fn.of fun Q h hQ hok => ?_
  show q_A Sc mX1_hearBlock 0 [.ref B, .ref lg, .int (nI a2), .int (a3), .retAddr 0, .retAddr 0] [] h n 0 0 Q
  refine q_aload_n dX1_hearBlock_0 rfl ?_
  refine v_getr 1 kX1 (by decide) wPX1_11 dX1_hearBlock_1 hok H.1 rfl ?_
  refine q_iload_n dX1_hearBlock_4 rfl ?_
  refine v_aald (j := a2) (z := B + 3 + 2 * a2) "GroupFilters$Filter" dX1_hearBlock_5 hok H.2.1 rfl (rg_at (by omega)) (by rw [rg_len]; omega) ?_
  refine q_astore dX1_hearBlock_6 (by decide) ?_
  refine q_aload dX1_hearBlock_8 rfl ?_
  refine q_iload_n dX1_hearBlock_10 rfl ?_
  refine v_callV (M' := mX0_doubted) [.int (a3)] [] kX0 dX1_hearBlock_11 wPX1_110v wIX0_doubted wSX0_doubted iX0_doubted oX0_doubted rfl hok (H.2.2.2.1 a2 (by omega)).1 (eX0_doubted Sc Γ n V (B + 3 + 2 * a2) (H.2.2.2.1 a2 (by omega)) a3) (Nat.le_of_ble_eq_true rfl) (Nat.le_of_ble_eq_true rfl) (Nat.le_of_ble_eq_true rfl) rfl (fun h hok => ?_)
  refine t_istore [.ref B, .ref lg, .int (nI a2), .int (a3), .ref (B + 3 + 2 * a2), .int (vX0_doubted (B + 3 + 2 * a2) a3 V)] (Or.inr ⟨rfl, dX1_hearBlock_14⟩) (by decide) rfl ?_
  refine q_aload dX1_hearBlock_16 rfl ?_
  refine q_iload_n dX1_hearBlock_18 rfl ?_
  refine v_callV (M' := mX0_block) [.int (a3)] [] kX0 dX1_hearBlock_19 wPX1_117v wIX0_block wSX0_block iX0_block oX0_block rfl hok (H.2.2.2.1 a2 (by omega)).1 (eX0_block Sc Γ n V (B + 3 + 2 * a2) (H.2.2.2.1 a2 (by omega)) a3) (Nat.le_of_ble_eq_true rfl) (Nat.le_of_ble_eq_true rfl) (Nat.le_of_ble_eq_true rfl) rfl (fun h hok => ?_)
  refine q_aload_n dX1_hearBlock_22 rfl ?_
  refine q_aload_n dX1_hearBlock_23 rfl ?_
  refine q_iload_n dX1_hearBlock_24 rfl ?_
  refine q_iload dX1_hearBlock_25 rfl ?_
  refine v_callV (M' := mX1_askSources) [.ref lg, .int (nI a2), .int (vX0_doubted (B + 3 + 2 * a2) a3 V)] [] kX1 dX1_hearBlock_27 wPX1_99v wIX1_askSources wSX1_askSources iX1_askSources oX1_askSources rfl hok H.1 (eX1_askSources Sc Γ n (fX0_block (B + 3 + 2 * a2) a3 V) B H lg Hg a2 (by omega) (vX0_doubted (B + 3 + 2 * a2) a3 V)) (Nat.le_of_ble_eq_true rfl) (Nat.le_of_ble_eq_true rfl) (Nat.le_of_ble_eq_true rfl) rfl (fun h hok => ?_)
  exact q_vret dX1_hearBlock_30 rfl (hQ _ _ (rfl) (by dsimp only [fX1_hearBlock]; exact hok))
