def fX5_send (o ml : Nat) (a1 : Int32) (a2 : Int32) (a3 : Int32) (V : q_V) : q_V := let V220 := vset V (o + 13) (fm40 (V o 15)) (a1); let V221 := vset V220 (o + 14) (fm40 (V o 15)) (a2); let V222 := vset V221 (o + 15) (fm40 (V o 15)) (a3); let V223 := vset V222 (o + 16) (fm40 (V o 15)) (V222 o 14); let V224 := vset V223 o 15 ((V223 o 15) + (nI 1)); V224
set_option maxRecDepth 20000 in
set_option maxHeartbeats 4000000 in
theorem eX5_send (Sc : q_S) (Γ : Nat → q_K) (n : Nat) (V : q_V) (o ml : Nat) (H : sM Γ o ml) (hm1 : 1 ≤ ml) (hml : ml ≤ 4) (a1 : Int32) (a2 : Int32) (a3 : Int32) (b : Nat) (hb : b + 1 ≤ 2000000000) (hS : SB V o b) : q_fn Sc Γ mX5_send [.ref o, .int (a1), .int (a2), .int (a3)] n V none (fX5_send o ml a1 a2 a3 V) := by
  refine q_fn.of fun Q h hQ hok => ?_
  show q_A Sc mX5_send 0 [.ref o, .int (a1), .int (a2), .int (a3), .retAddr 0] [] h n 0 0 Q
  refine q_aload_n dX5_send_0 rfl ?_
  refine v_geti 15 kX5 (by decide) wPX5_72 dX5_send_1 hok H.1 rfl ?_
  refine q_bipush (v := nI 40) dX5_send_4 rfl ?_
  refine q_irem dX5_send_6 (by decide) ?_
  rw [fm40_pos hS.1]
  have hfm := fm40_lt (V o 15)
  refine t_istore [.ref o, .int (a1), .int (a2), .int (a3), .int (nI (fm40 (V o 15)))] (Or.inr ⟨rfl, dX5_send_7⟩) (by decide) rfl ?_
  refine q_aload_n dX5_send_9 rfl ?_
  refine v_getr 16 kX5 (by decide) wPX5_47 dX5_send_10 hok H.1 rfl ?_
  refine q_iload dX5_send_13 rfl ?_
  refine q_iload_n dX5_send_15 rfl ?_
  refine v_iast (by decide) dX5_send_16 hok H.2.2.2.2.2.2.2.2.2.2.2.2.2.1 (j := fm40 (V o 15)) (by omega) (fun h hok => ?_)
  refine q_aload_n dX5_send_17 rfl ?_
  refine v_getr 17 kX5 (by decide) wPX5_50 dX5_send_18 hok H.1 rfl ?_
  refine q_iload dX5_send_21 rfl ?_
  refine q_iload_n dX5_send_23 rfl ?_
  refine v_iast (by decide) dX5_send_24 hok H.2.2.2.2.2.2.2.2.2.2.2.2.2.2.1 (j := fm40 (V o 15)) (by omega) (fun h hok => ?_)
  refine q_aload_n dX5_send_25 rfl ?_
  refine v_getr 18 kX5 (by decide) wPX5_53 dX5_send_26 hok H.1 rfl ?_
  refine q_iload dX5_send_29 rfl ?_
  refine q_iload_n dX5_send_31 rfl ?_
  refine v_iast (by decide) dX5_send_32 hok H.2.2.2.2.2.2.2.2.2.2.2.2.2.2.2.1 (j := fm40 (V o 15)) (by omega) (fun h hok => ?_)
  refine q_aload_n dX5_send_33 rfl ?_
  refine v_getr 19 kX5 (by decide) wPX5_56 dX5_send_34 hok H.1 rfl ?_
  refine q_iload dX5_send_37 rfl ?_
  refine q_aload_n dX5_send_39 rfl ?_
  refine v_geti 14 kX5 (by decide) wPX5_69 dX5_send_40 hok H.1 rfl ?_
  refine v_iast (by decide) dX5_send_43 hok H.2.2.2.2.2.2.2.2.2.2.2.2.2.2.2.2 (j := fm40 (V o 15)) (by omega) (fun h hok => ?_)
  refine q_aload_n dX5_send_44 rfl ?_
  refine q_dup dX5_send_45 rfl ?_
  refine v_geti 15 kX5 (by decide) wPX5_72 dX5_send_46 hok H.1 rfl ?_
  refine q_iconst (v := nI 1) dX5_send_49 rfl ?_
  refine q_iadd dX5_send_50 ?_
  refine v_puti 15 kX5 (by decide) wPX5_72 rfl dX5_send_51 hok H.1 rfl ⟨rfl, rfl⟩ (fun h hok => ?_)
  exact q_vret dX5_send_54 rfl (hQ _ _ (rfl) (by dsimp only [fX5_send]; exact hok))
theorem SX5_send (o ml : Nat) (a1 : Int32) (a2 : Int32) (a3 : Int32) {V : q_V} {b : Nat} (hS : SB V o b) (hb : b + 1 ≤ 2000000000) : SB (fX5_send o ml a1 a2 a3 V) o (b + 1) := by
  dsimp only [fX5_send]
  skip
  exact SB.cg (SB.inc hS hb) (by rw [vs_at, vs_at, vs_nr (by omega), vs_nr (by omega), vs_nr (by omega), vs_nr (by omega)])
def vX5_asks (o ml : Nat) (a1 : Nat) (V : q_V) : Int32 := if (V (o + 5) a1) = 0 then ((nI 1)) else ((nI 0))
set_option maxRecDepth 20000 in
set_option maxHeartbeats 4000000 in
theorem eX5_asks (Sc : q_S) (Γ : Nat → q_K) (n : Nat) (V : q_V) (o ml : Nat) (H : sM Γ o ml) (hm1 : 1 ≤ ml) (hml : ml ≤ 4) (a1 : Nat) (b1 : a1 < 4) : q_fn Sc Γ mX5_asks [.ref o, .int (nI a1)] n V (some (.int (vX5_asks o ml a1 V))) V := by
  refine q_fn.of fun Q h hQ hok => ?_
  show q_A Sc mX5_asks 0 [.ref o, .int (nI a1)] [] h n 0 0 Q
  refine q_aload_n dX5_asks_0 rfl ?_
  refine v_getr 6 kX5 (by decide) wPX5_22 dX5_asks_1 hok H.1 rfl ?_
  refine q_iload_n dX5_asks_4 rfl ?_
  refine v_iald (by decide) dX5_asks_5 hok H.2.2.2.2.2.1 (j := a1) (by omega) ?_
  refine q_if_ne (tgt := 13) dX5_asks_6 (by decide) (fun c225 => ?_) (fun c225 => ?_)
  ·
    refine q_iconst (v := nI 0) dX5_asks_13 rfl ?_
    exact q_iret dX5_asks_14 rfl (rfl) (hQ _ _ (by dsimp only [vX5_asks]; rw [if_neg c225]) (hok))
  ·
    refine q_iconst (v := nI 1) dX5_asks_9 rfl ?_
    refine q_goto (tgt := 14) dX5_asks_10 (by decide) ?_
    exact q_iret dX5_asks_14 rfl (rfl) (hQ _ _ (by dsimp only [vX5_asks]; rw [if_pos c225]) (hok))
theorem bX5_asks (o ml : Nat) (a1 : Nat) (V : q_V) : q_bl (vX5_asks o ml a1 V) := by
  dsimp only [vX5_asks]
  repeat' split
  all_goals first | exact Or.inl rfl | exact Or.inr rfl
def fX5_ask (o ml : Nat) (a1 : Nat) (a2 : Nat) (a3 : Int32) (V : q_V) : q_V := if a3 = 0 then (V) else (if (vX5_asks o ml a1 V) = 0 then (V) else (let V228 := fX5_send o ml (nI a1) (nI a2) a3 V; let V229 := fX5_lower o ml a1 ((8 * a1) + a2) a3 V228; V229))
set_option maxRecDepth 20000 in
set_option maxHeartbeats 4000000 in
theorem eX5_ask (Sc : q_S) (Γ : Nat → q_K) (n : Nat) (V : q_V) (o ml : Nat) (H : sM Γ o ml) (hm1 : 1 ≤ ml) (hml : ml ≤ 4) (a1 : Nat) (b1 : a1 < 4) (a2 : Nat) (b2 : a2 < 8) (a3 : Int32) (b : Nat) (hb : b + 1 ≤ 2000000000) (hS : SB V o b) : q_fn Sc Γ mX5_ask [.ref o, .int (nI a1), .int (nI a2), .int (a3)] n V none (fX5_ask o ml a1 a2 a3 V) := by
  refine q_fn.of fun Q h hQ hok => ?_
  show q_A Sc mX5_ask 0 [.ref o, .int (nI a1), .int (nI a2), .int (a3)] [] h n 0 0 Q
  refine q_iload_n dX5_ask_0 rfl ?_
  refine q_if_eq (tgt := 31) dX5_ask_1 (by decide) (fun c226 => ?_) (fun c226 => ?_)
  ·
    exact q_vret dX5_ask_31 rfl (hQ _ _ (rfl) (by dsimp only [fX5_ask]; rw [if_pos c226]; exact hok))
  ·
    refine q_aload_n dX5_ask_4 rfl ?_
    refine q_iload_n dX5_ask_5 rfl ?_
    refine v_callV (M' := mX5_asks) [.int (nI a1)] [] kX5 dX5_ask_6 wPX5_75v wIX5_asks wSX5_asks iX5_asks oX5_asks rfl hok H.1 (eX5_asks Sc Γ n V o ml H hm1 hml a1 (by omega)) (Nat.le_of_ble_eq_true rfl) (Nat.le_of_ble_eq_true rfl) (Nat.le_of_ble_eq_true rfl) rfl (fun h hok => ?_)
    refine q_if_eq (tgt := 31) dX5_ask_9 (by decide) (fun c227 => ?_) (fun c227 => ?_)
    ·
      exact q_vret dX5_ask_31 rfl (hQ _ _ (rfl) (by dsimp only [fX5_ask]; rw [if_neg c226, if_pos c227]; exact hok))
    ·
      refine q_aload_n dX5_ask_12 rfl ?_
      refine q_iload_n dX5_ask_13 rfl ?_
      refine q_iload_n dX5_ask_14 rfl ?_
      refine q_iload_n dX5_ask_15 rfl ?_
      refine v_callV (M' := mX5_send) [.int (nI a1), .int (nI a2), .int (a3)] [] kX5 dX5_ask_16 wPX5_79v wIX5_send wSX5_send iX5_send oX5_send rfl hok H.1 (eX5_send Sc Γ n V o ml H hm1 hml (nI a1) (nI a2) a3 (b) (by omega) hS) (Nat.le_of_ble_eq_true rfl) (Nat.le_of_ble_eq_true rfl) (Nat.le_of_ble_eq_true rfl) rfl (fun h hok => ?_)
      refine q_aload_n dX5_ask_19 rfl ?_
      refine q_iload_n dX5_ask_20 rfl ?_
      refine q_bipush (v := nI 8) dX5_ask_21 rfl ?_
      refine q_iload_n dX5_ask_23 rfl ?_
      refine t_imul_n dX5_ask_24 ?_
      refine q_iload_n dX5_ask_25 rfl ?_
      refine t_iadd_n dX5_ask_26 ?_
      refine q_iload_n dX5_ask_27 rfl ?_
      refine v_callV (M' := mX5_lower) [.int (nI a1), .int (nI ((8 * a1) + a2)), .int (a3)] [] kX5 dX5_ask_28 wPX5_83v wIX5_lower wSX5_lower iX5_lower oX5_lower rfl hok H.1 (eX5_lower Sc Γ n (fX5_send o ml (nI a1) (nI a2) a3 V) o ml H hm1 hml a1 (by omega) ((8 * a1) + a2) (by omega) a3) (Nat.le_of_ble_eq_true rfl) (Nat.le_of_ble_eq_true rfl) (Nat.le_of_ble_eq_true rfl) rfl (fun h hok => ?_)
      exact q_vret dX5_ask_31 rfl (hQ _ _ (rfl) (by dsimp only [fX5_ask]; rw [if_neg c226, if_neg c227]; exact hok))
theorem SX5_ask (o ml : Nat) (a1 : Nat) (a2 : Nat) (a3 : Int32) {V : q_V} {b : Nat} (hS : SB V o b) (hb : b + 1 ≤ 2000000000) : SB (fX5_ask o ml a1 a2 a3 V) o (b + 1) := by
  dsimp only [fX5_ask]
  split
  ·
    exact SB.mo hS (by omega)
  ·
    split
    ·
      exact SB.mo hS (by omega)
    ·
      exact SB.mo (SX5_lower o ml a1 ((8 * a1) + a2) a3 (SX5_send o ml (nI a1) (nI a2) a3 hS (by omega))) (by omega)
def fX5_askGroup (o ml : Nat) (a1 : Nat) (a2 : Nat) (V : q_V) : q_V := if (vX5_asks o ml a1 V) = 0 then (V) else (let V231 := fX5_send o ml (nI a1) (nI a2) (nI 0) V; let V232 := fX5_lowerGroup o ml a1 ((8 * a1) + a2) V231; V232)
set_option maxRecDepth 20000 in
set_option maxHeartbeats 4000000 in
theorem eX5_askGroup (Sc : q_S) (Γ : Nat → q_K) (n : Nat) (V : q_V) (o ml : Nat) (H : sM Γ o ml) (hm1 : 1 ≤ ml) (hml : ml ≤ 4) (a1 : Nat) (b1 : a1 < 4) (a2 : Nat) (b2 : a2 < 8) (b : Nat) (hb : b + 1 ≤ 2000000000) (hS : SB V o b) : q_fn Sc Γ mX5_askGroup [.ref o, .int (nI a1), .int (nI a2)] n V none (fX5_askGroup o ml a1 a2 V) := by
  refine q_fn.of fun Q h hQ hok => ?_
  show q_A Sc mX5_askGroup 0 [.ref o, .int (nI a1), .int (nI a2)] [] h n 0 0 Q
  refine q_aload_n dX5_askGroup_0 rfl ?_
  refine q_iload_n dX5_askGroup_1 rfl ?_
  refine v_callV (M' := mX5_asks) [.int (nI a1)] [] kX5 dX5_askGroup_2 wPX5_75v wIX5_asks wSX5_asks iX5_asks oX5_asks rfl hok H.1 (eX5_asks Sc Γ n V o ml H hm1 hml a1 (by omega)) (Nat.le_of_ble_eq_true rfl) (Nat.le_of_ble_eq_true rfl) (Nat.le_of_ble_eq_true rfl) rfl (fun h hok => ?_)
  refine q_if_eq (tgt := 26) dX5_askGroup_5 (by decide) (fun c230 => ?_) (fun c230 => ?_)
  ·
    exact q_vret dX5_askGroup_26 rfl (hQ _ _ (rfl) (by dsimp only [fX5_askGroup]; rw [if_pos c230]; exact hok))
  ·
    refine q_aload_n dX5_askGroup_8 rfl ?_
    refine q_iload_n dX5_askGroup_9 rfl ?_
    refine q_iload_n dX5_askGroup_10 rfl ?_
    refine q_iconst (v := nI 0) dX5_askGroup_11 rfl ?_
    refine v_callV (M' := mX5_send) [.int (nI a1), .int (nI a2), .int (nI 0)] [] kX5 dX5_askGroup_12 wPX5_79v wIX5_send wSX5_send iX5_send oX5_send rfl hok H.1 (eX5_send Sc Γ n V o ml H hm1 hml (nI a1) (nI a2) (nI 0) (b) (by omega) hS) (Nat.le_of_ble_eq_true rfl) (Nat.le_of_ble_eq_true rfl) (Nat.le_of_ble_eq_true rfl) rfl (fun h hok => ?_)
    refine q_aload_n dX5_askGroup_15 rfl ?_
    refine q_iload_n dX5_askGroup_16 rfl ?_
    refine q_bipush (v := nI 8) dX5_askGroup_17 rfl ?_
    refine q_iload_n dX5_askGroup_19 rfl ?_
    refine t_imul_n dX5_askGroup_20 ?_
    refine q_iload_n dX5_askGroup_21 rfl ?_
    refine t_iadd_n dX5_askGroup_22 ?_
    refine v_callV (M' := mX5_lowerGroup) [.int (nI a1), .int (nI ((8 * a1) + a2))] [] kX5 dX5_askGroup_23 wPX5_86v wIX5_lowerGroup wSX5_lowerGroup iX5_lowerGroup oX5_lowerGroup rfl hok H.1 (eX5_lowerGroup Sc Γ n (fX5_send o ml (nI a1) (nI a2) (nI 0) V) o ml H hm1 hml a1 (by omega) ((8 * a1) + a2) (by omega)) (Nat.le_of_ble_eq_true rfl) (Nat.le_of_ble_eq_true rfl) (Nat.le_of_ble_eq_true rfl) rfl (fun h hok => ?_)
    exact q_vret dX5_askGroup_26 rfl (hQ _ _ (rfl) (by dsimp only [fX5_askGroup]; rw [if_neg c230]; exact hok))
theorem SX5_askGroup (o ml : Nat) (a1 : Nat) (a2 : Nat) {V : q_V} {b : Nat} (hS : SB V o b) (hb : b + 1 ≤ 2000000000) : SB (fX5_askGroup o ml a1 a2 V) o (b + 1) := by
  dsimp only [fX5_askGroup]
  split
  ·
    exact SB.mo hS (by omega)
  ·
    exact SB.mo (SX5_lowerGroup o ml a1 ((8 * a1) + a2) (SX5_send o ml (nI a1) (nI a2) (nI 0) hS (by omega))) (by omega)
