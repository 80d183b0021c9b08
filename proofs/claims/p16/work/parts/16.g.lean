def fX1_hearReport_0 (B : Nat) (lg : Nat) (a2 : Nat) (a4 : Int32) (V : q_V) : q_V := let V117 := fX0_allow (B + 3 + 2 * a2) a4 (vX1_grace B V) V; V117
set_option maxRecDepth 20000 in
set_option maxHeartbeats 4000000 in
theorem eX1_hearReport_0 (Sc : q_S) (Γ : Nat → q_K) (n : Nat) (V : q_V) (B : Nat) (H : sLk Γ B) (lg : Nat) (Hg : sLg Γ lg) (a2 : Nat) (b2 : a2 < 8) (a4 : Int32) : q_fn Sc Γ mX1_hearReport [.ref B, .ref lg, .int (nI a2), .int (nI 0), .int (a4)] n V none (fX1_hearReport_0 B lg a2 a4 V) := by
  refine q_fn.of fun Q h hQ hok => ?_
  show q_A Sc mX1_hearReport 0 [.ref B, .ref lg, .int (nI a2), .int (nI 0), .int (a4)] [] h n 0 0 Q
  refine q_iload_n dX1_hearReport_0 rfl ?_
  refine q_tableOut (tgt := 91) dX1_hearReport_1 (by decide) (by decide) ?_
  refine q_aload_n dX1_hearReport_91 rfl ?_
  refine v_getr 1 kX1 (by decide) wPX1_11 dX1_hearReport_92 hok H.1 rfl ?_
  refine q_iload_n dX1_hearReport_95 rfl ?_
  refine v_aald (j := a2) (z := B + 3 + 2 * a2) "GroupFilters$Filter" dX1_hearReport_96 hok H.2.1 rfl (rg_at (by omega)) (by rw [rg_len]; omega) ?_
  refine q_iload dX1_hearReport_97 rfl ?_
  refine q_aload_n dX1_hearReport_99 rfl ?_
  refine v_callV (M' := mX1_grace) [] [.int (a4), .ref (B + 3 + 2 * a2)] kX1 dX1_hearReport_100 wPX1_76v wIX1_grace wSX1_grace iX1_grace oX1_grace rfl hok H.1 (eX1_grace Sc Γ n V B H) (Nat.le_of_ble_eq_true rfl) (Nat.le_of_ble_eq_true rfl) (Nat.le_of_ble_eq_true rfl) rfl (fun h hok => ?_)
  refine v_callV (M' := mX0_allow) [.int (a4), .int (vX1_grace B V)] [] kX0 dX1_hearReport_103 wPX1_92v wIX0_allow wSX0_allow iX0_allow oX0_allow rfl hok (H.2.2.2.1 a2 (by omega)).1 (eX0_allow Sc Γ n V (B + 3 + 2 * a2) (H.2.2.2.1 a2 (by omega)) a4 (vX1_grace B V)) (Nat.le_of_ble_eq_true rfl) (Nat.le_of_ble_eq_true rfl) (Nat.le_of_ble_eq_true rfl) rfl (fun h hok => ?_)
  exact q_vret dX1_hearReport_106 rfl (hQ _ _ (rfl) (by dsimp only [fX1_hearReport_0]; exact hok))
def fX1_hearReport_1 (B : Nat) (lg : Nat) (a2 : Nat) (a4 : Int32) (V : q_V) : q_V := let V118 := fX0_exclude (B + 3 + 2 * a2) a4 (vX1_grace B V) (vX1_grace B V) V; V118
set_option maxRecDepth 20000 in
set_option maxHeartbeats 4000000 in
theorem eX1_hearReport_1 (Sc : q_S) (Γ : Nat → q_K) (n : Nat) (V : q_V) (B : Nat) (H : sLk Γ B) (lg : Nat) (Hg : sLg Γ lg) (a2 : Nat) (b2 : a2 < 8) (a4 : Int32) : q_fn Sc Γ mX1_hearReport [.ref B, .ref lg, .int (nI a2), .int (nI 1), .int (a4)] n V none (fX1_hearReport_1 B lg a2 a4 V) := by
  refine q_fn.of fun Q h hQ hok => ?_
  show q_A Sc mX1_hearReport 0 [.ref B, .ref lg, .int (nI a2), .int (nI 1), .int (a4)] [] h n 0 0 Q
  refine q_iload_n dX1_hearReport_0 rfl ?_
  refine q_tableIn (off := 35) (tgt := 36) dX1_hearReport_1 (by decide) (by decide) (by decide) (by decide) ?_
  refine q_aload_n dX1_hearReport_36 rfl ?_
  refine v_getr 1 kX1 (by decide) wPX1_11 dX1_hearReport_37 hok H.1 rfl ?_
  refine q_iload_n dX1_hearReport_40 rfl ?_
  refine v_aald (j := a2) (z := B + 3 + 2 * a2) "GroupFilters$Filter" dX1_hearReport_41 hok H.2.1 rfl (rg_at (by omega)) (by rw [rg_len]; omega) ?_
  refine q_iload dX1_hearReport_42 rfl ?_
  refine q_aload_n dX1_hearReport_44 rfl ?_
  refine v_callV (M' := mX1_grace) [] [.int (a4), .ref (B + 3 + 2 * a2)] kX1 dX1_hearReport_45 wPX1_76v wIX1_grace wSX1_grace iX1_grace oX1_grace rfl hok H.1 (eX1_grace Sc Γ n V B H) (Nat.le_of_ble_eq_true rfl) (Nat.le_of_ble_eq_true rfl) (Nat.le_of_ble_eq_true rfl) rfl (fun h hok => ?_)
  refine q_aload_n dX1_hearReport_48 rfl ?_
  refine v_callV (M' := mX1_grace) [] [.int (vX1_grace B V), .int (a4), .ref (B + 3 + 2 * a2)] kX1 dX1_hearReport_49 wPX1_76v wIX1_grace wSX1_grace iX1_grace oX1_grace rfl hok H.1 (eX1_grace Sc Γ n V B H) (Nat.le_of_ble_eq_true rfl) (Nat.le_of_ble_eq_true rfl) (Nat.le_of_ble_eq_true rfl) rfl (fun h hok => ?_)
  refine v_callV (M' := mX0_exclude) [.int (a4), .int (vX1_grace B V), .int (vX1_grace B V)] [] kX0 dX1_hearReport_52 wPX1_79v wIX0_exclude wSX0_exclude iX0_exclude oX0_exclude rfl hok (H.2.2.2.1 a2 (by omega)).1 (eX0_exclude Sc Γ n V (B + 3 + 2 * a2) (H.2.2.2.1 a2 (by omega)) a4 (vX1_grace B V) (vX1_grace B V)) (Nat.le_of_ble_eq_true rfl) (Nat.le_of_ble_eq_true rfl) (Nat.le_of_ble_eq_true rfl) rfl (fun h hok => ?_)
  refine q_goto (tgt := 106) dX1_hearReport_55 (by decide) ?_
  exact q_vret dX1_hearReport_106 rfl (hQ _ _ (rfl) (by dsimp only [fX1_hearReport_1]; exact hok))
def fX1_hearReport_2 (B : Nat) (lg : Nat) (a2 : Nat) (a4 : Int32) (V : q_V) : q_V := let V119 := fX1_hearToIn B lg a2 a4 V; V119
set_option maxRecDepth 20000 in
set_option maxHeartbeats 4000000 in
theorem eX1_hearReport_2 (Sc : q_S) (Γ : Nat → q_K) (n : Nat) (V : q_V) (B : Nat) (H : sLk Γ B) (lg : Nat) (Hg : sLg Γ lg) (a2 : Nat) (b2 : a2 < 8) (a4 : Int32) : q_fn Sc Γ mX1_hearReport [.ref B, .ref lg, .int (nI a2), .int (nI 2), .int (a4)] n V none (fX1_hearReport_2 B lg a2 a4 V) := by
  refine q_fn.of fun Q h hQ hok => ?_
  show q_A Sc mX1_hearReport 0 [.ref B, .ref lg, .int (nI a2), .int (nI 2), .int (a4)] [] h n 0 0 Q
  refine q_iload_n dX1_hearReport_0 rfl ?_
  refine q_tableIn (off := 57) (tgt := 58) dX1_hearReport_1 (by decide) (by decide) (by decide) (by decide) ?_
  refine q_aload_n dX1_hearReport_58 rfl ?_
  refine q_aload_n dX1_hearReport_59 rfl ?_
  refine q_iload_n dX1_hearReport_60 rfl ?_
  refine q_iload dX1_hearReport_61 rfl ?_
  refine v_callV (M' := mX1_hearToIn) [.ref lg, .int (nI a2), .int (a4)] [] kX1 dX1_hearReport_63 wPX1_82v wIX1_hearToIn wSX1_hearToIn iX1_hearToIn oX1_hearToIn rfl hok H.1 (eX1_hearToIn Sc Γ n V B H lg Hg a2 (by omega) a4) (Nat.le_of_ble_eq_true rfl) (Nat.le_of_ble_eq_true rfl) (Nat.le_of_ble_eq_true rfl) rfl (fun h hok => ?_)
  refine q_goto (tgt := 106) dX1_hearReport_66 (by decide) ?_
  exact q_vret dX1_hearReport_106 rfl (hQ _ _ (rfl) (by dsimp only [fX1_hearReport_2]; exact hok))
def fX1_hearReport_3 (B : Nat) (lg : Nat) (a2 : Nat) (a4 : Int32) (V : q_V) : q_V := let V120 := fX1_hearToEx B lg a2 a4 V; V120
set_option maxRecDepth 20000 in
set_option maxHeartbeats 4000000 in
theorem eX1_hearReport_3 (Sc : q_S) (Γ : Nat → q_K) (n : Nat) (V : q_V) (B : Nat) (H : sLk Γ B) (lg : Nat) (Hg : sLg Γ lg) (a2 : Nat) (b2 : a2 < 8) (a4 : Int32) : q_fn Sc Γ mX1_hearReport [.ref B, .ref lg, .int (nI a2), .int (nI 3), .int (a4)] n V none (fX1_hearReport_3 B lg a2 a4 V) := by
  refine q_fn.of fun Q h hQ hok => ?_
  show q_A Sc mX1_hearReport 0 [.ref B, .ref lg, .int (nI a2), .int (nI 3), .int (a4)] [] h n 0 0 Q
  refine q_iload_n dX1_hearReport_0 rfl ?_
  refine q_tableIn (off := 68) (tgt := 69) dX1_hearReport_1 (by decide) (by decide) (by decide) (by decide) ?_
  refine q_aload_n dX1_hearReport_69 rfl ?_
  refine q_aload_n dX1_hearReport_70 rfl ?_
  refine q_iload_n dX1_hearReport_71 rfl ?_
  refine q_iload dX1_hearReport_72 rfl ?_
  refine v_callV (M' := mX1_hearToEx) [.ref lg, .int (nI a2), .int (a4)] [] kX1 dX1_hearReport_74 wPX1_86v wIX1_hearToEx wSX1_hearToEx iX1_hearToEx oX1_hearToEx rfl hok H.1 (eX1_hearToEx Sc Γ n V B H lg Hg a2 (by omega) a4) (Nat.le_of_ble_eq_true rfl) (Nat.le_of_ble_eq_true rfl) (Nat.le_of_ble_eq_true rfl) rfl (fun h hok => ?_)
  refine q_goto (tgt := 106) dX1_hearReport_77 (by decide) ?_
  exact q_vret dX1_hearReport_106 rfl (hQ _ _ (rfl) (by dsimp only [fX1_hearReport_3]; exact hok))
def fX1_hearReport_4 (B : Nat) (lg : Nat) (a2 : Nat) (a4 : Int32) (V : q_V) : q_V := let V121 := fX0_allow (B + 3 + 2 * a2) a4 (vX1_grace B V) V; V121
set_option maxRecDepth 20000 in
set_option maxHeartbeats 4000000 in
theorem eX1_hearReport_4 (Sc : q_S) (Γ : Nat → q_K) (n : Nat) (V : q_V) (B : Nat) (H : sLk Γ B) (lg : Nat) (Hg : sLg Γ lg) (a2 : Nat) (b2 : a2 < 8) (a4 : Int32) : q_fn Sc Γ mX1_hearReport [.ref B, .ref lg, .int (nI a2), .int (nI 4), .int (a4)] n V none (fX1_hearReport_4 B lg a2 a4 V) := by
  refine q_fn.of fun Q h hQ hok => ?_
  show q_A Sc mX1_hearReport 0 [.ref B, .ref lg, .int (nI a2), .int (nI 4), .int (a4)] [] h n 0 0 Q
  refine q_iload_n dX1_hearReport_0 rfl ?_
  refine q_tableIn (off := 90) (tgt := 91) dX1_hearReport_1 (by decide) (by decide) (by decide) (by decide) ?_
  refine q_aload_n dX1_hearReport_91 rfl ?_
  refine v_getr 1 kX1 (by decide) wPX1_11 dX1_hearReport_92 hok H.1 rfl ?_
  refine q_iload_n dX1_hearReport_95 rfl ?_
  refine v_aald (j := a2) (z := B + 3 + 2 * a2) "GroupFilters$Filter" dX1_hearReport_96 hok H.2.1 rfl (rg_at (by omega)) (by rw [rg_len]; omega) ?_
  refine q_iload dX1_hearReport_97 rfl ?_
  refine q_aload_n dX1_hearReport_99 rfl ?_
  refine v_callV (M' := mX1_grace) [] [.int (a4), .ref (B + 3 + 2 * a2)] kX1 dX1_hearReport_100 wPX1_76v wIX1_grace wSX1_grace iX1_grace oX1_grace rfl hok H.1 (eX1_grace Sc Γ n V B H) (Nat.le_of_ble_eq_true rfl) (Nat.le_of_ble_eq_true rfl) (Nat.le_of_ble_eq_true rfl) rfl (fun h hok => ?_)
  refine v_callV (M' := mX0_allow) [.int (a4), .int (vX1_grace B V)] [] kX0 dX1_hearReport_103 wPX1_92v wIX0_allow wSX0_allow iX0_allow oX0_allow rfl hok (H.2.2.2.1 a2 (by omega)).1 (eX0_allow Sc Γ n V (B + 3 + 2 * a2) (H.2.2.2.1 a2 (by omega)) a4 (vX1_grace B V)) (Nat.le_of_ble_eq_true rfl) (Nat.le_of_ble_eq_true rfl) (Nat.le_of_ble_eq_true rfl) rfl (fun h hok => ?_)
  exact q_vret dX1_hearReport_106 rfl (hQ _ _ (rfl) (by dsimp only [fX1_hearReport_4]; exact hok))
def fX1_hearReport_5 (B : Nat) (lg : Nat) (a2 : Nat) (a4 : Int32) (V : q_V) : q_V := let V122 := fX1_hearBlock B lg a2 a4 V; V122
set_option maxRecDepth 20000 in
set_option maxHeartbeats 4000000 in
theorem eX1_hearReport_5 (Sc : q_S) (Γ : Nat → q_K) (n : Nat) (V : q_V) (B : Nat) (H : sLk Γ B) (lg : Nat) (Hg : sLg Γ lg) (a2 : Nat) (b2 : a2 < 8) (a4 : Int32) : q_fn Sc Γ mX1_hearReport [.ref B, .ref lg, .int (nI a2), .int (nI 5), .int (a4)] n V none (fX1_hearReport_5 B lg a2 a4 V) := by
  refine q_fn.of fun Q h hQ hok => ?_
  show q_A Sc mX1_hearReport 0 [.ref B, .ref lg, .int (nI a2), .int (nI 5), .int (a4)] [] h n 0 0 Q
  refine q_iload_n dX1_hearReport_0 rfl ?_
  refine q_tableIn (off := 79) (tgt := 80) dX1_hearReport_1 (by decide) (by decide) (by decide) (by decide) ?_
  refine q_aload_n dX1_hearReport_80 rfl ?_
  refine q_aload_n dX1_hearReport_81 rfl ?_
  refine q_iload_n dX1_hearReport_82 rfl ?_
  refine q_iload dX1_hearReport_83 rfl ?_
  refine v_callV (M' := mX1_hearBlock) [.ref lg, .int (nI a2), .int (a4)] [] kX1 dX1_hearReport_85 wPX1_89v wIX1_hearBlock wSX1_hearBlock iX1_hearBlock oX1_hearBlock rfl hok H.1 (eX1_hearBlock Sc Γ n V B H lg Hg a2 (by omega) a4) (Nat.le_of_ble_eq_true rfl) (Nat.le_of_ble_eq_true rfl) (Nat.le_of_ble_eq_true rfl) rfl (fun h hok => ?_)
  refine q_goto (tgt := 106) dX1_hearReport_88 (by decide) ?_
  exact q_vret dX1_hearReport_106 rfl (hQ _ _ (rfl) (by dsimp only [fX1_hearReport_5]; exact hok))
def fX1_hearQuery (B : Nat) (a1 : Nat) (a2 : Int32) (V : q_V) : q_V := if a2 = 0 then (let V125 := fX0_lowerOwnTimer (B + 3 + 2 * a1) (vX1_last B V) V; V125) else (let V124 := fX0_lowerTimers (B + 3 + 2 * a1) a2 (vX1_last B V) V; V124)
set_option maxRecDepth 20000 in
set_option maxHeartbeats 4000000 in
theorem eX1_hearQuery (Sc : q_S) (Γ : Nat → q_K) (n : Nat) (V : q_V) (B : Nat) (H : sLk Γ B) (a1 : Nat) (b1 : a1 < 8) (a2 : Int32) : q_fn Sc Γ mX1_hearQuery [.ref B, .int (nI a1), .int (a2)] n V none (fX1_hearQuery B a1 a2 V) := by
  refine q_fn.of fun Q h hQ hok => ?_
  show q_A Sc mX1_hearQuery 0 [.ref B, .int (nI a1), .int (a2)] [] h n 0 0 Q
  refine q_iload_n dX1_hearQuery_0 rfl ?_
  refine q_if_ne (tgt := 20) dX1_hearQuery_1 (by decide) (fun c123 => ?_) (fun c123 => ?_)
  ·
    refine q_aload_n dX1_hearQuery_20 rfl ?_
    refine v_getr 1 kX1 (by decide) wPX1_11 dX1_hearQuery_21 hok H.1 rfl ?_
    refine q_iload_n dX1_hearQuery_24 rfl ?_
    refine v_aald (j := a1) (z := B + 3 + 2 * a1) "GroupFilters$Filter" dX1_hearQuery_25 hok H.2.1 rfl (rg_at (by omega)) (by rw [rg_len]; omega) ?_
    refine q_iload_n dX1_hearQuery_26 rfl ?_
    refine q_aload_n dX1_hearQuery_27 rfl ?_
    refine v_callV (M' := mX1_last) [] [.int (a2), .ref (B + 3 + 2 * a1)] kX1 dX1_hearQuery_28 wPX1_120v wIX1_last wSX1_last iX1_last oX1_last rfl hok H.1 (eX1_last Sc Γ n V B H) (Nat.le_of_ble_eq_true rfl) (Nat.le_of_ble_eq_true rfl) (Nat.le_of_ble_eq_true rfl) rfl (fun h hok => ?_)
    refine v_callV (M' := mX0_lowerTimers) [.int (a2), .int (vX1_last B V)] [] kX0 dX1_hearQuery_31 wPX1_123v wIX0_lowerTimers wSX0_lowerTimers iX0_lowerTimers oX0_lowerTimers rfl hok (H.2.2.2.1 a1 (by omega)).1 (eX0_lowerTimers Sc Γ n V (B + 3 + 2 * a1) (H.2.2.2.1 a1 (by omega)) a2 (vX1_last B V)) (Nat.le_of_ble_eq_true rfl) (Nat.le_of_ble_eq_true rfl) (Nat.le_of_ble_eq_true rfl) rfl (fun h hok => ?_)
    exact q_vret dX1_hearQuery_34 rfl (hQ _ _ (rfl) (by dsimp only [fX1_hearQuery]; rw [if_neg c123]; exact hok))
  ·
    refine q_aload_n dX1_hearQuery_4 rfl ?_
    refine v_getr 1 kX1 (by decide) wPX1_11 dX1_hearQuery_5 hok H.1 rfl ?_
    refine q_iload_n dX1_hearQuery_8 rfl ?_
    refine v_aald (j := a1) (z := B + 3 + 2 * a1) "GroupFilters$Filter" dX1_hearQuery_9 hok H.2.1 rfl (rg_at (by omega)) (by rw [rg_len]; omega) ?_
    refine q_aload_n dX1_hearQuery_10 rfl ?_
    refine v_callV (M' := mX1_last) [] [.ref (B + 3 + 2 * a1)] kX1 dX1_hearQuery_11 wPX1_120v wIX1_last wSX1_last iX1_last oX1_last rfl hok H.1 (eX1_last Sc Γ n V B H) (Nat.le_of_ble_eq_true rfl) (Nat.le_of_ble_eq_true rfl) (Nat.le_of_ble_eq_true rfl) rfl (fun h hok => ?_)
    refine v_callV (M' := mX0_lowerOwnTimer) [.int (vX1_last B V)] [] kX0 dX1_hearQuery_14 wPX1_126v wIX0_lowerOwnTimer wSX0_lowerOwnTimer iX0_lowerOwnTimer oX0_lowerOwnTimer rfl hok (H.2.2.2.1 a1 (by omega)).1 (eX0_lowerOwnTimer Sc Γ n V (B + 3 + 2 * a1) (H.2.2.2.1 a1 (by omega)) (vX1_last B V)) (Nat.le_of_ble_eq_true rfl) (Nat.le_of_ble_eq_true rfl) (Nat.le_of_ble_eq_true rfl) rfl (fun h hok => ?_)
    refine q_goto (tgt := 34) dX1_hearQuery_17 (by decide) ?_
    exact q_vret dX1_hearQuery_34 rfl (hQ _ _ (rfl) (by dsimp only [fX1_hearQuery]; rw [if_pos c123]; exact hok))
def fX1_changeWish (B : Nat) (lg : Nat) (a2 : Nat) (a3 : Nat) (a4 : Int32) (a5 : Int32) (V : q_V) : q_V := let V126 := vset V (B + 19 + 3 * a2 + 1) a3 (a5); let V127 := vset V126 (B + 19 + 3 * a2 + 2) a3 (a4); if a4 = (V (B + 19 + 3 * a2 + 2) a3) then (if a4 = 0 then (if ((a5) &&& ((V (B + 19 + 3 * a2 + 1) a3) ^^^ (-1))) = 0 then (if ((V (B + 19 + 3 * a2 + 1) a3) &&& ((a5) ^^^ (-1))) = 0 then (V127) else (let V133 := fX1_hearReport_5 B lg a3 ((V (B + 19 + 3 * a2 + 1) a3) &&& ((a5) ^^^ (-1))) V127; V133)) else (let V134 := fX1_hearReport_4 B lg a3 ((a5) &&& ((V (B + 19 + 3 * a2 + 1) a3) ^^^ (-1))) V127; if ((V (B + 19 + 3 * a2 + 1) a3) &&& ((a5) ^^^ (-1))) = 0 then (V134) else (let V136 := fX1_hearReport_5 B lg a3 ((V (B + 19 + 3 * a2 + 1) a3) &&& ((a5) ^^^ (-1))) V134; V136))) else (if ((V (B + 19 + 3 * a2 + 1) a3) &&& ((a5) ^^^ (-1))) = 0 then (if ((a5) &&& ((V (B + 19 + 3 * a2 + 1) a3) ^^^ (-1))) = 0 then (V127) else (let V140 := fX1_hearReport_5 B lg a3 ((a5) &&& ((V (B + 19 + 3 * a2 + 1) a3) ^^^ (-1))) V127; V140)) else (let V141 := fX1_hearReport_4 B lg a3 ((V (B + 19 + 3 * a2 + 1) a3) &&& ((a5) ^^^ (-1))) V127; if ((a5) &&& ((V (B + 19 + 3 * a2 + 1) a3) ^^^ (-1))) = 0 then (V141) else (let V143 := fX1_hearReport_5 B lg a3 ((a5) &&& ((V (B + 19 + 3 * a2 + 1) a3) ^^^ (-1))) V141; V143)))) else (if a4 = 0 then (let V145 := fX1_hearReport_2 B lg a3 a5 V127; V145) else (let V146 := fX1_hearReport_3 B lg a3 a5 V127; V146))
set_option maxRecDepth 20000 in
set_option maxHeartbeats 4000000 in
theorem eX1_changeWish (Sc : q_S) (Γ : Nat → q_K) (n : Nat) (V : q_V) (B : Nat) (H : sLk Γ B) (lg : Nat) (Hg : sLg Γ lg) (a2 : Nat) (b2 : a2 < 6) (a3 : Nat) (b3 : a3 < 8) (a4 : Int32) (b4 : q_bl a4) (a5 : Int32) : q_fn Sc Γ mX1_changeWish [.ref B, .ref lg, .int (nI a2), .int (nI a3), .int (a4), .int (a5)] n V none (fX1_changeWish B lg a2 a3 a4 a5 V) := by
  refine q_fn.of fun Q h hQ hok => ?_
  show q_A Sc mX1_changeWish 0 [.ref B, .ref lg, .int (nI a2), .int (nI a3), .int (a4), .int (a5), .retAddr 0, .retAddr 0, .retAddr 0, .retAddr 0, .retAddr 0, .retAddr 0, .retAddr 0] [] h n 0 0 Q
  refine q_aload_n dX1_changeWish_0 rfl ?_
  refine v_getr 2 kX1 (by decide) wPX1_19 dX1_changeWish_1 hok H.1 rfl ?_
  refine q_iload_n dX1_changeWish_4 rfl ?_
  refine v_aald (j := a2) (z := B + 19 + 3 * a2) "GroupFilters$Member" dX1_changeWish_5 hok H.2.2.1 rfl (rg_at (by omega)) (by rw [rg_len]; omega) ?_
  refine q_astore dX1_changeWish_6 (by decide) ?_
  refine q_aload dX1_changeWish_8 rfl ?_
  refine v_getr 0 kX2 (by decide) wPX1_129 dX1_changeWish_10 hok (H.2.2.2.2 a2 (by omega)).1 rfl ?_
  refine q_iload_n dX1_changeWish_13 rfl ?_
  refine v_iald (by decide) dX1_changeWish_14 hok (H.2.2.2.2 a2 (by omega)).2.1 (j := a3) (by omega) ?_
  refine t_istore [.ref B, .ref lg, .int (nI a2), .int (nI a3), .int (a4), .int (a5), .ref (B + 19 + 3 * a2), .int (V (B + 19 + 3 * a2 + 1) a3), .retAddr 0, .retAddr 0, .retAddr 0, .retAddr 0, .retAddr 0] (Or.inr ⟨rfl, dX1_changeWish_15⟩) (by decide) rfl ?_
  refine q_aload dX1_changeWish_17 rfl ?_
  refine v_getr 1 kX2 (by decide) wPX1_133 dX1_changeWish_19 hok (H.2.2.2.2 a2 (by omega)).1 rfl ?_
  refine q_iload_n dX1_changeWish_22 rfl ?_
  refine v_zald (by decide) dX1_changeWish_23 hok (H.2.2.2.2 a2 (by omega)).2.2 (j := a3) (by omega) ?_
  refine t_istore [.ref B, .ref lg, .int (nI a2), .int (nI a3), .int (a4), .int (a5), .ref (B + 19 + 3 * a2), .int (V (B + 19 + 3 * a2 + 1) a3), .int (V (B + 19 + 3 * a2 + 2) a3), .retAddr 0, .retAddr 0, .retAddr 0, .retAddr 0] (Or.inr ⟨rfl, dX1_changeWish_24⟩) (by decide) rfl ?_
  refine q_aload dX1_changeWish_26 rfl ?_
  refine v_getr 0 kX2 (by decide) wPX1_129 dX1_changeWish_28 hok (H.2.2.2.2 a2 (by omega)).1 rfl ?_
  refine q_iload_n dX1_changeWish_31 rfl ?_
  refine q_iload dX1_changeWish_32 rfl ?_
  refine v_iast (by decide) dX1_changeWish_34 hok (H.2.2.2.2 a2 (by omega)).2.1 (j := a3) (by omega) (fun h hok => ?_)
  refine q_aload dX1_changeWish_35 rfl ?_
  refine v_getr 1 kX2 (by decide) wPX1_133 dX1_changeWish_37 hok (H.2.2.2.2 a2 (by omega)).1 rfl ?_
  refine q_iload_n dX1_changeWish_40 rfl ?_
  refine q_iload dX1_changeWish_41 rfl ?_
  refine v_zast (by decide) dX1_changeWish_43 hok (H.2.2.2.2 a2 (by omega)).2.2 (j := a3) (by omega) (q_bl.vp b4) (fun h hok => ?_)
  refine q_iload dX1_changeWish_44 rfl ?_
  refine q_iload dX1_changeWish_46 rfl ?_
  refine q_icmp_eq (tgt := 70) dX1_changeWish_48 (by decide) (fun c128 => ?_) (fun c128 => ?_)
  ·
    refine q_iload dX1_changeWish_70 rfl ?_
    refine q_iload dX1_changeWish_72 rfl ?_
    refine q_iconst (v := -1) dX1_changeWish_74 rfl ?_
    refine q_ixor dX1_changeWish_75 ?_
    refine q_iand dX1_changeWish_76 ?_
    refine t_istore [.ref B, .ref lg, .int (nI a2), .int (nI a3), .int (a4), .int (a5), .ref (B + 19 + 3 * a2), .int (V (B + 19 + 3 * a2 + 1) a3), .int (V (B + 19 + 3 * a2 + 2) a3), .int ((a5) &&& ((V (B + 19 + 3 * a2 + 1) a3) ^^^ (-1))), .retAddr 0, .retAddr 0, .retAddr 0] (Or.inr ⟨rfl, dX1_changeWish_77⟩) (by decide) rfl ?_
    refine q_iload dX1_changeWish_79 rfl ?_
    refine q_iload dX1_changeWish_81 rfl ?_
    refine q_iconst (v := -1) dX1_changeWish_83 rfl ?_
    refine q_ixor dX1_changeWish_84 ?_
    refine q_iand dX1_changeWish_85 ?_
    refine t_istore [.ref B, .ref lg, .int (nI a2), .int (nI a3), .int (a4), .int (a5), .ref (B + 19 + 3 * a2), .int (V (B + 19 + 3 * a2 + 1) a3), .int (V (B + 19 + 3 * a2 + 2) a3), .int ((a5) &&& ((V (B + 19 + 3 * a2 + 1) a3) ^^^ (-1))), .int ((V (B + 19 + 3 * a2 + 1) a3) &&& ((a5) ^^^ (-1))), .retAddr 0, .retAddr 0] (Or.inr ⟨rfl, dX1_changeWish_86⟩) (by decide) rfl ?_
    refine q_iload dX1_changeWish_88 rfl ?_
    refine q_if_eq (tgt := 98) dX1_changeWish_90 (by decide) (fun c129 => ?_) (fun c129 => ?_)
    ·
      refine q_iload dX1_changeWish_98 rfl ?_
      refine t_istore [.ref B, .ref lg, .int (nI a2), .int (nI a3), .int (a4), .int (a5), .ref (B + 19 + 3 * a2), .int (V (B + 19 + 3 * a2 + 1) a3), .int (V (B + 19 + 3 * a2 + 2) a3), .int ((a5) &&& ((V (B + 19 + 3 * a2 + 1) a3) ^^^ (-1))), .int ((V (B + 19 + 3 * a2 + 1) a3) &&& ((a5) ^^^ (-1))), .int ((a5) &&& ((V (B + 19 + 3 * a2 + 1) a3) ^^^ (-1))), .retAddr 0] (Or.inr ⟨rfl, dX1_changeWish_100⟩) (by decide) rfl ?_
      refine q_iload dX1_changeWish_102 rfl ?_
      refine q_if_eq (tgt := 112) dX1_changeWish_104 (by decide) (fun c130 => ?_) (fun c130 => ?_)
      rotate_left
      · exact absurd c129 c130
      refine q_iload dX1_changeWish_112 rfl ?_
      refine t_istore [.ref B, .ref lg, .int (nI a2), .int (nI a3), .int (a4), .int (a5), .ref (B + 19 + 3 * a2), .int (V (B + 19 + 3 * a2 + 1) a3), .int (V (B + 19 + 3 * a2 + 2) a3), .int ((a5) &&& ((V (B + 19 + 3 * a2 + 1) a3) ^^^ (-1))), .int ((V (B + 19 + 3 * a2 + 1) a3) &&& ((a5) ^^^ (-1))), .int ((a5) &&& ((V (B + 19 + 3 * a2 + 1) a3) ^^^ (-1))), .int ((V (B + 19 + 3 * a2 + 1) a3) &&& ((a5) ^^^ (-1)))] (Or.inr ⟨rfl, dX1_changeWish_114⟩) (by decide) rfl ?_
      refine q_iload dX1_changeWish_116 rfl ?_
      refine q_if_eq (tgt := 130) dX1_changeWish_118 (by decide) (fun c131 => ?_) (fun c131 => ?_)
      ·
        refine q_iload dX1_changeWish_130 rfl ?_
        refine q_if_eq (tgt := 144) dX1_changeWish_132 (by decide) (fun c132 => ?_) (fun c132 => ?_)
        ·
          exact q_vret dX1_changeWish_144 rfl (hQ _ _ (rfl) (by dsimp only [fX1_changeWish]; rw [if_pos c128, if_pos c129, if_pos c131, if_pos c132]; exact hok))
        ·
          refine q_aload_n dX1_changeWish_135 rfl ?_
          refine q_aload_n dX1_changeWish_136 rfl ?_
          refine q_iload_n dX1_changeWish_137 rfl ?_
          refine q_iconst (v := nI 5) dX1_changeWish_138 rfl ?_
          refine q_iload dX1_changeWish_139 rfl ?_
          refine v_callV (M' := mX1_hearReport) [.ref lg, .int (nI a3), .int (nI 5), .int ((V (B + 19 + 3 * a2 + 1) a3) &&& ((a5) ^^^ (-1)))] [] kX1 dX1_changeWish_141 wPX1_136v wIX1_hearReport wSX1_hearReport iX1_hearReport oX1_hearReport rfl hok H.1 (eX1_hearReport_5 Sc Γ n (vset (vset V (B + 19 + 3 * a2 + 1) a3 (a5)) (B + 19 + 3 * a2 + 2) a3 (a4)) B H lg Hg a3 (by omega) ((V (B + 19 + 3 * a2 + 1) a3) &&& ((a5) ^^^ (-1)))) (Nat.le_of_ble_eq_true rfl) (Nat.le_of_ble_eq_true rfl) (Nat.le_of_ble_eq_true rfl) rfl (fun h hok => ?_)
          exact q_vret dX1_changeWish_144 rfl (hQ _ _ (rfl) (by dsimp only [fX1_changeWish]; rw [if_pos c128, if_pos c129, if_pos c131, if_neg c132]; exact hok))
      ·
        refine q_aload_n dX1_changeWish_121 rfl ?_
        refine q_aload_n dX1_changeWish_122 rfl ?_
        refine q_iload_n dX1_changeWish_123 rfl ?_
        refine q_iconst (v := nI 4) dX1_changeWish_124 rfl ?_
        refine q_iload dX1_changeWish_125 rfl ?_
        refine v_callV (M' := mX1_hearReport) [.ref lg, .int (nI a3), .int (nI 4), .int ((a5) &&& ((V (B + 19 + 3 * a2 + 1) a3) ^^^ (-1)))] [] kX1 dX1_changeWish_127 wPX1_136v wIX1_hearReport wSX1_hearReport iX1_hearReport oX1_hearReport rfl hok H.1 (eX1_hearReport_4 Sc Γ n (vset (vset V (B + 19 + 3 * a2 + 1) a3 (a5)) (B + 19 + 3 * a2 + 2) a3 (a4)) B H lg Hg a3 (by omega) ((a5) &&& ((V (B + 19 + 3 * a2 + 1) a3) ^^^ (-1)))) (Nat.le_of_ble_eq_true rfl) (Nat.le_of_ble_eq_true rfl) (Nat.le_of_ble_eq_true rfl) rfl (fun h hok => ?_)
        refine q_iload dX1_changeWish_130 rfl ?_
        refine q_if_eq (tgt := 144) dX1_changeWish_132 (by decide) (fun c135 => ?_) (fun c135 => ?_)
        ·
          exact q_vret dX1_changeWish_144 rfl (hQ _ _ (rfl) (by dsimp only [fX1_changeWish]; rw [if_pos c128, if_pos c129, if_neg c131, if_pos c135]; exact hok))
        ·
          refine q_aload_n dX1_changeWish_135 rfl ?_
          refine q_aload_n dX1_changeWish_136 rfl ?_
          refine q_iload_n dX1_changeWish_137 rfl ?_
          refine q_iconst (v := nI 5) dX1_changeWish_138 rfl ?_
          refine q_iload dX1_changeWish_139 rfl ?_
          refine v_callV (M' := mX1_hearReport) [.ref lg, .int (nI a3), .int (nI 5), .int ((V (B + 19 + 3 * a2 + 1) a3) &&& ((a5) ^^^ (-1)))] [] kX1 dX1_changeWish_141 wPX1_136v wIX1_hearReport wSX1_hearReport iX1_hearReport oX1_hearReport rfl hok H.1 (eX1_hearReport_5 Sc Γ n (fX1_hearReport_4 B lg a3 ((a5) &&& ((V (B + 19 + 3 * a2 + 1) a3) ^^^ (-1))) (vset (vset V (B + 19 + 3 * a2 + 1) a3 (a5)) (B + 19 + 3 * a2 + 2) a3 (a4))) B H lg Hg a3 (by omega) ((V (B + 19 + 3 * a2 + 1) a3) &&& ((a5) ^^^ (-1)))) (Nat.le_of_ble_eq_true rfl) (Nat.le_of_ble_eq_true rfl) (Nat.le_of_ble_eq_true rfl) rfl (fun h hok => ?_)
          exact q_vret dX1_changeWish_144 rfl (hQ _ _ (rfl) (by dsimp only [fX1_changeWish]; rw [if_pos c128, if_pos c129, if_neg c131, if_neg c135]; exact hok))
    ·
      refine q_iload dX1_changeWish_93 rfl ?_
      refine q_goto (tgt := 100) dX1_changeWish_95 (by decide) ?_
      refine t_istore [.ref B, .ref lg, .int (nI a2), .int (nI a3), .int (a4), .int (a5), .ref (B + 19 + 3 * a2), .int (V (B + 19 + 3 * a2 + 1) a3), .int (V (B + 19 + 3 * a2 + 2) a3), .int ((a5) &&& ((V (B + 19 + 3 * a2 + 1) a3) ^^^ (-1))), .int ((V (B + 19 + 3 * a2 + 1) a3) &&& ((a5) ^^^ (-1))), .int ((V (B + 19 + 3 * a2 + 1) a3) &&& ((a5) ^^^ (-1))), .retAddr 0] (Or.inr ⟨rfl, dX1_changeWish_100⟩) (by decide) rfl ?_
      refine q_iload dX1_changeWish_102 rfl ?_
      refine q_if_eq (tgt := 112) dX1_changeWish_104 (by decide) (fun c137 => ?_) (fun c137 => ?_)
      · exact absurd c137 c129
      refine q_iload dX1_changeWish_107 rfl ?_
      refine q_goto (tgt := 114) dX1_changeWish_109 (by decide) ?_
      refine t_istore [.ref B, .ref lg, .int (nI a2), .int (nI a3), .int (a4), .int (a5), .ref (B + 19 + 3 * a2), .int (V (B + 19 + 3 * a2 + 1) a3), .int (V (B + 19 + 3 * a2 + 2) a3), .int ((a5) &&& ((V (B + 19 + 3 * a2 + 1) a3) ^^^ (-1))), .int ((V (B + 19 + 3 * a2 + 1) a3) &&& ((a5) ^^^ (-1))), .int ((V (B + 19 + 3 * a2 + 1) a3) &&& ((a5) ^^^ (-1))), .int ((a5) &&& ((V (B + 19 + 3 * a2 + 1) a3) ^^^ (-1)))] (Or.inr ⟨rfl, dX1_changeWish_114⟩) (by decide) rfl ?_
      refine q_iload dX1_changeWish_116 rfl ?_
      refine q_if_eq (tgt := 130) dX1_changeWish_118 (by decide) (fun c138 => ?_) (fun c138 => ?_)
      ·
        refine q_iload dX1_changeWish_130 rfl ?_
        refine q_if_eq (tgt := 144) dX1_changeWish_132 (by decide) (fun c139 => ?_) (fun c139 => ?_)
        ·
          exact q_vret dX1_changeWish_144 rfl (hQ _ _ (rfl) (by dsimp only [fX1_changeWish]; rw [if_pos c128, if_neg c129, if_pos c138, if_pos c139]; exact hok))
        ·
          refine q_aload_n dX1_changeWish_135 rfl ?_
          refine q_aload_n dX1_changeWish_136 rfl ?_
          refine q_iload_n dX1_changeWish_137 rfl ?_
          refine q_iconst (v := nI 5) dX1_changeWish_138 rfl ?_
          refine q_iload dX1_changeWish_139 rfl ?_
          refine v_callV (M' := mX1_hearReport) [.ref lg, .int (nI a3), .int (nI 5), .int ((a5) &&& ((V (B + 19 + 3 * a2 + 1) a3) ^^^ (-1)))] [] kX1 dX1_changeWish_141 wPX1_136v wIX1_hearReport wSX1_hearReport iX1_hearReport oX1_hearReport rfl hok H.1 (eX1_hearReport_5 Sc Γ n (vset (vset V (B + 19 + 3 * a2 + 1) a3 (a5)) (B + 19 + 3 * a2 + 2) a3 (a4)) B H lg Hg a3 (by omega) ((a5) &&& ((V (B + 19 + 3 * a2 + 1) a3) ^^^ (-1)))) (Nat.le_of_ble_eq_true rfl) (Nat.le_of_ble_eq_true rfl) (Nat.le_of_ble_eq_true rfl) rfl (fun h hok => ?_)
          exact q_vret dX1_changeWish_144 rfl (hQ _ _ (rfl) (by dsimp only [fX1_changeWish]; rw [if_pos c128, if_neg c129, if_pos c138, if_neg c139]; exact hok))
      ·
        refine q_aload_n dX1_changeWish_121 rfl ?_
        refine q_aload_n dX1_changeWish_122 rfl ?_
        refine q_iload_n dX1_changeWish_123 rfl ?_
        refine q_iconst (v := nI 4) dX1_changeWish_124 rfl ?_
        refine q_iload dX1_changeWish_125 rfl ?_
        refine v_callV (M' := mX1_hearReport) [.ref lg, .int (nI a3), .int (nI 4), .int ((V (B + 19 + 3 * a2 + 1) a3) &&& ((a5) ^^^ (-1)))] [] kX1 dX1_changeWish_127 wPX1_136v wIX1_hearReport wSX1_hearReport iX1_hearReport oX1_hearReport rfl hok H.1 (eX1_hearReport_4 Sc Γ n (vset (vset V (B + 19 + 3 * a2 + 1) a3 (a5)) (B + 19 + 3 * a2 + 2) a3 (a4)) B H lg Hg a3 (by omega) ((V (B + 19 + 3 * a2 + 1) a3) &&& ((a5) ^^^ (-1)))) (Nat.le_of_ble_eq_true rfl) (Nat.le_of_ble_eq_true rfl) (Nat.le_of_ble_eq_true rfl) rfl (fun h hok => ?_)
        refine q_iload dX1_changeWish_130 rfl ?_
        refine q_if_eq (tgt := 144) dX1_changeWish_132 (by decide) (fun c142 => ?_) (fun c142 => ?_)
        ·
          exact q_vret dX1_changeWish_144 rfl (hQ _ _ (rfl) (by dsimp only [fX1_changeWish]; rw [if_pos c128, if_neg c129, if_neg c138, if_pos c142]; exact hok))
        ·
          refine q_aload_n dX1_changeWish_135 rfl ?_
          refine q_aload_n dX1_changeWish_136 rfl ?_
          refine q_iload_n dX1_changeWish_137 rfl ?_
          refine q_iconst (v := nI 5) dX1_changeWish_138 rfl ?_
          refine q_iload dX1_changeWish_139 rfl ?_
          refine v_callV (M' := mX1_hearReport) [.ref lg, .int (nI a3), .int (nI 5), .int ((a5) &&& ((V (B + 19 + 3 * a2 + 1) a3) ^^^ (-1)))] [] kX1 dX1_changeWish_141 wPX1_136v wIX1_hearReport wSX1_hearReport iX1_hearReport oX1_hearReport rfl hok H.1 (eX1_hearReport_5 Sc Γ n (fX1_hearReport_4 B lg a3 ((V (B + 19 + 3 * a2 + 1) a3) &&& ((a5) ^^^ (-1))) (vset (vset V (B + 19 + 3 * a2 + 1) a3 (a5)) (B + 19 + 3 * a2 + 2) a3 (a4))) B H lg Hg a3 (by omega) ((a5) &&& ((V (B + 19 + 3 * a2 + 1) a3) ^^^ (-1)))) (Nat.le_of_ble_eq_true rfl) (Nat.le_of_ble_eq_true rfl) (Nat.le_of_ble_eq_true rfl) rfl (fun h hok => ?_)
          exact q_vret dX1_changeWish_144 rfl (hQ _ _ (rfl) (by dsimp only [fX1_changeWish]; rw [if_pos c128, if_neg c129, if_neg c138, if_neg c142]; exact hok))
  ·
    refine q_aload_n dX1_changeWish_51 rfl ?_
    refine q_aload_n dX1_changeWish_52 rfl ?_
    refine q_iload_n dX1_changeWish_53 rfl ?_
    refine q_iload dX1_changeWish_54 rfl ?_
    refine q_if_eq (tgt := 63) dX1_changeWish_56 (by decide) (fun c144 => ?_) (fun c144 => ?_)
    ·
      refine q_iconst (v := nI 2) dX1_changeWish_63 rfl ?_
      refine q_iload dX1_changeWish_64 rfl ?_
      refine v_callV (M' := mX1_hearReport) [.ref lg, .int (nI a3), .int (nI 2), .int (a5)] [] kX1 dX1_changeWish_66 wPX1_136v wIX1_hearReport wSX1_hearReport iX1_hearReport oX1_hearReport rfl hok H.1 (eX1_hearReport_2 Sc Γ n (vset (vset V (B + 19 + 3 * a2 + 1) a3 (a5)) (B + 19 + 3 * a2 + 2) a3 (a4)) B H lg Hg a3 (by omega) a5) (Nat.le_of_ble_eq_true rfl) (Nat.le_of_ble_eq_true rfl) (Nat.le_of_ble_eq_true rfl) rfl (fun h hok => ?_)
      exact q_vret dX1_changeWish_69 rfl (hQ _ _ (rfl) (by dsimp only [fX1_changeWish]; rw [if_neg c128, if_pos c144]; exact hok))
    ·
      refine q_iconst (v := nI 3) dX1_changeWish_59 rfl ?_
      refine q_goto (tgt := 64) dX1_changeWish_60 (by decide) ?_
      refine q_iload dX1_changeWish_64 rfl ?_
      refine v_callV (M' := mX1_hearReport) [.ref lg, .int (nI a3), .int (nI 3), .int (a5)] [] kX1 dX1_changeWish_66 wPX1_136v wIX1_hearReport wSX1_hearReport iX1_hearReport oX1_hearReport rfl hok H.1 (eX1_hearReport_3 Sc Γ n (vset (vset V (B + 19 + 3 * a2 + 1) a3 (a5)) (B + 19 + 3 * a2 + 2) a3 (a4)) B H lg Hg a3 (by omega) a5) (Nat.le_of_ble_eq_true rfl) (Nat.le_of_ble_eq_true rfl) (Nat.le_of_ble_eq_true rfl) rfl (fun h hok => ?_)
      exact q_vret dX1_changeWish_69 rfl (hQ _ _ (rfl) (by dsimp only [fX1_changeWish]; rw [if_neg c128, if_neg c144]; exact hok))
def fX1_letAnswer (B : Nat) (lg : Nat) (a2 : Nat) (V : q_V) : q_V := let B147 := fun (k147 : Nat) (s147 : Int32 × q_V) => let g147a := s147.1; let W147 := s147.2; if (W147 (B + 19 + 3 * a2 + 2) k147) = 0 then (if (W147 (B + 19 + 3 * a2 + 1) k147) = 0 then ((g147a, W147)) else (let V154 := fX1_hearReport_0 B lg k147 (W147 (B + 19 + 3 * a2 + 1) k147) W147; (g147a + Int32.ofInt (1), V154))) else (let V151 := fX1_hearReport_1 B lg k147 (W147 (B + 19 + 3 * a2 + 1) k147) W147; (g147a + Int32.ofInt (1), V151)); let T147 := lp B147 8 0 (nI 0, V); let V155 := T147.2; V155
def vX1_letAnswer (B : Nat) (lg : Nat) (a2 : Nat) (V : q_V) : Int32 := let B147 := fun (k147 : Nat) (s147 : Int32 × q_V) => let g147a := s147.1; let W147 := s147.2; if (W147 (B + 19 + 3 * a2 + 2) k147) = 0 then (if (W147 (B + 19 + 3 * a2 + 1) k147) = 0 then ((g147a, W147)) else (let V154 := fX1_hearReport_0 B lg k147 (W147 (B + 19 + 3 * a2 + 1) k147) W147; (g147a + Int32.ofInt (1), V154))) else (let V151 := fX1_hearReport_1 B lg k147 (W147 (B + 19 + 3 * a2 + 1) k147) W147; (g147a + Int32.ofInt (1), V151)); let T147 := lp B147 8 0 (nI 0, V); let V155 := T147.2; T147.1
set_option maxRecDepth 20000 in
set_option maxHeartbeats 4000000 in
theorem eX1_letAnswer (Sc : q_S) (Γ : Nat → q_K) (n : Nat) (V : q_V) (B : Nat) (H : sLk Γ B) (lg : Nat) (Hg : sLg Γ lg) (a2 : Nat) (b2 : a2 < 6) : q_fn Sc Γ mX1_letAnswer [.ref B, .ref lg, .int (nI a2)] n V (some (.int (vX1_letAnswer B lg a2 V))) (fX1_letAnswer B lg a2 V) := by
  refine q_fn.of fun Q h hQ hok => ?_
  show q_A Sc mX1_letAnswer 0 [.ref B, .ref lg, .int (nI a2), .retAddr 0, .retAddr 0, .retAddr 0] [] h n 0 0 Q
  refine q_aload_n dX1_letAnswer_0 rfl ?_
  refine v_getr 2 kX1 (by decide) wPX1_19 dX1_letAnswer_1 hok H.1 rfl ?_
  refine q_iload_n dX1_letAnswer_4 rfl ?_
  refine v_aald (j := a2) (z := B + 19 + 3 * a2) "GroupFilters$Member" dX1_letAnswer_5 hok H.2.2.1 rfl (rg_at (by omega)) (by rw [rg_len]; omega) ?_
  refine q_astore_n dX1_letAnswer_6 (by decide) ?_
  refine q_iconst (v := nI 0) dX1_letAnswer_7 rfl ?_
  refine t_istore [.ref B, .ref lg, .int (nI a2), .ref (B + 19 + 3 * a2), .int (nI 0), .retAddr 0] (Or.inr ⟨rfl, dX1_letAnswer_8⟩) (by decide) rfl ?_
  refine q_iconst (v := nI 0) dX1_letAnswer_10 rfl ?_
  refine t_istore [.ref B, .ref lg, .int (nI a2), .ref (B + 19 + 3 * a2), .int (nI 0), .int (nI 0)] (Or.inr ⟨rfl, dX1_letAnswer_11⟩) (by decide) rfl ?_
  obtain ⟨B147, hB147⟩ : ∃ B_ : Nat → (Int32 × q_V) → (Int32 × q_V), B_ = (fun (k147 : Nat) (s147 : Int32 × q_V) => let g147a := s147.1; let W147 := s147.2; if (W147 (B + 19 + 3 * a2 + 2) k147) = 0 then (if (W147 (B + 19 + 3 * a2 + 1) k147) = 0 then ((g147a, W147)) else ((g147a + Int32.ofInt (1), (fX1_hearReport_0 B lg k147 (W147 (B + 19 + 3 * a2 + 1) k147) W147)))) else ((g147a + Int32.ofInt (1), (fX1_hearReport_1 B lg k147 (W147 (B + 19 + 3 * a2 + 1) k147) W147)))) := ⟨_, rfl⟩
  have hl147 : ∀ (d147 k147 : Nat) (g147a : Int32) (W147 : q_V) (h : q_H), k147 + d147 = 8 → lp B147 d147 k147 (g147a, W147) = (lp B147 8 0 (nI 0, V)) → q_ok (gX Γ W147) h → q_A Sc mX1_letAnswer 13 [.ref B, .ref lg, .int (nI a2), .ref (B + 19 + 3 * a2), .int (g147a), .int (nI k147)] [] h n 0 0 Q := by
    intro d147
    induction d147 with
    | zero =>
      intro k147 g147a W147 h e147 hT147 hok
      obtain ⟨hq1470, hq1471⟩ : g147a = ((lp B147 8 0 (nI 0, V)).1) ∧ W147 = ((lp B147 8 0 (nI 0, V)).2) := ⟨congrArg (fun q => q.1) hT147, congrArg (fun q => q.2) hT147⟩
      subst hq1470
      subst hq1471
      refine q_iload dX1_letAnswer_13 rfl ?_
      refine q_bipush (v := nI 8) dX1_letAnswer_15 rfl ?_
      refine t_icmp_ge_n (tgt := 78) (by omega) (by omega) dX1_letAnswer_17 (by decide) (fun c156 => ?_) (fun c156 => ?_)
      rotate_left
      · exact absurd c156 (by omega)
      refine q_iload dX1_letAnswer_78 rfl ?_
      exact q_iret dX1_letAnswer_80 rfl (rfl) (hQ _ _ (by subst hB147; dsimp only [vX1_letAnswer]) (by subst hB147; dsimp only [fX1_letAnswer]; exact hok))
    | succ d147 ih147 =>
      intro k147 g147a W147 h e147 hT147 hok
      refine q_iload dX1_letAnswer_13 rfl ?_
      refine q_bipush (v := nI 8) dX1_letAnswer_15 rfl ?_
      refine t_icmp_ge_n (tgt := 78) (by omega) (by omega) dX1_letAnswer_17 (by decide) (fun c148 => ?_) (fun c148 => ?_)
      · exact absurd c148 (by omega)
      refine q_aload_n dX1_letAnswer_20 rfl ?_
      refine v_getr 1 kX2 (by decide) wPX1_133 dX1_letAnswer_21 hok (H.2.2.2.2 a2 (by omega)).1 rfl ?_
      refine q_iload dX1_letAnswer_24 rfl ?_
      refine v_zald (by decide) dX1_letAnswer_26 hok (H.2.2.2.2 a2 (by omega)).2.2 (j := k147) (by omega) ?_
      refine q_if_ne (tgt := 40) dX1_letAnswer_27 (by decide) (fun c149 => ?_) (fun c149 => ?_)
      ·
        refine q_aload_n dX1_letAnswer_40 rfl ?_
        refine q_aload_n dX1_letAnswer_41 rfl ?_
        refine q_iload dX1_letAnswer_42 rfl ?_
        refine q_aload_n dX1_letAnswer_44 rfl ?_
        refine v_getr 1 kX2 (by decide) wPX1_133 dX1_letAnswer_45 hok (H.2.2.2.2 a2 (by omega)).1 rfl ?_
        refine q_iload dX1_letAnswer_48 rfl ?_
        refine v_zald (by decide) dX1_letAnswer_50 hok (H.2.2.2.2 a2 (by omega)).2.2 (j := k147) (by omega) ?_
        refine q_if_eq (tgt := 58) dX1_letAnswer_51 (by decide) (fun c150 => ?_) (fun c150 => ?_)
        · exact absurd c150 c149
        refine q_iconst (v := nI 1) dX1_letAnswer_54 rfl ?_
        refine q_goto (tgt := 59) dX1_letAnswer_55 (by decide) ?_
        refine q_aload_n dX1_letAnswer_59 rfl ?_
        refine v_getr 0 kX2 (by decide) wPX1_129 dX1_letAnswer_60 hok (H.2.2.2.2 a2 (by omega)).1 rfl ?_
        refine q_iload dX1_letAnswer_63 rfl ?_
        refine v_iald (by decide) dX1_letAnswer_65 hok (H.2.2.2.2 a2 (by omega)).2.1 (j := k147) (by omega) ?_
        refine v_callV (M' := mX1_hearReport) [.ref lg, .int (nI k147), .int (nI 1), .int (W147 (B + 19 + 3 * a2 + 1) k147)] [] kX1 dX1_letAnswer_66 wPX1_136v wIX1_hearReport wSX1_hearReport iX1_hearReport oX1_hearReport rfl hok H.1 (eX1_hearReport_1 Sc Γ n W147 B H lg Hg k147 (by omega) (W147 (B + 19 + 3 * a2 + 1) k147)) (Nat.le_of_ble_eq_true rfl) (Nat.le_of_ble_eq_true rfl) (Nat.le_of_ble_eq_true rfl) rfl (fun h hok => ?_)
        refine t_iinc [.ref B, .ref lg, .int (nI a2), .ref (B + 19 + 3 * a2), .int (g147a + Int32.ofInt (1)), .int (nI k147)] dX1_letAnswer_69 rfl rfl (by decide) rfl ?_
        refine t_iinc_n [.ref B, .ref lg, .int (nI a2), .ref (B + 19 + 3 * a2), .int (g147a + Int32.ofInt (1)), .int (nI (k147 + 1))] dX1_letAnswer_72 rfl (by decide) rfl ?_
        refine q_goto (tgt := 13) dX1_letAnswer_75 (by decide) ?_
        exact ih147 (k147 + 1) (g147a + Int32.ofInt (1)) ((fX1_hearReport_1 B lg k147 (W147 (B + 19 + 3 * a2 + 1) k147) W147)) h (by omega) ((congrArg (lp B147 d147 (k147 + 1)) (show (g147a + Int32.ofInt (1), (fX1_hearReport_1 B lg k147 (W147 (B + 19 + 3 * a2 + 1) k147) W147)) = B147 k147 (g147a, W147) from by rw [hB147]; dsimp only; rw [if_neg c149])).trans hT147) hok
      ·
        refine q_aload_n dX1_letAnswer_30 rfl ?_
        refine v_getr 0 kX2 (by decide) wPX1_129 dX1_letAnswer_31 hok (H.2.2.2.2 a2 (by omega)).1 rfl ?_
        refine q_iload dX1_letAnswer_34 rfl ?_
        refine v_iald (by decide) dX1_letAnswer_36 hok (H.2.2.2.2 a2 (by omega)).2.1 (j := k147) (by omega) ?_
        refine q_if_eq (tgt := 72) dX1_letAnswer_37 (by decide) (fun c152 => ?_) (fun c152 => ?_)
        ·
          refine t_iinc_n [.ref B, .ref lg, .int (nI a2), .ref (B + 19 + 3 * a2), .int (g147a), .int (nI (k147 + 1))] dX1_letAnswer_72 rfl (by decide) rfl ?_
          refine q_goto (tgt := 13) dX1_letAnswer_75 (by decide) ?_
          exact ih147 (k147 + 1) g147a W147 h (by omega) ((congrArg (lp B147 d147 (k147 + 1)) (show (g147a, W147) = B147 k147 (g147a, W147) from by rw [hB147]; dsimp only; rw [if_pos c149, if_pos c152])).trans hT147) hok
        ·
          refine q_aload_n dX1_letAnswer_40 rfl ?_
          refine q_aload_n dX1_letAnswer_41 rfl ?_
          refine q_iload dX1_letAnswer_42 rfl ?_
          refine q_aload_n dX1_letAnswer_44 rfl ?_
          refine v_getr 1 kX2 (by decide) wPX1_133 dX1_letAnswer_45 hok (H.2.2.2.2 a2 (by omega)).1 rfl ?_
          refine q_iload dX1_letAnswer_48 rfl ?_
          refine v_zald (by decide) dX1_letAnswer_50 hok (H.2.2.2.2 a2 (by omega)).2.2 (j := k147) (by omega) ?_
          refine q_if_eq (tgt := 58) dX1_letAnswer_51 (by decide) (fun c153 => ?_) (fun c153 => ?_)
          rotate_left
          · exact absurd c149 c153
          refine q_iconst (v := nI 0) dX1_letAnswer_58 rfl ?_
          refine q_aload_n dX1_letAnswer_59 rfl ?_
          refine v_getr 0 kX2 (by decide) wPX1_129 dX1_letAnswer_60 hok (H.2.2.2.2 a2 (by omega)).1 rfl ?_
          refine q_iload dX1_letAnswer_63 rfl ?_
          refine v_iald (by decide) dX1_letAnswer_65 hok (H.2.2.2.2 a2 (by omega)).2.1 (j := k147) (by omega) ?_
          refine v_callV (M' := mX1_hearReport) [.ref lg, .int (nI k147), .int (nI 0), .int (W147 (B + 19 + 3 * a2 + 1) k147)] [] kX1 dX1_letAnswer_66 wPX1_136v wIX1_hearReport wSX1_hearReport iX1_hearReport oX1_hearReport rfl hok H.1 (eX1_hearReport_0 Sc Γ n W147 B H lg Hg k147 (by omega) (W147 (B + 19 + 3 * a2 + 1) k147)) (Nat.le_of_ble_eq_true rfl) (Nat.le_of_ble_eq_true rfl) (Nat.le_of_ble_eq_true rfl) rfl (fun h hok => ?_)
          refine t_iinc [.ref B, .ref lg, .int (nI a2), .ref (B + 19 + 3 * a2), .int (g147a + Int32.ofInt (1)), .int (nI k147)] dX1_letAnswer_69 rfl rfl (by decide) rfl ?_
          refine t_iinc_n [.ref B, .ref lg, .int (nI a2), .ref (B + 19 + 3 * a2), .int (g147a + Int32.ofInt (1)), .int (nI (k147 + 1))] dX1_letAnswer_72 rfl (by decide) rfl ?_
          refine q_goto (tgt := 13) dX1_letAnswer_75 (by decide) ?_
          exact ih147 (k147 + 1) (g147a + Int32.ofInt (1)) ((fX1_hearReport_0 B lg k147 (W147 (B + 19 + 3 * a2 + 1) k147) W147)) h (by omega) ((congrArg (lp B147 d147 (k147 + 1)) (show (g147a + Int32.ofInt (1), (fX1_hearReport_0 B lg k147 (W147 (B + 19 + 3 * a2 + 1) k147) W147)) = B147 k147 (g147a, W147) from by rw [hB147]; dsimp only; rw [if_pos c149, if_neg c152])).trans hT147) hok
  exact hl147 8 0 (nI 0) V h (by omega) rfl hok
def fX1_reset (B : Nat) (V : q_V) : q_V := let B157 := fun (k157 : Nat) (s157 : q_V) => let W157 := s157; let V159 := fX0_reset (B + 3 + 2 * k157) W157; V159; let T157 := lp B157 8 0 V; let B161 := fun (k161 : Nat) (s161 : q_V) => let W161 := s161; let V163 := fX2_reset (B + 19 + 3 * k161) W161; V163; let T161 := lp B161 6 0 T157; let V165 := vset T161 B 6 (nI 500); let V166 := fX1_set B (nI 2) (nI 20) (nI 4) V165; V166
set_option maxRecDepth 20000 in
set_option maxHeartbeats 4000000 in
theorem eX1_reset (Sc : q_S) (Γ : Nat → q_K) (n : Nat) (V : q_V) (B : Nat) (H : sLk Γ B) : q_fn Sc Γ mX1_reset [.ref B] n V none (fX1_reset B V) := by
  refine q_fn.of fun Q h hQ hok => ?_
  show q_A Sc mX1_reset 0 [.ref B, .retAddr 0] [] h n 0 0 Q
  refine q_iconst (v := nI 0) dX1_reset_0 rfl ?_
  refine t_istore [.ref B, .int (nI 0)] (Or.inl ⟨1, rfl, rfl, dX1_reset_1⟩) (by decide) rfl ?_
  obtain ⟨B157, hB157⟩ : ∃ B_ : Nat → q_V → q_V, B_ = (fun (k157 : Nat) (s157 : q_V) => let W157 := s157; (fX0_reset (B + 3 + 2 * k157) W157)) := ⟨_, rfl⟩
  have hl157 : ∀ (d157 k157 : Nat) (W157 : q_V) (h : q_H), k157 + d157 = 8 → lp B157 d157 k157 W157 = (lp B157 8 0 V) → q_ok (gX Γ W157) h → q_A Sc mX1_reset 2 [.ref B, .int (nI k157)] [] h n 0 0 Q := by
    intro d157
    induction d157 with
    | zero =>
      intro k157  W157 h e157 hT157 hok
      have hT157 : W157 = (lp B157 8 0 V) := hT157
      subst hT157
      refine q_iload_n dX1_reset_2 rfl ?_
      refine q_bipush (v := nI 8) dX1_reset_3 rfl ?_
      refine t_icmp_ge_n (tgt := 23) (by omega) (by omega) dX1_reset_5 (by decide) (fun c160 => ?_) (fun c160 => ?_)
      rotate_left
      · exact absurd c160 (by omega)
      refine q_iconst (v := nI 0) dX1_reset_23 rfl ?_
      refine t_istore [.ref B, .int (nI 0)] (Or.inl ⟨1, rfl, rfl, dX1_reset_24⟩) (by decide) rfl ?_
      obtain ⟨B161, hB161⟩ : ∃ B_ : Nat → q_V → q_V, B_ = (fun (k161 : Nat) (s161 : q_V) => let W161 := s161; (fX2_reset (B + 19 + 3 * k161) W161)) := ⟨_, rfl⟩
      have hl161 : ∀ (d161 k161 : Nat) (W161 : q_V) (h : q_H), k161 + d161 = 6 → lp B161 d161 k161 W161 = (lp B161 6 0 (lp B157 8 0 V)) → q_ok (gX Γ W161) h → q_A Sc mX1_reset 25 [.ref B, .int (nI k161)] [] h n 0 0 Q := by
        intro d161
        induction d161 with
        | zero =>
          intro k161  W161 h e161 hT161 hok
          have hT161 : W161 = (lp B161 6 0 (lp B157 8 0 V)) := hT161
          subst hT161
          refine q_iload_n dX1_reset_25 rfl ?_
          refine q_bipush (v := nI 6) dX1_reset_26 rfl ?_
          refine t_icmp_ge_n (tgt := 46) (by omega) (by omega) dX1_reset_28 (by decide) (fun c164 => ?_) (fun c164 => ?_)
          rotate_left
          · exact absurd c164 (by omega)
          refine q_aload_n dX1_reset_46 rfl ?_
          refine q_sipush (v := nI 500) dX1_reset_47 rfl ?_
          refine v_puti 6 kX1 (by decide) wPX1_34 rfl dX1_reset_50 hok H.1 rfl ⟨rfl, rfl⟩ (fun h hok => ?_)
          refine q_aload_n dX1_reset_53 rfl ?_
          refine q_iconst (v := nI 2) dX1_reset_54 rfl ?_
          refine q_bipush (v := nI 20) dX1_reset_55 rfl ?_
          refine q_iconst (v := nI 4) dX1_reset_57 rfl ?_
          refine v_callV (M' := mX1_set) [.int (nI 2), .int (nI 20), .int (nI 4)] [] kX1 dX1_reset_58 wPX1_37v wIX1_set wSX1_set iX1_set oX1_set rfl hok H.1 (eX1_set Sc Γ n (vset (lp B161 6 0 (lp B157 8 0 V)) B 6 (nI 500)) B H (nI 2) (nI 20) (nI 4)) (Nat.le_of_ble_eq_true rfl) (Nat.le_of_ble_eq_true rfl) (Nat.le_of_ble_eq_true rfl) rfl (fun h hok => ?_)
          exact q_vret dX1_reset_61 rfl (hQ _ _ (rfl) (by subst hB161; subst hB157; dsimp only [fX1_reset]; exact hok))
        | succ d161 ih161 =>
          intro k161  W161 h e161 hT161 hok
          refine q_iload_n dX1_reset_25 rfl ?_
          refine q_bipush (v := nI 6) dX1_reset_26 rfl ?_
          refine t_icmp_ge_n (tgt := 46) (by omega) (by omega) dX1_reset_28 (by decide) (fun c162 => ?_) (fun c162 => ?_)
          · exact absurd c162 (by omega)
          refine q_aload_n dX1_reset_31 rfl ?_
          refine v_getr 2 kX1 (by decide) wPX1_19 dX1_reset_32 hok H.1 rfl ?_
          refine q_iload_n dX1_reset_35 rfl ?_
          refine v_aald (j := k161) (z := B + 19 + 3 * k161) "GroupFilters$Member" dX1_reset_36 hok H.2.2.1 rfl (rg_at (by omega)) (by rw [rg_len]; omega) ?_
          refine v_callV (M' := mX2_reset) [] [] kX2 dX1_reset_37 wPX1_33v wIX2_reset wSX2_reset iX2_reset oX2_reset rfl hok (H.2.2.2.2 k161 (by omega)).1 (eX2_reset Sc Γ n W161 (B + 19 + 3 * k161) (H.2.2.2.2 k161 (by omega))) (Nat.le_of_ble_eq_true rfl) (Nat.le_of_ble_eq_true rfl) (Nat.le_of_ble_eq_true rfl) rfl (fun h hok => ?_)
          refine t_iinc_n [.ref B, .int (nI (k161 + 1))] dX1_reset_40 rfl (by decide) rfl ?_
          refine q_goto (tgt := 25) dX1_reset_43 (by decide) ?_
          exact ih161 (k161 + 1) ((fX2_reset (B + 19 + 3 * k161) W161)) h (by omega) ((congrArg (lp B161 d161 (k161 + 1)) (show (fX2_reset (B + 19 + 3 * k161) W161) = B161 k161 W161 from by rw [hB161] <;> dsimp only)).trans hT161) hok
      exact hl161 6 0  ((lp B157 8 0 V)) h (by omega) rfl hok
    | succ d157 ih157 =>
      intro k157  W157 h e157 hT157 hok
      refine q_iload_n dX1_reset_2 rfl ?_
      refine q_bipush (v := nI 8) dX1_reset_3 rfl ?_
      refine t_icmp_ge_n (tgt := 23) (by omega) (by omega) dX1_reset_5 (by decide) (fun c158 => ?_) (fun c158 => ?_)
      · exact absurd c158 (by omega)
      refine q_aload_n dX1_reset_8 rfl ?_
      refine v_getr 1 kX1 (by decide) wPX1_11 dX1_reset_9 hok H.1 rfl ?_
      refine q_iload_n dX1_reset_12 rfl ?_
      refine v_aald (j := k157) (z := B + 3 + 2 * k157) "GroupFilters$Filter" dX1_reset_13 hok H.2.1 rfl (rg_at (by omega)) (by rw [rg_len]; omega) ?_
      refine v_callV (M' := mX0_reset) [] [] kX0 dX1_reset_14 wPX1_32v wIX0_reset wSX0_reset iX0_reset oX0_reset rfl hok (H.2.2.2.1 k157 (by omega)).1 (eX0_reset Sc Γ n W157 (B + 3 + 2 * k157) (H.2.2.2.1 k157 (by omega))) (Nat.le_of_ble_eq_true rfl) (Nat.le_of_ble_eq_true rfl) (Nat.le_of_ble_eq_true rfl) rfl (fun h hok => ?_)
      refine t_iinc_n [.ref B, .int (nI (k157 + 1))] dX1_reset_17 rfl (by decide) rfl ?_
      refine q_goto (tgt := 2) dX1_reset_20 (by decide) ?_
      exact ih157 (k157 + 1) ((fX0_reset (B + 3 + 2 * k157) W157)) h (by omega) ((congrArg (lp B157 d157 (k157 + 1)) (show (fX0_reset (B + 3 + 2 * k157) W157) = B157 k157 W157 from by rw [hB157] <;> dsimp only)).trans hT157) hok
  exact hl157 8 0  V h (by omega) rfl hok
