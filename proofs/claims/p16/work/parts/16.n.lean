def fX4_settings (X many : Nat) (a1 : Nat) (a2 : Int32) (a3 : Int32) (a4 : Int32) (V : q_V) : q_V := let V371 := fX1_set (X + 2 + 37 * a1) a2 a3 a4 V; V371
def vX4_settings (X many : Nat) (a1 : Nat) (a2 : Int32) (a3 : Int32) (a4 : Int32) (V : q_V) : Int32 := let V371 := fX1_set (X + 2 + 37 * a1) a2 a3 a4 V; (vX1_grace (X + 2 + 37 * a1) V371)
set_option maxRecDepth 20000 in
set_option maxHeartbeats 4000000 in
theorem kX4_settings (Sc : q_S) (Γ : Nat → q_K) (n : Nat) (V : q_V) (X many : Nat) (H : sGF Γ X many) (hm1 : 1 ≤ many) (hm4 : many ≤ 4) (a1 : Nat) (b1 : a1 < many) (a2 : Int32) (a3 : Int32) (a4 : Int32)  {kc ks : Nat} {Q : q_O → q_H → Nat → Prop} {h : q_H} (hQ : ∀ (O : q_O) (h' : q_H), O = .inl (some (.int (vX4_settings X many a1 a2 a3 a4 V))) → q_ok (gX Γ (fX4_settings X many a1 a2 a3 a4 V)) h' → Q O h' n) (hok : q_ok (gX Γ V) h) : q_A Sc mX4_settings 31 [.ref X, .int (nI a1), .int (a2), .int (a3), .int (a4)] [] h n kc ks Q := by
  refine q_aload_n dX4_settings_31 rfl ?_
  refine v_getr 0 kX4 (by decide) wPX4_20 dX4_settings_32 hok H.1 rfl ?_
  refine q_iload_n dX4_settings_35 rfl ?_
  refine v_aald (j := a1) (z := X + 2 + 37 * a1) "GroupFilters$Link" dX4_settings_36 hok H.2.1 rfl (rg_at (by omega)) (by rw [rg_len]; omega) ?_
  refine q_iload_n dX4_settings_37 rfl ?_
  refine q_iload_n dX4_settings_38 rfl ?_
  refine q_iload dX4_settings_39 rfl ?_
  refine v_callV (M' := mX1_set) [.int (a2), .int (a3), .int (a4)] [] kX1 dX4_settings_41 wPX4_42v wIX1_set wSX1_set iX1_set oX1_set rfl hok (H.2.2.1 a1 (by omega)).1 (eX1_set Sc Γ n V (X + 2 + 37 * a1) (H.2.2.1 a1 (by omega)) a2 a3 a4) (Nat.le_of_ble_eq_true rfl) (Nat.le_of_ble_eq_true rfl) (Nat.le_of_ble_eq_true rfl) rfl (fun h hok => ?_)
  refine q_aload_n dX4_settings_44 rfl ?_
  refine v_getr 0 kX4 (by decide) wPX4_20 dX4_settings_45 hok H.1 rfl ?_
  refine q_iload_n dX4_settings_48 rfl ?_
  refine v_aald (j := a1) (z := X + 2 + 37 * a1) "GroupFilters$Link" dX4_settings_49 hok H.2.1 rfl (rg_at (by omega)) (by rw [rg_len]; omega) ?_
  refine v_callV (M' := mX1_grace) [] [] kX1 dX4_settings_50 wPX4_45v wIX1_grace wSX1_grace iX1_grace oX1_grace rfl hok (H.2.2.1 a1 (by omega)).1 (eX1_grace Sc Γ n (fX1_set (X + 2 + 37 * a1) a2 a3 a4 V) (X + 2 + 37 * a1) (H.2.2.1 a1 (by omega))) (Nat.le_of_ble_eq_true rfl) (Nat.le_of_ble_eq_true rfl) (Nat.le_of_ble_eq_true rfl) rfl (fun h hok => ?_)
  exact q_iret dX4_settings_53 rfl (rfl) (hQ _ _ (by dsimp only [vX4_settings]) (by dsimp only [fX4_settings]; exact hok))
def fX4_report_0 (X many : Nat) (a1 : Nat) (a2 : Nat) (a4 : Int32) (V : q_V) : q_V := let V372 := fX1_hearReport_0 (X + 2 + 37 * a1) (X + 2 + 37 * many) a2 a4 V; V372
def vX4_report_0 (X many : Nat) (a1 : Nat) (a2 : Nat) (a4 : Int32) (V : q_V) : Int32 := let V372 := fX1_hearReport_0 (X + 2 + 37 * a1) (X + 2 + 37 * many) a2 a4 V; ((V372 (X + 2 + 37 * many) 4) - (V (X + 2 + 37 * many) 4))
set_option maxRecDepth 20000 in
set_option maxHeartbeats 4000000 in
theorem kX4_report_0 (Sc : q_S) (Γ : Nat → q_K) (n : Nat) (V : q_V) (X many : Nat) (H : sGF Γ X many) (hm1 : 1 ≤ many) (hm4 : many ≤ 4) (a1 : Nat) (b1 : a1 < many) (a2 : Nat) (b2 : a2 < 8) (a4 : Int32)  {kc ks : Nat} {Q : q_O → q_H → Nat → Prop} {h : q_H} (hQ : ∀ (O : q_O) (h' : q_H), O = .inl (some (.int (vX4_report_0 X many a1 a2 a4 V))) → q_ok (gX Γ (fX4_report_0 X many a1 a2 a4 V)) h' → Q O h' n) (hok : q_ok (gX Γ V) h) : q_A Sc mX4_report 29 [.ref X, .int (nI a1), .int (nI a2), .int (nI 0), .int (a4), .retAddr 0] [] h n kc ks Q := by
  refine q_aload_n dX4_report_29 rfl ?_
  refine v_getr 1 kX4 (by decide) wPX4_30 dX4_report_30 hok H.1 rfl ?_
  refine v_geti 4 kX3 (by decide) wPX4_50 dX4_report_33 hok H.2.2.2.1 rfl ?_
  refine t_istore [.ref X, .int (nI a1), .int (nI a2), .int (nI 0), .int (a4), .int (V (X + 2 + 37 * many) 4)] (Or.inr ⟨rfl, dX4_report_36⟩) (by decide) rfl ?_
  refine q_aload_n dX4_report_38 rfl ?_
  refine v_getr 0 kX4 (by decide) wPX4_20 dX4_report_39 hok H.1 rfl ?_
  refine q_iload_n dX4_report_42 rfl ?_
  refine v_aald (j := a1) (z := X + 2 + 37 * a1) "GroupFilters$Link" dX4_report_43 hok H.2.1 rfl (rg_at (by omega)) (by rw [rg_len]; omega) ?_
  refine q_aload_n dX4_report_44 rfl ?_
  refine v_getr 1 kX4 (by decide) wPX4_30 dX4_report_45 hok H.1 rfl ?_
  refine q_iload_n dX4_report_48 rfl ?_
  refine q_iload_n dX4_report_49 rfl ?_
  refine q_iload dX4_report_50 rfl ?_
  refine v_callV (M' := mX1_hearReport) [.ref (X + 2 + 37 * many), .int (nI a2), .int (nI 0), .int (a4)] [] kX1 dX4_report_52 wPX4_54v wIX1_hearReport wSX1_hearReport iX1_hearReport oX1_hearReport rfl hok (H.2.2.1 a1 (by omega)).1 (eX1_hearReport_0 Sc Γ n V (X + 2 + 37 * a1) (H.2.2.1 a1 (by omega)) (X + 2 + 37 * many) H.2.2.2 a2 (by omega) a4) (Nat.le_of_ble_eq_true rfl) (Nat.le_of_ble_eq_true rfl) (Nat.le_of_ble_eq_true rfl) rfl (fun h hok => ?_)
  refine q_aload_n dX4_report_55 rfl ?_
  refine v_getr 1 kX4 (by decide) wPX4_30 dX4_report_56 hok H.1 rfl ?_
  refine v_geti 4 kX3 (by decide) wPX4_50 dX4_report_59 hok H.2.2.2.1 rfl ?_
  refine q_iload dX4_report_62 rfl ?_
  refine q_isub dX4_report_64 ?_
  exact q_iret dX4_report_65 rfl (rfl) (hQ _ _ (by dsimp only [vX4_report_0]) (by dsimp only [fX4_report_0]; exact hok))
def fX4_report_1 (X many : Nat) (a1 : Nat) (a2 : Nat) (a4 : Int32) (V : q_V) : q_V := let V373 := fX1_hearReport_1 (X + 2 + 37 * a1) (X + 2 + 37 * many) a2 a4 V; V373
def vX4_report_1 (X many : Nat) (a1 : Nat) (a2 : Nat) (a4 : Int32) (V : q_V) : Int32 := let V373 := fX1_hearReport_1 (X + 2 + 37 * a1) (X + 2 + 37 * many) a2 a4 V; ((V373 (X + 2 + 37 * many) 4) - (V (X + 2 + 37 * many) 4))
set_option maxRecDepth 20000 in
set_option maxHeartbeats 4000000 in
theorem kX4_report_1 (Sc : q_S) (Γ : Nat → q_K) (n : Nat) (V : q_V) (X many : Nat) (H : sGF Γ X many) (hm1 : 1 ≤ many) (hm4 : many ≤ 4) (a1 : Nat) (b1 : a1 < many) (a2 : Nat) (b2 : a2 < 8) (a4 : Int32)  {kc ks : Nat} {Q : q_O → q_H → Nat → Prop} {h : q_H} (hQ : ∀ (O : q_O) (h' : q_H), O = .inl (some (.int (vX4_report_1 X many a1 a2 a4 V))) → q_ok (gX Γ (fX4_report_1 X many a1 a2 a4 V)) h' → Q O h' n) (hok : q_ok (gX Γ V) h) : q_A Sc mX4_report 29 [.ref X, .int (nI a1), .int (nI a2), .int (nI 1), .int (a4), .retAddr 0] [] h n kc ks Q := by
  refine q_aload_n dX4_report_29 rfl ?_
  refine v_getr 1 kX4 (by decide) wPX4_30 dX4_report_30 hok H.1 rfl ?_
  refine v_geti 4 kX3 (by decide) wPX4_50 dX4_report_33 hok H.2.2.2.1 rfl ?_
  refine t_istore [.ref X, .int (nI a1), .int (nI a2), .int (nI 1), .int (a4), .int (V (X + 2 + 37 * many) 4)] (Or.inr ⟨rfl, dX4_report_36⟩) (by decide) rfl ?_
  refine q_aload_n dX4_report_38 rfl ?_
  refine v_getr 0 kX4 (by decide) wPX4_20 dX4_report_39 hok H.1 rfl ?_
  refine q_iload_n dX4_report_42 rfl ?_
  refine v_aald (j := a1) (z := X + 2 + 37 * a1) "GroupFilters$Link" dX4_report_43 hok H.2.1 rfl (rg_at (by omega)) (by rw [rg_len]; omega) ?_
  refine q_aload_n dX4_report_44 rfl ?_
  refine v_getr 1 kX4 (by decide) wPX4_30 dX4_report_45 hok H.1 rfl ?_
  refine q_iload_n dX4_report_48 rfl ?_
  refine q_iload_n dX4_report_49 rfl ?_
  refine q_iload dX4_report_50 rfl ?_
  refine v_callV (M' := mX1_hearReport) [.ref (X + 2 + 37 * many), .int (nI a2), .int (nI 1), .int (a4)] [] kX1 dX4_report_52 wPX4_54v wIX1_hearReport wSX1_hearReport iX1_hearReport oX1_hearReport rfl hok (H.2.2.1 a1 (by omega)).1 (eX1_hearReport_1 Sc Γ n V (X + 2 + 37 * a1) (H.2.2.1 a1 (by omega)) (X + 2 + 37 * many) H.2.2.2 a2 (by omega) a4) (Nat.le_of_ble_eq_true rfl) (Nat.le_of_ble_eq_true rfl) (Nat.le_of_ble_eq_true rfl) rfl (fun h hok => ?_)
  refine q_aload_n dX4_report_55 rfl ?_
  refine v_getr 1 kX4 (by decide) wPX4_30 dX4_report_56 hok H.1 rfl ?_
  refine v_geti 4 kX3 (by decide) wPX4_50 dX4_report_59 hok H.2.2.2.1 rfl ?_
  refine q_iload dX4_report_62 rfl ?_
  refine q_isub dX4_report_64 ?_
  exact q_iret dX4_report_65 rfl (rfl) (hQ _ _ (by dsimp only [vX4_report_1]) (by dsimp only [fX4_report_1]; exact hok))
def fX4_report_2 (X many : Nat) (a1 : Nat) (a2 : Nat) (a4 : Int32) (V : q_V) : q_V := let V374 := fX1_hearReport_2 (X + 2 + 37 * a1) (X + 2 + 37 * many) a2 a4 V; V374
def vX4_report_2 (X many : Nat) (a1 : Nat) (a2 : Nat) (a4 : Int32) (V : q_V) : Int32 := let V374 := fX1_hearReport_2 (X + 2 + 37 * a1) (X + 2 + 37 * many) a2 a4 V; ((V374 (X + 2 + 37 * many) 4) - (V (X + 2 + 37 * many) 4))
set_option maxRecDepth 20000 in
set_option maxHeartbeats 4000000 in
theorem kX4_report_2 (Sc : q_S) (Γ : Nat → q_K) (n : Nat) (V : q_V) (X many : Nat) (H : sGF Γ X many) (hm1 : 1 ≤ many) (hm4 : many ≤ 4) (a1 : Nat) (b1 : a1 < many) (a2 : Nat) (b2 : a2 < 8) (a4 : Int32)  {kc ks : Nat} {Q : q_O → q_H → Nat → Prop} {h : q_H} (hQ : ∀ (O : q_O) (h' : q_H), O = .inl (some (.int (vX4_report_2 X many a1 a2 a4 V))) → q_ok (gX Γ (fX4_report_2 X many a1 a2 a4 V)) h' → Q O h' n) (hok : q_ok (gX Γ V) h) : q_A Sc mX4_report 29 [.ref X, .int (nI a1), .int (nI a2), .int (nI 2), .int (a4), .retAddr 0] [] h n kc ks Q := by
  refine q_aload_n dX4_report_29 rfl ?_
  refine v_getr 1 kX4 (by decide) wPX4_30 dX4_report_30 hok H.1 rfl ?_
  refine v_geti 4 kX3 (by decide) wPX4_50 dX4_report_33 hok H.2.2.2.1 rfl ?_
  refine t_istore [.ref X, .int (nI a1), .int (nI a2), .int (nI 2), .int (a4), .int (V (X + 2 + 37 * many) 4)] (Or.inr ⟨rfl, dX4_report_36⟩) (by decide) rfl ?_
  refine q_aload_n dX4_report_38 rfl ?_
  refine v_getr 0 kX4 (by decide) wPX4_20 dX4_report_39 hok H.1 rfl ?_
  refine q_iload_n dX4_report_42 rfl ?_
  refine v_aald (j := a1) (z := X + 2 + 37 * a1) "GroupFilters$Link" dX4_report_43 hok H.2.1 rfl (rg_at (by omega)) (by rw [rg_len]; omega) ?_
  refine q_aload_n dX4_report_44 rfl ?_
  refine v_getr 1 kX4 (by decide) wPX4_30 dX4_report_45 hok H.1 rfl ?_
  refine q_iload_n dX4_report_48 rfl ?_
  refine q_iload_n dX4_report_49 rfl ?_
  refine q_iload dX4_report_50 rfl ?_
  refine v_callV (M' := mX1_hearReport) [.ref (X + 2 + 37 * many), .int (nI a2), .int (nI 2), .int (a4)] [] kX1 dX4_report_52 wPX4_54v wIX1_hearReport wSX1_hearReport iX1_hearReport oX1_hearReport rfl hok (H.2.2.1 a1 (by omega)).1 (eX1_hearReport_2 Sc Γ n V (X + 2 + 37 * a1) (H.2.2.1 a1 (by omega)) (X + 2 + 37 * many) H.2.2.2 a2 (by omega) a4) (Nat.le_of_ble_eq_true rfl) (Nat.le_of_ble_eq_true rfl) (Nat.le_of_ble_eq_true rfl) rfl (fun h hok => ?_)
  refine q_aload_n dX4_report_55 rfl ?_
  refine v_getr 1 kX4 (by decide) wPX4_30 dX4_report_56 hok H.1 rfl ?_
  refine v_geti 4 kX3 (by decide) wPX4_50 dX4_report_59 hok H.2.2.2.1 rfl ?_
  refine q_iload dX4_report_62 rfl ?_
  refine q_isub dX4_report_64 ?_
  exact q_iret dX4_report_65 rfl (rfl) (hQ _ _ (by dsimp only [vX4_report_2]) (by dsimp only [fX4_report_2]; exact hok))
def fX4_report_3 (X many : Nat) (a1 : Nat) (a2 : Nat) (a4 : Int32) (V : q_V) : q_V := let V375 := fX1_hearReport_3 (X + 2 + 37 * a1) (X + 2 + 37 * many) a2 a4 V; V375
def vX4_report_3 (X many : Nat) (a1 : Nat) (a2 : Nat) (a4 : Int32) (V : q_V) : Int32 := let V375 := fX1_hearReport_3 (X + 2 + 37 * a1) (X + 2 + 37 * many) a2 a4 V; ((V375 (X + 2 + 37 * many) 4) - (V (X + 2 + 37 * many) 4))
set_option maxRecDepth 20000 in
set_option maxHeartbeats 4000000 in
theorem kX4_report_3 (Sc : q_S) (Γ : Nat → q_K) (n : Nat) (V : q_V) (X many : Nat) (H : sGF Γ X many) (hm1 : 1 ≤ many) (hm4 : many ≤ 4) (a1 : Nat) (b1 : a1 < many) (a2 : Nat) (b2 : a2 < 8) (a4 : Int32)  {kc ks : Nat} {Q : q_O → q_H → Nat → Prop} {h : q_H} (hQ : ∀ (O : q_O) (h' : q_H), O = .inl (some (.int (vX4_report_3 X many a1 a2 a4 V))) → q_ok (gX Γ (fX4_report_3 X many a1 a2 a4 V)) h' → Q O h' n) (hok : q_ok (gX Γ V) h) : q_A Sc mX4_report 29 [.ref X, .int (nI a1), .int (nI a2), .int (nI 3), .int (a4), .retAddr 0] [] h n kc ks Q := by
  refine q_aload_n dX4_report_29 rfl ?_
  refine v_getr 1 kX4 (by decide) wPX4_30 dX4_report_30 hok H.1 rfl ?_
  refine v_geti 4 kX3 (by decide) wPX4_50 dX4_report_33 hok H.2.2.2.1 rfl ?_
  refine t_istore [.ref X, .int (nI a1), .int (nI a2), .int (nI 3), .int (a4), .int (V (X + 2 + 37 * many) 4)] (Or.inr ⟨rfl, dX4_report_36⟩) (by decide) rfl ?_
  refine q_aload_n dX4_report_38 rfl ?_
  refine v_getr 0 kX4 (by decide) wPX4_20 dX4_report_39 hok H.1 rfl ?_
  refine q_iload_n dX4_report_42 rfl ?_
  refine v_aald (j := a1) (z := X + 2 + 37 * a1) "GroupFilters$Link" dX4_report_43 hok H.2.1 rfl (rg_at (by omega)) (by rw [rg_len]; omega) ?_
  refine q_aload_n dX4_report_44 rfl ?_
  refine v_getr 1 kX4 (by decide) wPX4_30 dX4_report_45 hok H.1 rfl ?_
  refine q_iload_n dX4_report_48 rfl ?_
  refine q_iload_n dX4_report_49 rfl ?_
  refine q_iload dX4_report_50 rfl ?_
  refine v_callV (M' := mX1_hearReport) [.ref (X + 2 + 37 * many), .int (nI a2), .int (nI 3), .int (a4)] [] kX1 dX4_report_52 wPX4_54v wIX1_hearReport wSX1_hearReport iX1_hearReport oX1_hearReport rfl hok (H.2.2.1 a1 (by omega)).1 (eX1_hearReport_3 Sc Γ n V (X + 2 + 37 * a1) (H.2.2.1 a1 (by omega)) (X + 2 + 37 * many) H.2.2.2 a2 (by omega) a4) (Nat.le_of_ble_eq_true rfl) (Nat.le_of_ble_eq_true rfl) (Nat.le_of_ble_eq_true rfl) rfl (fun h hok => ?_)
  refine q_aload_n dX4_report_55 rfl ?_
  refine v_getr 1 kX4 (by decide) wPX4_30 dX4_report_56 hok H.1 rfl ?_
  refine v_geti 4 kX3 (by decide) wPX4_50 dX4_report_59 hok H.2.2.2.1 rfl ?_
  refine q_iload dX4_report_62 rfl ?_
  refine q_isub dX4_report_64 ?_
  exact q_iret dX4_report_65 rfl (rfl) (hQ _ _ (by dsimp only [vX4_report_3]) (by dsimp only [fX4_report_3]; exact hok))
def fX4_report_4 (X many : Nat) (a1 : Nat) (a2 : Nat) (a4 : Int32) (V : q_V) : q_V := let V376 := fX1_hearReport_4 (X + 2 + 37 * a1) (X + 2 + 37 * many) a2 a4 V; V376
def vX4_report_4 (X many : Nat) (a1 : Nat) (a2 : Nat) (a4 : Int32) (V : q_V) : Int32 := let V376 := fX1_hearReport_4 (X + 2 + 37 * a1) (X + 2 + 37 * many) a2 a4 V; ((V376 (X + 2 + 37 * many) 4) - (V (X + 2 + 37 * many) 4))
set_option maxRecDepth 20000 in
set_option maxHeartbeats 4000000 in
theorem kX4_report_4 (Sc : q_S) (Γ : Nat → q_K) (n : Nat) (V : q_V) (X many : Nat) (H : sGF Γ X many) (hm1 : 1 ≤ many) (hm4 : many ≤ 4) (a1 : Nat) (b1 : a1 < many) (a2 : Nat) (b2 : a2 < 8) (a4 : Int32)  {kc ks : Nat} {Q : q_O → q_H → Nat → Prop} {h : q_H} (hQ : ∀ (O : q_O) (h' : q_H), O = .inl (some (.int (vX4_report_4 X many a1 a2 a4 V))) → q_ok (gX Γ (fX4_report_4 X many a1 a2 a4 V)) h' → Q O h' n) (hok : q_ok (gX Γ V) h) : q_A Sc mX4_report 29 [.ref X, .int (nI a1), .int (nI a2), .int (nI 4), .int (a4), .retAddr 0] [] h n kc ks Q := by
  refine q_aload_n dX4_report_29 rfl ?_
  refine v_getr 1 kX4 (by decide) wPX4_30 dX4_report_30 hok H.1 rfl ?_
  refine v_geti 4 kX3 (by decide) wPX4_50 dX4_report_33 hok H.2.2.2.1 rfl ?_
  refine t_istore [.ref X, .int (nI a1), .int (nI a2), .int (nI 4), .int (a4), .int (V (X + 2 + 37 * many) 4)] (Or.inr ⟨rfl, dX4_report_36⟩) (by decide) rfl ?_
  refine q_aload_n dX4_report_38 rfl ?_
  refine v_getr 0 kX4 (by decide) wPX4_20 dX4_report_39 hok H.1 rfl ?_
  refine q_iload_n dX4_report_42 rfl ?_
  refine v_aald (j := a1) (z := X + 2 + 37 * a1) "GroupFilters$Link" dX4_report_43 hok H.2.1 rfl (rg_at (by omega)) (by rw [rg_len]; omega) ?_
  refine q_aload_n dX4_report_44 rfl ?_
  refine v_getr 1 kX4 (by decide) wPX4_30 dX4_report_45 hok H.1 rfl ?_
  refine q_iload_n dX4_report_48 rfl ?_
  refine q_iload_n dX4_report_49 rfl ?_
  refine q_iload dX4_report_50 rfl ?_
  refine v_callV (M' := mX1_hearReport) [.ref (X + 2 + 37 * many), .int (nI a2), .int (nI 4), .int (a4)] [] kX1 dX4_report_52 wPX4_54v wIX1_hearReport wSX1_hearReport iX1_hearReport oX1_hearReport rfl hok (H.2.2.1 a1 (by omega)).1 (eX1_hearReport_4 Sc Γ n V (X + 2 + 37 * a1) (H.2.2.1 a1 (by omega)) (X + 2 + 37 * many) H.2.2.2 a2 (by omega) a4) (Nat.le_of_ble_eq_true rfl) (Nat.le_of_ble_eq_true rfl) (Nat.le_of_ble_eq_true rfl) rfl (fun h hok => ?_)
  refine q_aload_n dX4_report_55 rfl ?_
  refine v_getr 1 kX4 (by decide) wPX4_30 dX4_report_56 hok H.1 rfl ?_
  refine v_geti 4 kX3 (by decide) wPX4_50 dX4_report_59 hok H.2.2.2.1 rfl ?_
  refine q_iload dX4_report_62 rfl ?_
  refine q_isub dX4_report_64 ?_
  exact q_iret dX4_report_65 rfl (rfl) (hQ _ _ (by dsimp only [vX4_report_4]) (by dsimp only [fX4_report_4]; exact hok))
def fX4_report_5 (X many : Nat) (a1 : Nat) (a2 : Nat) (a4 : Int32) (V : q_V) : q_V := let V377 := fX1_hearReport_5 (X + 2 + 37 * a1) (X + 2 + 37 * many) a2 a4 V; V377
def vX4_report_5 (X many : Nat) (a1 : Nat) (a2 : Nat) (a4 : Int32) (V : q_V) : Int32 := let V377 := fX1_hearReport_5 (X + 2 + 37 * a1) (X + 2 + 37 * many) a2 a4 V; ((V377 (X + 2 + 37 * many) 4) - (V (X + 2 + 37 * many) 4))
set_option maxRecDepth 20000 in
set_option maxHeartbeats 4000000 in
theorem kX4_report_5 (Sc : q_S) (Γ : Nat → q_K) (n : Nat) (V : q_V) (X many : Nat) (H : sGF Γ X many) (hm1 : 1 ≤ many) (hm4 : many ≤ 4) (a1 : Nat) (b1 : a1 < many) (a2 : Nat) (b2 : a2 < 8) (a4 : Int32)  {kc ks : Nat} {Q : q_O → q_H → Nat → Prop} {h : q_H} (hQ : ∀ (O : q_O) (h' : q_H), O = .inl (some (.int (vX4_report_5 X many a1 a2 a4 V))) → q_ok (gX Γ (fX4_report_5 X many a1 a2 a4 V)) h' → Q O h' n) (hok : q_ok (gX Γ V) h) : q_A Sc mX4_report 29 [.ref X, .int (nI a1), .int (nI a2), .int (nI 5), .int (a4), .retAddr 0] [] h n kc ks Q := by
  refine q_aload_n dX4_report_29 rfl ?_
  refine v_getr 1 kX4 (by decide) wPX4_30 dX4_report_30 hok H.1 rfl ?_
  refine v_geti 4 kX3 (by decide) wPX4_50 dX4_report_33 hok H.2.2.2.1 rfl ?_
  refine t_istore [.ref X, .int (nI a1), .int (nI a2), .int (nI 5), .int (a4), .int (V (X + 2 + 37 * many) 4)] (Or.inr ⟨rfl, dX4_report_36⟩) (by decide) rfl ?_
  refine q_aload_n dX4_report_38 rfl ?_
  refine v_getr 0 kX4 (by decide) wPX4_20 dX4_report_39 hok H.1 rfl ?_
  refine q_iload_n dX4_report_42 rfl ?_
  refine v_aald (j := a1) (z := X + 2 + 37 * a1) "GroupFilters$Link" dX4_report_43 hok H.2.1 rfl (rg_at (by omega)) (by rw [rg_len]; omega) ?_
  refine q_aload_n dX4_report_44 rfl ?_
  refine v_getr 1 kX4 (by decide) wPX4_30 dX4_report_45 hok H.1 rfl ?_
  refine q_iload_n dX4_report_48 rfl ?_
  refine q_iload_n dX4_report_49 rfl ?_
  refine q_iload dX4_report_50 rfl ?_
  refine v_callV (M' := mX1_hearReport) [.ref (X + 2 + 37 * many), .int (nI a2), .int (nI 5), .int (a4)] [] kX1 dX4_report_52 wPX4_54v wIX1_hearReport wSX1_hearReport iX1_hearReport oX1_hearReport rfl hok (H.2.2.1 a1 (by omega)).1 (eX1_hearReport_5 Sc Γ n V (X + 2 + 37 * a1) (H.2.2.1 a1 (by omega)) (X + 2 + 37 * many) H.2.2.2 a2 (by omega) a4) (Nat.le_of_ble_eq_true rfl) (Nat.le_of_ble_eq_true rfl) (Nat.le_of_ble_eq_true rfl) rfl (fun h hok => ?_)
  refine q_aload_n dX4_report_55 rfl ?_
  refine v_getr 1 kX4 (by decide) wPX4_30 dX4_report_56 hok H.1 rfl ?_
  refine v_geti 4 kX3 (by decide) wPX4_50 dX4_report_59 hok H.2.2.2.1 rfl ?_
  refine q_iload dX4_report_62 rfl ?_
  refine q_isub dX4_report_64 ?_
  exact q_iret dX4_report_65 rfl (rfl) (hQ _ _ (by dsimp only [vX4_report_5]) (by dsimp only [fX4_report_5]; exact hok))
def fX4_report (X many l g : Nat) (a : Int32) (k : Nat) (V : q_V) : q_V := match k with
  | 0 => fX4_report_0 X many l g a V
  | 1 => fX4_report_1 X many l g a V
  | 2 => fX4_report_2 X many l g a V
  | 3 => fX4_report_3 X many l g a V
  | 4 => fX4_report_4 X many l g a V
  | _ => fX4_report_5 X many l g a V
def vX4_report (X many l g : Nat) (a : Int32) (k : Nat) (V : q_V) : Int32 := match k with
  | 0 => vX4_report_0 X many l g a V
  | 1 => vX4_report_1 X many l g a V
  | 2 => vX4_report_2 X many l g a V
  | 3 => vX4_report_3 X many l g a V
  | 4 => vX4_report_4 X many l g a V
  | _ => vX4_report_5 X many l g a V
def fX4_query_n (X many : Nat) (a1 : Nat) (a2 : Int32) (a4 : Int32) (a5 : Int32) (V : q_V) : q_V := if (nI 500) ≤ a2 then (V) else (let V379 := fX1_yieldTo (X + 2 + 37 * a1) a2 V; V379)
def vX4_query_n (X many : Nat) (a1 : Nat) (a2 : Int32) (a4 : Int32) (a5 : Int32) (V : q_V) : Int32 := if (nI 500) ≤ a2 then ((vX1_asks (X + 2 + 37 * a1) V)) else (let V379 := fX1_yieldTo (X + 2 + 37 * a1) a2 V; (vX1_asks (X + 2 + 37 * a1) V379))
set_option maxRecDepth 20000 in
set_option maxHeartbeats 4000000 in
theorem kX4_query_n (Sc : q_S) (Γ : Nat → q_K) (n : Nat) (V : q_V) (X many : Nat) (H : sGF Γ X many) (hm1 : 1 ≤ many) (hm4 : many ≤ 4) (a1 : Nat) (b1 : a1 < many) (a2 : Int32) (a4 : Int32) (a5 : Int32) (b5 : q_bl a5)  {kc ks : Nat} {Q : q_O → q_H → Nat → Prop} {h : q_H} (hQ : ∀ (O : q_O) (h' : q_H), O = .inl (some (.int (vX4_query_n X many a1 a2 a4 a5 V))) → q_ok (gX Γ (fX4_query_n X many a1 a2 a4 a5 V)) h' → Q O h' n) (hok : q_ok (gX Γ V) h) : q_A Sc mX4_query 36 [.ref X, .int (nI a1), .int (a2), .int (-1), .int (a4), .int (a5)] [] h n kc ks Q := by
  refine q_iload_n dX4_query_36 rfl ?_
  refine q_sipush (v := nI 500) dX4_query_37 rfl ?_
  refine q_icmp_ge (tgt := 75) dX4_query_40 (by decide) (fun c378 => ?_) (fun c378 => ?_)
  ·
    refine q_aload_n dX4_query_75 rfl ?_
    refine v_getr 0 kX4 (by decide) wPX4_20 dX4_query_76 hok H.1 rfl ?_
    refine q_iload_n dX4_query_79 rfl ?_
    refine v_aald (j := a1) (z := X + 2 + 37 * a1) "GroupFilters$Link" dX4_query_80 hok H.2.1 rfl (rg_at (by omega)) (by rw [rg_len]; omega) ?_
    refine v_callV (M' := mX1_asks) [] [] kX1 dX4_query_81 wPX4_64v wIX1_asks wSX1_asks iX1_asks oX1_asks rfl hok (H.2.2.1 a1 (by omega)).1 (eX1_asks Sc Γ n V (X + 2 + 37 * a1) (H.2.2.1 a1 (by omega))) (Nat.le_of_ble_eq_true rfl) (Nat.le_of_ble_eq_true rfl) (Nat.le_of_ble_eq_true rfl) rfl (fun h hok => ?_)
    exact q_iret dX4_query_84 rfl (q_bl.nar (bX1_asks (X + 2 + 37 * a1) V)) (hQ _ _ (by dsimp only [vX4_query_n]; rw [if_pos c378]) (by dsimp only [fX4_query_n]; rw [if_pos c378]; exact hok))
  ·
    refine q_aload_n dX4_query_43 rfl ?_
    refine v_getr 0 kX4 (by decide) wPX4_20 dX4_query_44 hok H.1 rfl ?_
    refine q_iload_n dX4_query_47 rfl ?_
    refine v_aald (j := a1) (z := X + 2 + 37 * a1) "GroupFilters$Link" dX4_query_48 hok H.2.1 rfl (rg_at (by omega)) (by rw [rg_len]; omega) ?_
    refine q_iload_n dX4_query_49 rfl ?_
    refine v_callV (M' := mX1_yieldTo) [.int (a2)] [] kX1 dX4_query_50 wPX4_58v wIX1_yieldTo wSX1_yieldTo iX1_yieldTo oX1_yieldTo rfl hok (H.2.2.1 a1 (by omega)).1 (eX1_yieldTo Sc Γ n V (X + 2 + 37 * a1) (H.2.2.1 a1 (by omega)) a2) (Nat.le_of_ble_eq_true rfl) (Nat.le_of_ble_eq_true rfl) (Nat.le_of_ble_eq_true rfl) rfl (fun h hok => ?_)
    refine q_iload_n dX4_query_53 rfl ?_
    refine q_iconst (v := -1) dX4_query_54 rfl ?_
    refine q_icmp_eq (tgt := 75) dX4_query_55 (by decide) (fun _ => ?_) (fun q => absurd q (by decide))
    refine q_aload_n dX4_query_75 rfl ?_
    refine v_getr 0 kX4 (by decide) wPX4_20 dX4_query_76 hok H.1 rfl ?_
    refine q_iload_n dX4_query_79 rfl ?_
    refine v_aald (j := a1) (z := X + 2 + 37 * a1) "GroupFilters$Link" dX4_query_80 hok H.2.1 rfl (rg_at (by omega)) (by rw [rg_len]; omega) ?_
    refine v_callV (M' := mX1_asks) [] [] kX1 dX4_query_81 wPX4_64v wIX1_asks wSX1_asks iX1_asks oX1_asks rfl hok (H.2.2.1 a1 (by omega)).1 (eX1_asks Sc Γ n (fX1_yieldTo (X + 2 + 37 * a1) a2 V) (X + 2 + 37 * a1) (H.2.2.1 a1 (by omega))) (Nat.le_of_ble_eq_true rfl) (Nat.le_of_ble_eq_true rfl) (Nat.le_of_ble_eq_true rfl) rfl (fun h hok => ?_)
    exact q_iret dX4_query_84 rfl (q_bl.nar (bX1_asks (X + 2 + 37 * a1) ((fX1_yieldTo (X + 2 + 37 * a1) a2 V)))) (hQ _ _ (by dsimp only [vX4_query_n]; rw [if_neg c378]) (by dsimp only [fX4_query_n]; rw [if_neg c378]; exact hok))
def fX4_query_g (X many : Nat) (a1 : Nat) (a2 : Int32) (a3 : Nat) (a4 : Int32) (a5 : Int32) (V : q_V) : q_V := if (nI 500) ≤ a2 then (V) else (let V381 := fX1_yieldTo (X + 2 + 37 * a1) a2 V; if (nI a3) = (-1) then (V381) else (if a5 = 0 then (let V384 := fX1_hearQuery (X + 2 + 37 * a1) a3 a4 V381; V384) else (V381)))
def vX4_query_g (X many : Nat) (a1 : Nat) (a2 : Int32) (a3 : Nat) (a4 : Int32) (a5 : Int32) (V : q_V) : Int32 := if (nI 500) ≤ a2 then ((vX1_asks (X + 2 + 37 * a1) V)) else (let V381 := fX1_yieldTo (X + 2 + 37 * a1) a2 V; if (nI a3) = (-1) then ((vX1_asks (X + 2 + 37 * a1) V381)) else (if a5 = 0 then (let V384 := fX1_hearQuery (X + 2 + 37 * a1) a3 a4 V381; (vX1_asks (X + 2 + 37 * a1) V384)) else ((vX1_asks (X + 2 + 37 * a1) V381))))
set_option maxRecDepth 20000 in
set_option maxHeartbeats 4000000 in
theorem kX4_query_g (Sc : q_S) (Γ : Nat → q_K) (n : Nat) (V : q_V) (X many : Nat) (H : sGF Γ X many) (hm1 : 1 ≤ many) (hm4 : many ≤ 4) (a1 : Nat) (b1 : a1 < many) (a2 : Int32) (a3 : Nat) (b3 : a3 < 8) (a4 : Int32) (a5 : Int32) (b5 : q_bl a5)  {kc ks : Nat} {Q : q_O → q_H → Nat → Prop} {h : q_H} (hQ : ∀ (O : q_O) (h' : q_H), O = .inl (some (.int (vX4_query_g X many a1 a2 a3 a4 a5 V))) → q_ok (gX Γ (fX4_query_g X many a1 a2 a3 a4 a5 V)) h' → Q O h' n) (hok : q_ok (gX Γ V) h) : q_A Sc mX4_query 36 [.ref X, .int (nI a1), .int (a2), .int (nI a3), .int (a4), .int (a5)] [] h n kc ks Q := by
  refine q_iload_n dX4_query_36 rfl ?_
  refine q_sipush (v := nI 500) dX4_query_37 rfl ?_
  refine q_icmp_ge (tgt := 75) dX4_query_40 (by decide) (fun c380 => ?_) (fun c380 => ?_)
  ·
    refine q_aload_n dX4_query_75 rfl ?_
    refine v_getr 0 kX4 (by decide) wPX4_20 dX4_query_76 hok H.1 rfl ?_
    refine q_iload_n dX4_query_79 rfl ?_
    refine v_aald (j := a1) (z := X + 2 + 37 * a1) "GroupFilters$Link" dX4_query_80 hok H.2.1 rfl (rg_at (by omega)) (by rw [rg_len]; omega) ?_
    refine v_callV (M' := mX1_asks) [] [] kX1 dX4_query_81 wPX4_64v wIX1_asks wSX1_asks iX1_asks oX1_asks rfl hok (H.2.2.1 a1 (by omega)).1 (eX1_asks Sc Γ n V (X + 2 + 37 * a1) (H.2.2.1 a1 (by omega))) (Nat.le_of_ble_eq_true rfl) (Nat.le_of_ble_eq_true rfl) (Nat.le_of_ble_eq_true rfl) rfl (fun h hok => ?_)
    exact q_iret dX4_query_84 rfl (q_bl.nar (bX1_asks (X + 2 + 37 * a1) V)) (hQ _ _ (by dsimp only [vX4_query_g]; rw [if_pos c380]) (by dsimp only [fX4_query_g]; rw [if_pos c380]; exact hok))
  ·
    refine q_aload_n dX4_query_43 rfl ?_
    refine v_getr 0 kX4 (by decide) wPX4_20 dX4_query_44 hok H.1 rfl ?_
    refine q_iload_n dX4_query_47 rfl ?_
    refine v_aald (j := a1) (z := X + 2 + 37 * a1) "GroupFilters$Link" dX4_query_48 hok H.2.1 rfl (rg_at (by omega)) (by rw [rg_len]; omega) ?_
    refine q_iload_n dX4_query_49 rfl ?_
    refine v_callV (M' := mX1_yieldTo) [.int (a2)] [] kX1 dX4_query_50 wPX4_58v wIX1_yieldTo wSX1_yieldTo iX1_yieldTo oX1_yieldTo rfl hok (H.2.2.1 a1 (by omega)).1 (eX1_yieldTo Sc Γ n V (X + 2 + 37 * a1) (H.2.2.1 a1 (by omega)) a2) (Nat.le_of_ble_eq_true rfl) (Nat.le_of_ble_eq_true rfl) (Nat.le_of_ble_eq_true rfl) rfl (fun h hok => ?_)
    refine q_iload_n dX4_query_53 rfl ?_
    refine q_iconst (v := -1) dX4_query_54 rfl ?_
    refine q_icmp_eq (tgt := 75) dX4_query_55 (by decide) (fun c382 => ?_) (fun c382 => ?_)
    ·
      refine q_aload_n dX4_query_75 rfl ?_
      refine v_getr 0 kX4 (by decide) wPX4_20 dX4_query_76 hok H.1 rfl ?_
      refine q_iload_n dX4_query_79 rfl ?_
      refine v_aald (j := a1) (z := X + 2 + 37 * a1) "GroupFilters$Link" dX4_query_80 hok H.2.1 rfl (rg_at (by omega)) (by rw [rg_len]; omega) ?_
      refine v_callV (M' := mX1_asks) [] [] kX1 dX4_query_81 wPX4_64v wIX1_asks wSX1_asks iX1_asks oX1_asks rfl hok (H.2.2.1 a1 (by omega)).1 (eX1_asks Sc Γ n (fX1_yieldTo (X + 2 + 37 * a1) a2 V) (X + 2 + 37 * a1) (H.2.2.1 a1 (by omega))) (Nat.le_of_ble_eq_true rfl) (Nat.le_of_ble_eq_true rfl) (Nat.le_of_ble_eq_true rfl) rfl (fun h hok => ?_)
      exact q_iret dX4_query_84 rfl (q_bl.nar (bX1_asks (X + 2 + 37 * a1) ((fX1_yieldTo (X + 2 + 37 * a1) a2 V)))) (hQ _ _ (by dsimp only [vX4_query_g]; rw [if_neg c380, if_pos c382]) (by dsimp only [fX4_query_g]; rw [if_neg c380, if_pos c382]; exact hok))
    ·
      refine q_iload dX4_query_58 rfl ?_
      refine q_if_ne (tgt := 75) dX4_query_60 (by decide) (fun c383 => ?_) (fun c383 => ?_)
      ·
        refine q_aload_n dX4_query_75 rfl ?_
        refine v_getr 0 kX4 (by decide) wPX4_20 dX4_query_76 hok H.1 rfl ?_
        refine q_iload_n dX4_query_79 rfl ?_
        refine v_aald (j := a1) (z := X + 2 + 37 * a1) "GroupFilters$Link" dX4_query_80 hok H.2.1 rfl (rg_at (by omega)) (by rw [rg_len]; omega) ?_
        refine v_callV (M' := mX1_asks) [] [] kX1 dX4_query_81 wPX4_64v wIX1_asks wSX1_asks iX1_asks oX1_asks rfl hok (H.2.2.1 a1 (by omega)).1 (eX1_asks Sc Γ n (fX1_yieldTo (X + 2 + 37 * a1) a2 V) (X + 2 + 37 * a1) (H.2.2.1 a1 (by omega))) (Nat.le_of_ble_eq_true rfl) (Nat.le_of_ble_eq_true rfl) (Nat.le_of_ble_eq_true rfl) rfl (fun h hok => ?_)
        exact q_iret dX4_query_84 rfl (q_bl.nar (bX1_asks (X + 2 + 37 * a1) ((fX1_yieldTo (X + 2 + 37 * a1) a2 V)))) (hQ _ _ (by dsimp only [vX4_query_g]; rw [if_neg c380, if_neg c382, if_neg c383]) (by dsimp only [fX4_query_g]; rw [if_neg c380, if_neg c382, if_neg c383]; exact hok))
      ·
        refine q_aload_n dX4_query_63 rfl ?_
        refine v_getr 0 kX4 (by decide) wPX4_20 dX4_query_64 hok H.1 rfl ?_
        refine q_iload_n dX4_query_67 rfl ?_
        refine v_aald (j := a1) (z := X + 2 + 37 * a1) "GroupFilters$Link" dX4_query_68 hok H.2.1 rfl (rg_at (by omega)) (by rw [rg_len]; omega) ?_
        refine q_iload_n dX4_query_69 rfl ?_
        refine q_iload dX4_query_70 rfl ?_
        refine v_callV (M' := mX1_hearQuery) [.int (nI a3), .int (a4)] [] kX1 dX4_query_72 wPX4_61v wIX1_hearQuery wSX1_hearQuery iX1_hearQuery oX1_hearQuery rfl hok (H.2.2.1 a1 (by omega)).1 (eX1_hearQuery Sc Γ n (fX1_yieldTo (X + 2 + 37 * a1) a2 V) (X + 2 + 37 * a1) (H.2.2.1 a1 (by omega)) a3 (by omega) a4) (Nat.le_of_ble_eq_true rfl) (Nat.le_of_ble_eq_true rfl) (Nat.le_of_ble_eq_true rfl) rfl (fun h hok => ?_)
        refine q_aload_n dX4_query_75 rfl ?_
        refine v_getr 0 kX4 (by decide) wPX4_20 dX4_query_76 hok H.1 rfl ?_
        refine q_iload_n dX4_query_79 rfl ?_
        refine v_aald (j := a1) (z := X + 2 + 37 * a1) "GroupFilters$Link" dX4_query_80 hok H.2.1 rfl (rg_at (by omega)) (by rw [rg_len]; omega) ?_
        refine v_callV (M' := mX1_asks) [] [] kX1 dX4_query_81 wPX4_64v wIX1_asks wSX1_asks iX1_asks oX1_asks rfl hok (H.2.2.1 a1 (by omega)).1 (eX1_asks Sc Γ n (fX1_hearQuery (X + 2 + 37 * a1) a3 a4 (fX1_yieldTo (X + 2 + 37 * a1) a2 V)) (X + 2 + 37 * a1) (H.2.2.1 a1 (by omega))) (Nat.le_of_ble_eq_true rfl) (Nat.le_of_ble_eq_true rfl) (Nat.le_of_ble_eq_true rfl) rfl (fun h hok => ?_)
        exact q_iret dX4_query_84 rfl (q_bl.nar (bX1_asks (X + 2 + 37 * a1) ((fX1_hearQuery (X + 2 + 37 * a1) a3 a4 (fX1_yieldTo (X + 2 + 37 * a1) a2 V))))) (hQ _ _ (by dsimp only [vX4_query_g]; rw [if_neg c380, if_neg c382, if_pos c383]) (by dsimp only [fX4_query_g]; rw [if_neg c380, if_neg c382, if_pos c383]; exact hok))
def fX4_tick (X many : Nat) (a1 : Nat) (V : q_V) : q_V := let B385 := fun (k385 : Nat) (s385 : q_V) => let W385 := s385; let V387 := fX1_ageFilters (X + 2 + 37 * k385) (nI a1) W385; V387; let T385 := lp B385 many 0 V; let V389 := rcL X many a1 (nI a1) T385; V389
def vX4_tick (X many : Nat) (a1 : Nat) (V : q_V) : Int32 := let B385 := fun (k385 : Nat) (s385 : q_V) => let W385 := s385; let V387 := fX1_ageFilters (X + 2 + 37 * k385) (nI a1) W385; V387; let T385 := lp B385 many 0 V; let V389 := rcL X many a1 (nI a1) T385; ((V389 (X + 2 + 37 * many) 4) - (V (X + 2 + 37 * many) 4))
set_option maxRecDepth 20000 in
set_option maxHeartbeats 4000000 in
theorem kX4_tick (Sc : q_S) (Γ : Nat → q_K) (n : Nat) (V : q_V) (X many : Nat) (H : sGF Γ X many) (hm1 : 1 ≤ many) (hm4 : many ≤ 4) (a1 : Nat) (b1 : a1 < 2001)  {kc ks : Nat} {Q : q_O → q_H → Nat → Prop} {h : q_H} (hQ : ∀ (O : q_O) (h' : q_H), O = .inl (some (.int (vX4_tick X many a1 V))) → q_ok (gX Γ (fX4_tick X many a1 V)) h' → Q O h' n) (hok : q_ok (gX Γ V) h) : q_A Sc mX4_tick 8 [.ref X, .int (nI a1), .retAddr 0, .retAddr 0] [] h n kc ks Q := by
  refine q_aload_n dX4_tick_8 rfl ?_
  refine v_getr 1 kX4 (by decide) wPX4_30 dX4_tick_9 hok H.1 rfl ?_
  refine v_geti 4 kX3 (by decide) wPX4_50 dX4_tick_12 hok H.2.2.2.1 rfl ?_
  refine t_istore [.ref X, .int (nI a1), .int (V (X + 2 + 37 * many) 4), .retAddr 0] (Or.inl ⟨2, rfl, rfl, dX4_tick_15⟩) (by decide) rfl ?_
  refine q_iconst (v := nI 0) dX4_tick_16 rfl ?_
  refine t_istore [.ref X, .int (nI a1), .int (V (X + 2 + 37 * many) 4), .int (nI 0)] (Or.inl ⟨3, rfl, rfl, dX4_tick_17⟩) (by decide) rfl ?_
  obtain ⟨B385, hB385⟩ : ∃ B_ : Nat → q_V → q_V, B_ = (fun (k385 : Nat) (s385 : q_V) => let W385 := s385; (fX1_ageFilters (X + 2 + 37 * k385) (nI a1) W385)) := ⟨_, rfl⟩
  have hl385 : ∀ (d385 k385 : Nat) (W385 : q_V) (h : q_H), k385 + d385 = many → lp B385 d385 k385 W385 = (lp B385 many 0 V) → q_ok (gX Γ W385) h → q_A Sc mX4_tick 18 [.ref X, .int (nI a1), .int (V (X + 2 + 37 * many) 4), .int (nI k385)] [] h n kc ks Q := by
    intro d385
    induction d385 with
    | zero =>
      intro k385  W385 h e385 hT385 hok
      have hT385 : W385 = (lp B385 many 0 V) := hT385
      subst hT385
      refine q_iload_n dX4_tick_18 rfl ?_
      refine q_aload_n dX4_tick_19 rfl ?_
      refine v_getr 0 kX4 (by decide) wPX4_20 dX4_tick_20 hok H.1 rfl ?_
      refine v_alen dX4_tick_23 hok H.2.1 rfl rg_len ?_
      refine t_icmp_ge_n (tgt := 43) (by omega) (by omega) dX4_tick_24 (by decide) (fun c388 => ?_) (fun c388 => ?_)
      rotate_left
      · exact absurd c388 (by omega)
      refine q_aload_n dX4_tick_43 rfl ?_
      refine q_iload_n dX4_tick_44 rfl ?_
      refine v_callV (M' := mX4_runClocks) [.int (nI a1)] [] kX4 dX4_tick_45 wPX4_71v wIX4_runClocks wSX4_runClocks iX4_runClocks oX4_runClocks rfl hok H.1 (eX4_runClocks Sc Γ n (lp B385 many 0 V) X many H hm1 hm4 a1 (by omega)) (Nat.le_of_ble_eq_true rfl) (Nat.le_of_ble_eq_true rfl) (Nat.le_of_ble_eq_true rfl) rfl (fun h hok => ?_)
      refine q_aload_n dX4_tick_48 rfl ?_
      refine v_getr 1 kX4 (by decide) wPX4_30 dX4_tick_49 hok H.1 rfl ?_
      refine v_geti 4 kX3 (by decide) wPX4_50 dX4_tick_52 hok H.2.2.2.1 rfl ?_
      refine q_iload_n dX4_tick_55 rfl ?_
      refine q_isub dX4_tick_56 ?_
      exact q_iret dX4_tick_57 rfl (rfl) (hQ _ _ (by subst hB385; dsimp only [vX4_tick]) (by subst hB385; dsimp only [fX4_tick]; exact hok))
    | succ d385 ih385 =>
      intro k385  W385 h e385 hT385 hok
      refine q_iload_n dX4_tick_18 rfl ?_
      refine q_aload_n dX4_tick_19 rfl ?_
      refine v_getr 0 kX4 (by decide) wPX4_20 dX4_tick_20 hok H.1 rfl ?_
      refine v_alen dX4_tick_23 hok H.2.1 rfl rg_len ?_
      refine t_icmp_ge_n (tgt := 43) (by omega) (by omega) dX4_tick_24 (by decide) (fun c386 => ?_) (fun c386 => ?_)
      · exact absurd c386 (by omega)
      refine q_aload_n dX4_tick_27 rfl ?_
      refine v_getr 0 kX4 (by decide) wPX4_20 dX4_tick_28 hok H.1 rfl ?_
      refine q_iload_n dX4_tick_31 rfl ?_
      refine v_aald (j := k385) (z := X + 2 + 37 * k385) "GroupFilters$Link" dX4_tick_32 hok H.2.1 rfl (rg_at (by omega)) (by rw [rg_len]; omega) ?_
      refine q_iload_n dX4_tick_33 rfl ?_
      refine v_callV (M' := mX1_ageFilters) [.int (nI a1)] [] kX1 dX4_tick_34 wPX4_68v wIX1_ageFilters wSX1_ageFilters iX1_ageFilters oX1_ageFilters rfl hok (H.2.2.1 k385 (by omega)).1 (eX1_ageFilters Sc Γ n W385 (X + 2 + 37 * k385) (H.2.2.1 k385 (by omega)) (nI a1)) (Nat.le_of_ble_eq_true rfl) (Nat.le_of_ble_eq_true rfl) (Nat.le_of_ble_eq_true rfl) rfl (fun h hok => ?_)
      refine t_iinc_n [.ref X, .int (nI a1), .int (V (X + 2 + 37 * many) 4), .int (nI (k385 + 1))] dX4_tick_37 rfl (by decide) rfl ?_
      refine q_goto (tgt := 18) dX4_tick_40 (by decide) ?_
      exact ih385 (k385 + 1) ((fX1_ageFilters (X + 2 + 37 * k385) (nI a1) W385)) h (by omega) ((congrArg (lp B385 d385 (k385 + 1)) (show (fX1_ageFilters (X + 2 + 37 * k385) (nI a1) W385) = B385 k385 W385 from by rw [hB385] <;> dsimp only)).trans hT385) hok
  exact hl385 many 0  V h (by omega) rfl hok
def fX4_member (X many : Nat) (a1 : Nat) (a2 : Nat) (a3 : Nat) (a4 : Int32) (a5 : Int32) (V : q_V) : q_V := let V390 := fX1_changeWish (X + 2 + 37 * a1) (X + 2 + 37 * many) a2 a3 a4 a5 V; V390
def vX4_member (X many : Nat) (a1 : Nat) (a2 : Nat) (a3 : Nat) (a4 : Int32) (a5 : Int32) (V : q_V) : Int32 := let V390 := fX1_changeWish (X + 2 + 37 * a1) (X + 2 + 37 * many) a2 a3 a4 a5 V; ((V390 (X + 2 + 37 * many) 4) - (V (X + 2 + 37 * many) 4))
set_option maxRecDepth 20000 in
set_option maxHeartbeats 4000000 in
theorem kX4_member (Sc : q_S) (Γ : Nat → q_K) (n : Nat) (V : q_V) (X many : Nat) (H : sGF Γ X many) (hm1 : 1 ≤ many) (hm4 : many ≤ 4) (a1 : Nat) (b1 : a1 < many) (a2 : Nat) (b2 : a2 < 6) (a3 : Nat) (b3 : a3 < 8) (a4 : Int32) (b4 : q_bl a4) (a5 : Int32)  {kc ks : Nat} {Q : q_O → q_H → Nat → Prop} {h : q_H} (hQ : ∀ (O : q_O) (h' : q_H), O = .inl (some (.int (vX4_member X many a1 a2 a3 a4 a5 V))) → q_ok (gX Γ (fX4_member X many a1 a2 a3 a4 a5 V)) h' → Q O h' n) (hok : q_ok (gX Γ V) h) : q_A Sc mX4_member 29 [.ref X, .int (nI a1), .int (nI a2), .int (nI a3), .int (a4), .int (a5), .retAddr 0] [] h n kc ks Q := by
  refine q_aload_n dX4_member_29 rfl ?_
  refine v_getr 1 kX4 (by decide) wPX4_30 dX4_member_30 hok H.1 rfl ?_
  refine v_geti 4 kX3 (by decide) wPX4_50 dX4_member_33 hok H.2.2.2.1 rfl ?_
  refine t_istore [.ref X, .int (nI a1), .int (nI a2), .int (nI a3), .int (a4), .int (a5), .int (V (X + 2 + 37 * many) 4)] (Or.inr ⟨rfl, dX4_member_36⟩) (by decide) rfl ?_
  refine q_aload_n dX4_member_38 rfl ?_
  refine v_getr 0 kX4 (by decide) wPX4_20 dX4_member_39 hok H.1 rfl ?_
  refine q_iload_n dX4_member_42 rfl ?_
  refine v_aald (j := a1) (z := X + 2 + 37 * a1) "GroupFilters$Link" dX4_member_43 hok H.2.1 rfl (rg_at (by omega)) (by rw [rg_len]; omega) ?_
  refine q_aload_n dX4_member_44 rfl ?_
  refine v_getr 1 kX4 (by decide) wPX4_30 dX4_member_45 hok H.1 rfl ?_
  refine q_iload_n dX4_member_48 rfl ?_
  refine q_iload_n dX4_member_49 rfl ?_
  refine q_iload dX4_member_50 rfl ?_
  refine q_iload dX4_member_52 rfl ?_
  refine v_callV (M' := mX1_changeWish) [.ref (X + 2 + 37 * many), .int (nI a2), .int (nI a3), .int (a4), .int (a5)] [] kX1 dX4_member_54 wPX4_74v wIX1_changeWish wSX1_changeWish iX1_changeWish oX1_changeWish rfl hok (H.2.2.1 a1 (by omega)).1 (eX1_changeWish Sc Γ n V (X + 2 + 37 * a1) (H.2.2.1 a1 (by omega)) (X + 2 + 37 * many) H.2.2.2 a2 (by omega) a3 (by omega) a4 (b4) a5) (Nat.le_of_ble_eq_true rfl) (Nat.le_of_ble_eq_true rfl) (Nat.le_of_ble_eq_true rfl) rfl (fun h hok => ?_)
  refine q_aload_n dX4_member_57 rfl ?_
  refine v_getr 1 kX4 (by decide) wPX4_30 dX4_member_58 hok H.1 rfl ?_
  refine v_geti 4 kX3 (by decide) wPX4_50 dX4_member_61 hok H.2.2.2.1 rfl ?_
  refine q_iload dX4_member_64 rfl ?_
  refine q_isub dX4_member_66 ?_
  exact q_iret dX4_member_67 rfl (rfl) (hQ _ _ (by dsimp only [vX4_member]) (by dsimp only [fX4_member]; exact hok))
def fX4_answer (X many : Nat) (a1 : Nat) (a2 : Nat) (V : q_V) : q_V := let V391 := fX1_letAnswer (X + 2 + 37 * a1) (X + 2 + 37 * many) a2 V; V391
def vX4_answer (X many : Nat) (a1 : Nat) (a2 : Nat) (V : q_V) : Int32 := let V391 := fX1_letAnswer (X + 2 + 37 * a1) (X + 2 + 37 * many) a2 V; (vX1_letAnswer (X + 2 + 37 * a1) (X + 2 + 37 * many) a2 V)
set_option maxRecDepth 20000 in
set_option maxHeartbeats 4000000 in
theorem kX4_answer (Sc : q_S) (Γ : Nat → q_K) (n : Nat) (V : q_V) (X many : Nat) (H : sGF Γ X many) (hm1 : 1 ≤ many) (hm4 : many ≤ 4) (a1 : Nat) (b1 : a1 < many) (a2 : Nat) (b2 : a2 < 6)  {kc ks : Nat} {Q : q_O → q_H → Nat → Prop} {h : q_H} (hQ : ∀ (O : q_O) (h' : q_H), O = .inl (some (.int (vX4_answer X many a1 a2 V))) → q_ok (gX Γ (fX4_answer X many a1 a2 V)) h' → Q O h' n) (hok : q_ok (gX Γ V) h) : q_A Sc mX4_answer 15 [.ref X, .int (nI a1), .int (nI a2)] [] h n kc ks Q := by
  refine q_aload_n dX4_answer_15 rfl ?_
  refine v_getr 0 kX4 (by decide) wPX4_20 dX4_answer_16 hok H.1 rfl ?_
  refine q_iload_n dX4_answer_19 rfl ?_
  refine v_aald (j := a1) (z := X + 2 + 37 * a1) "GroupFilters$Link" dX4_answer_20 hok H.2.1 rfl (rg_at (by omega)) (by rw [rg_len]; omega) ?_
  refine q_aload_n dX4_answer_21 rfl ?_
  refine v_getr 1 kX4 (by decide) wPX4_30 dX4_answer_22 hok H.1 rfl ?_
  refine q_iload_n dX4_answer_25 rfl ?_
  refine v_callV (M' := mX1_letAnswer) [.ref (X + 2 + 37 * many), .int (nI a2)] [] kX1 dX4_answer_26 wPX4_78v wIX1_letAnswer wSX1_letAnswer iX1_letAnswer oX1_letAnswer rfl hok (H.2.2.1 a1 (by omega)).1 (eX1_letAnswer Sc Γ n V (X + 2 + 37 * a1) (H.2.2.1 a1 (by omega)) (X + 2 + 37 * many) H.2.2.2 a2 (by omega)) (Nat.le_of_ble_eq_true rfl) (Nat.le_of_ble_eq_true rfl) (Nat.le_of_ble_eq_true rfl) rfl (fun h hok => ?_)
  exact q_iret dX4_answer_29 rfl (rfl) (hQ _ _ (by dsimp only [vX4_answer]) (by dsimp only [fX4_answer]; exact hok))
set_option maxRecDepth 20000 in
set_option maxHeartbeats 4000000 in
theorem kX4_checkPlace (Sc : q_S) (Γ : Nat → q_K) (n : Nat) (V : q_V) (X many : Nat) (H : sGF Γ X many) (hm1 : 1 ≤ many) (hm4 : many ≤ 4) (a1 : Nat) (b1 : a1 < many) (a2 : Nat) (b2 : a2 < 8) (a3 : Nat) (b3 : a3 < 16)  {kc ks : Nat} {Q : q_O → q_H → Nat → Prop} {h : q_H} (hQ : ∀ (O : q_O) (h' : q_H), O = .inl none → q_ok (gX Γ V) h' → Q O h' n) (hok : q_ok (gX Γ V) h) : q_A Sc mX4_checkPlace 21 [.ref X, .int (nI a1), .int (nI a2), .int (nI a3)] [] h n kc ks Q := by
  exact q_vret dX4_checkPlace_21 rfl (hQ _ _ (rfl) (hok))
set_option maxRecDepth 20000 in
set_option maxHeartbeats 4000000 in
theorem kX4_filterAt (Sc : q_S) (Γ : Nat → q_K) (n : Nat) (V : q_V) (X many : Nat) (H : sGF Γ X many) (hm1 : 1 ≤ many) (hm4 : many ≤ 4) (a1 : Nat) (b1 : a1 < many) (a2 : Nat) (b2 : a2 < 8)  {kc ks : Nat} {Q : q_O → q_H → Nat → Prop} {h : q_H} (hQ : ∀ (O : q_O) (h' : q_H), O = .inl (some (.ref (X + 2 + 37 * a1 + 3 + 2 * a2))) → q_ok (gX Γ V) h' → Q O h' n) (hok : q_ok (gX Γ V) h) : q_A Sc mX4_filterAt 15 [.ref X, .int (nI a1), .int (nI a2)] [] h n kc ks Q := by
  refine q_aload_n dX4_filterAt_15 rfl ?_
  refine v_getr 0 kX4 (by decide) wPX4_20 dX4_filterAt_16 hok H.1 rfl ?_
  refine q_iload_n dX4_filterAt_19 rfl ?_
  refine v_aald (j := a1) (z := X + 2 + 37 * a1) "GroupFilters$Link" dX4_filterAt_20 hok H.2.1 rfl (rg_at (by omega)) (by rw [rg_len]; omega) ?_
  refine v_getr 1 kX1 (by decide) wPX4_89 dX4_filterAt_21 hok (H.2.2.1 a1 (by omega)).1 rfl ?_
  refine q_iload_n dX4_filterAt_24 rfl ?_
  refine v_aald (j := a2) (z := X + 2 + 37 * a1 + 3 + 2 * a2) "GroupFilters$Filter" dX4_filterAt_25 hok (H.2.2.1 a1 (by omega)).2.1 rfl (rg_at (by omega)) (by rw [rg_len]; omega) ?_
  exact q_aret dX4_filterAt_26 rfl (Or.inl ⟨_, rfl⟩) (hQ _ _ (rfl) (hok))
def vX4_passed (X many : Nat) (a1 : Nat) (a2 : Nat) (a3 : Nat) (V : q_V) : Int32 := let B392 := fun (k392 : Nat) (s392 : Int32) => let g392a := s392; if (nI k392) = (nI a1) then (g392a) else (if (vX0_lets (X + 2 + 37 * k392 + 3 + 2 * a2) (nI a3) V) = 0 then (g392a) else ((g392a) ||| ((nI 1) <<< ((nI k392) &&& 31)))); let T392 := lp B392 many 0 (nI 0); T392
set_option maxRecDepth 20000 in
set_option maxHeartbeats 4000000 in
theorem kX4_passed (Sc : q_S) (Γ : Nat → q_K) (n : Nat) (V : q_V) (X many : Nat) (H : sGF Γ X many) (hm1 : 1 ≤ many) (hm4 : many ≤ 4) (a1 : Nat) (b1 : a1 < many) (a2 : Nat) (b2 : a2 < 8) (a3 : Nat) (b3 : a3 < 16)  {kc ks : Nat} {Q : q_O → q_H → Nat → Prop} {h : q_H} (hQ : ∀ (O : q_O) (h' : q_H), O = .inl (some (.int (vX4_passed X many a1 a2 a3 V))) → q_ok (gX Γ V) h' → Q O h' n) (hok : q_ok (gX Γ V) h) : q_A Sc mX4_passed 7 [.ref X, .int (nI a1), .int (nI a2), .int (nI a3), .retAddr 0, .retAddr 0] [] h n kc ks Q := by
  refine q_iconst (v := nI 0) dX4_passed_7 rfl ?_
  refine t_istore [.ref X, .int (nI a1), .int (nI a2), .int (nI a3), .int (nI 0), .retAddr 0] (Or.inr ⟨rfl, dX4_passed_8⟩) (by decide) rfl ?_
  refine q_iconst (v := nI 0) dX4_passed_10 rfl ?_
  refine t_istore [.ref X, .int (nI a1), .int (nI a2), .int (nI a3), .int (nI 0), .int (nI 0)] (Or.inr ⟨rfl, dX4_passed_11⟩) (by decide) rfl ?_
  obtain ⟨B392, hB392⟩ : ∃ B_ : Nat → Int32 → Int32, B_ = (fun (k392 : Nat) (s392 : Int32) => let g392a := s392; if (nI k392) = (nI a1) then (g392a) else (if (vX0_lets (X + 2 + 37 * k392 + 3 + 2 * a2) (nI a3) V) = 0 then (g392a) else ((g392a) ||| ((nI 1) <<< ((nI k392) &&& 31))))) := ⟨_, rfl⟩
  have hl392 : ∀ (d392 k392 : Nat) (g392a : Int32) (h : q_H), k392 + d392 = many → lp B392 d392 k392 g392a = (lp B392 many 0 (nI 0)) → q_ok (gX Γ V) h → q_A Sc mX4_passed 13 [.ref X, .int (nI a1), .int (nI a2), .int (nI a3), .int (g392a), .int (nI k392)] [] h n kc ks Q := by
    intro d392
    induction d392 with
    | zero =>
      intro k392 g392a h e392 hT392 hok
      have hT392 : g392a = (lp B392 many 0 (nI 0)) := hT392
      subst hT392
      refine q_iload dX4_passed_13 rfl ?_
      refine q_aload_n dX4_passed_15 rfl ?_
      refine v_getr 0 kX4 (by decide) wPX4_20 dX4_passed_16 hok H.1 rfl ?_
      refine v_alen dX4_passed_19 hok H.2.1 rfl rg_len ?_
      refine t_icmp_ge_n (tgt := 63) (by omega) (by omega) dX4_passed_20 (by decide) (fun c396 => ?_) (fun c396 => ?_)
      rotate_left
      · exact absurd c396 (by omega)
      refine q_iload dX4_passed_63 rfl ?_
      exact q_iret dX4_passed_65 rfl (rfl) (hQ _ _ (by subst hB392; dsimp only [vX4_passed]) (hok))
    | succ d392 ih392 =>
      intro k392 g392a h e392 hT392 hok
      refine q_iload dX4_passed_13 rfl ?_
      refine q_aload_n dX4_passed_15 rfl ?_
      refine v_getr 0 kX4 (by decide) wPX4_20 dX4_passed_16 hok H.1 rfl ?_
      refine v_alen dX4_passed_19 hok H.2.1 rfl rg_len ?_
      refine t_icmp_ge_n (tgt := 63) (by omega) (by omega) dX4_passed_20 (by decide) (fun c393 => ?_) (fun c393 => ?_)
      · exact absurd c393 (by omega)
      refine q_iload dX4_passed_23 rfl ?_
      refine q_iload_n dX4_passed_25 rfl ?_
      refine q_icmp_eq (tgt := 57) dX4_passed_26 (by decide) (fun c394 => ?_) (fun c394 => ?_)
      ·
        refine t_iinc_n [.ref X, .int (nI a1), .int (nI a2), .int (nI a3), .int (g392a), .int (nI (k392 + 1))] dX4_passed_57 rfl (by decide) rfl ?_
        refine q_goto (tgt := 13) dX4_passed_60 (by decide) ?_
        exact ih392 (k392 + 1) g392a h (by omega) ((congrArg (lp B392 d392 (k392 + 1)) (show g392a = B392 k392 g392a from by rw [hB392]; dsimp only; rw [if_pos c394])).trans hT392) hok
      ·
        refine q_aload_n dX4_passed_29 rfl ?_
        refine v_getr 0 kX4 (by decide) wPX4_20 dX4_passed_30 hok H.1 rfl ?_
        refine q_iload dX4_passed_33 rfl ?_
        refine v_aald (j := k392) (z := X + 2 + 37 * k392) "GroupFilters$Link" dX4_passed_35 hok H.2.1 rfl (rg_at (by omega)) (by rw [rg_len]; omega) ?_
        refine v_getr 1 kX1 (by decide) wPX4_89 dX4_passed_36 hok (H.2.2.1 k392 (by omega)).1 rfl ?_
        refine q_iload_n dX4_passed_39 rfl ?_
        refine v_aald (j := a2) (z := X + 2 + 37 * k392 + 3 + 2 * a2) "GroupFilters$Filter" dX4_passed_40 hok (H.2.2.1 k392 (by omega)).2.1 rfl (rg_at (by omega)) (by rw [rg_len]; omega) ?_
        refine q_iload_n dX4_passed_41 rfl ?_
        refine v_callV (M' := mX0_lets) [.int (nI a3)] [] kX0 dX4_passed_42 wPX4_93v wIX0_lets wSX0_lets iX0_lets oX0_lets rfl hok ((H.2.2.1 k392 (by omega)).2.2.2.1 a2 (by omega)).1 (eX0_lets Sc Γ n V (X + 2 + 37 * k392 + 3 + 2 * a2) ((H.2.2.1 k392 (by omega)).2.2.2.1 a2 (by omega)) (nI a3)) (Nat.le_of_ble_eq_true rfl) (Nat.le_of_ble_eq_true rfl) (Nat.le_of_ble_eq_true rfl) rfl (fun h hok => ?_)
        refine q_if_eq (tgt := 57) dX4_passed_45 (by decide) (fun c395 => ?_) (fun c395 => ?_)
        ·
          refine t_iinc_n [.ref X, .int (nI a1), .int (nI a2), .int (nI a3), .int (g392a), .int (nI (k392 + 1))] dX4_passed_57 rfl (by decide) rfl ?_
          refine q_goto (tgt := 13) dX4_passed_60 (by decide) ?_
          exact ih392 (k392 + 1) g392a h (by omega) ((congrArg (lp B392 d392 (k392 + 1)) (show g392a = B392 k392 g392a from by rw [hB392]; dsimp only; rw [if_neg c394, if_pos c395])).trans hT392) hok
        ·
          refine q_iload dX4_passed_48 rfl ?_
          refine q_iconst (v := nI 1) dX4_passed_50 rfl ?_
          refine q_iload dX4_passed_51 rfl ?_
          refine q_ishl dX4_passed_53 ?_
          refine q_ior dX4_passed_54 ?_
          refine t_istore [.ref X, .int (nI a1), .int (nI a2), .int (nI a3), .int ((g392a) ||| ((nI 1) <<< ((nI k392) &&& 31))), .int (nI k392)] (Or.inr ⟨rfl, dX4_passed_55⟩) (by decide) rfl ?_
          refine t_iinc_n [.ref X, .int (nI a1), .int (nI a2), .int (nI a3), .int ((g392a) ||| ((nI 1) <<< ((nI k392) &&& 31))), .int (nI (k392 + 1))] dX4_passed_57 rfl (by decide) rfl ?_
          refine q_goto (tgt := 13) dX4_passed_60 (by decide) ?_
          exact ih392 (k392 + 1) ((g392a) ||| ((nI 1) <<< ((nI k392) &&& 31))) h (by omega) ((congrArg (lp B392 d392 (k392 + 1)) (show (g392a) ||| ((nI 1) <<< ((nI k392) &&& 31)) = B392 k392 g392a from by rw [hB392]; dsimp only; rw [if_neg c394, if_neg c395])).trans hT392) hok
  exact hl392 many 0 (nI 0) h (by omega) rfl hok
def vX4_asked_0 (X many : Nat) (a1 : Int32) (V : q_V) : Int32 := (vX3_look_0 (X + 2 + 37 * many) a1 V)
set_option maxRecDepth 20000 in
set_option maxHeartbeats 4000000 in
theorem kX4_asked_0 (Sc : q_S) (Γ : Nat → q_K) (n : Nat) (V : q_V) (X many : Nat) (H : sGF Γ X many) (hm1 : 1 ≤ many) (hm4 : many ≤ 4) (a1 : Int32)  {kc ks : Nat} {Q : q_O → q_H → Nat → Prop} {h : q_H} (hQ : ∀ (O : q_O) (h' : q_H), O = .inl (some (.int (vX4_asked_0 X many a1 V))) → q_ok (gX Γ V) h' → Q O h' n) (hok : q_ok (gX Γ V) h) : q_A Sc mX4_asked 22 [.ref X, .int (a1), .int (nI 0)] [] h n kc ks Q := by
  refine q_aload_n dX4_asked_22 rfl ?_
  refine v_getr 1 kX4 (by decide) wPX4_30 dX4_asked_23 hok H.1 rfl ?_
  refine q_iload_n dX4_asked_26 rfl ?_
  refine q_iload_n dX4_asked_27 rfl ?_
  refine v_callV (M' := mX3_look) [.int (a1), .int (nI 0)] [] kX3 dX4_asked_28 wPX4_119v wIX3_look wSX3_look iX3_look oX3_look rfl hok H.2.2.2.1 (eX3_look_0 Sc Γ n V (X + 2 + 37 * many) H.2.2.2 a1) (Nat.le_of_ble_eq_true rfl) (Nat.le_of_ble_eq_true rfl) (Nat.le_of_ble_eq_true rfl) rfl (fun h hok => ?_)
  exact q_iret dX4_asked_31 rfl (rfl) (hQ _ _ (by dsimp only [vX4_asked_0]) (hok))
def vX4_asked_1 (X many : Nat) (a1 : Int32) (V : q_V) : Int32 := (vX3_look_1 (X + 2 + 37 * many) a1 V)
set_option maxRecDepth 20000 in
set_option maxHeartbeats 4000000 in
theorem kX4_asked_1 (Sc : q_S) (Γ : Nat → q_K) (n : Nat) (V : q_V) (X many : Nat) (H : sGF Γ X many) (hm1 : 1 ≤ many) (hm4 : many ≤ 4) (a1 : Int32)  {kc ks : Nat} {Q : q_O → q_H → Nat → Prop} {h : q_H} (hQ : ∀ (O : q_O) (h' : q_H), O = .inl (some (.int (vX4_asked_1 X many a1 V))) → q_ok (gX Γ V) h' → Q O h' n) (hok : q_ok (gX Γ V) h) : q_A Sc mX4_asked 22 [.ref X, .int (a1), .int (nI 1)] [] h n kc ks Q := by
  refine q_aload_n dX4_asked_22 rfl ?_
  refine v_getr 1 kX4 (by decide) wPX4_30 dX4_asked_23 hok H.1 rfl ?_
  refine q_iload_n dX4_asked_26 rfl ?_
  refine q_iload_n dX4_asked_27 rfl ?_
  refine v_callV (M' := mX3_look) [.int (a1), .int (nI 1)] [] kX3 dX4_asked_28 wPX4_119v wIX3_look wSX3_look iX3_look oX3_look rfl hok H.2.2.2.1 (eX3_look_1 Sc Γ n V (X + 2 + 37 * many) H.2.2.2 a1) (Nat.le_of_ble_eq_true rfl) (Nat.le_of_ble_eq_true rfl) (Nat.le_of_ble_eq_true rfl) rfl (fun h hok => ?_)
  exact q_iret dX4_asked_31 rfl (rfl) (hQ _ _ (by dsimp only [vX4_asked_1]) (hok))
def vX4_asked_2 (X many : Nat) (a1 : Int32) (V : q_V) : Int32 := (vX3_look_2 (X + 2 + 37 * many) a1 V)
set_option maxRecDepth 20000 in
set_option maxHeartbeats 4000000 in
theorem kX4_asked_2 (Sc : q_S) (Γ : Nat → q_K) (n : Nat) (V : q_V) (X many : Nat) (H : sGF Γ X many) (hm1 : 1 ≤ many) (hm4 : many ≤ 4) (a1 : Int32)  {kc ks : Nat} {Q : q_O → q_H → Nat → Prop} {h : q_H} (hQ : ∀ (O : q_O) (h' : q_H), O = .inl (some (.int (vX4_asked_2 X many a1 V))) → q_ok (gX Γ V) h' → Q O h' n) (hok : q_ok (gX Γ V) h) : q_A Sc mX4_asked 22 [.ref X, .int (a1), .int (nI 2)] [] h n kc ks Q := by
  refine q_aload_n dX4_asked_22 rfl ?_
  refine v_getr 1 kX4 (by decide) wPX4_30 dX4_asked_23 hok H.1 rfl ?_
  refine q_iload_n dX4_asked_26 rfl ?_
  refine q_iload_n dX4_asked_27 rfl ?_
  refine v_callV (M' := mX3_look) [.int (a1), .int (nI 2)] [] kX3 dX4_asked_28 wPX4_119v wIX3_look wSX3_look iX3_look oX3_look rfl hok H.2.2.2.1 (eX3_look_2 Sc Γ n V (X + 2 + 37 * many) H.2.2.2 a1) (Nat.le_of_ble_eq_true rfl) (Nat.le_of_ble_eq_true rfl) (Nat.le_of_ble_eq_true rfl) rfl (fun h hok => ?_)
  exact q_iret dX4_asked_31 rfl (rfl) (hQ _ _ (by dsimp only [vX4_asked_2]) (hok))
def vX4_asked_3 (X many : Nat) (a1 : Int32) (V : q_V) : Int32 := (vX3_look_3 (X + 2 + 37 * many) a1 V)
set_option maxRecDepth 20000 in
set_option maxHeartbeats 4000000 in
theorem kX4_asked_3 (Sc : q_S) (Γ : Nat → q_K) (n : Nat) (V : q_V) (X many : Nat) (H : sGF Γ X many) (hm1 : 1 ≤ many) (hm4 : many ≤ 4) (a1 : Int32)  {kc ks : Nat} {Q : q_O → q_H → Nat → Prop} {h : q_H} (hQ : ∀ (O : q_O) (h' : q_H), O = .inl (some (.int (vX4_asked_3 X many a1 V))) → q_ok (gX Γ V) h' → Q O h' n) (hok : q_ok (gX Γ V) h) : q_A Sc mX4_asked 22 [.ref X, .int (a1), .int (nI 3)] [] h n kc ks Q := by
  refine q_aload_n dX4_asked_22 rfl ?_
  refine v_getr 1 kX4 (by decide) wPX4_30 dX4_asked_23 hok H.1 rfl ?_
  refine q_iload_n dX4_asked_26 rfl ?_
  refine q_iload_n dX4_asked_27 rfl ?_
  refine v_callV (M' := mX3_look) [.int (a1), .int (nI 3)] [] kX3 dX4_asked_28 wPX4_119v wIX3_look wSX3_look iX3_look oX3_look rfl hok H.2.2.2.1 (eX3_look_3 Sc Γ n V (X + 2 + 37 * many) H.2.2.2 a1) (Nat.le_of_ble_eq_true rfl) (Nat.le_of_ble_eq_true rfl) (Nat.le_of_ble_eq_true rfl) rfl (fun h hok => ?_)
  exact q_iret dX4_asked_31 rfl (rfl) (hQ _ _ (by dsimp only [vX4_asked_3]) (hok))
def vX4_told_0 (X many : Nat) (a1 : Nat) (V : q_V) : Int32 := (vX1_grace (X + 2 + 37 * a1) V)
set_option maxRecDepth 20000 in
set_option maxHeartbeats 4000000 in
theorem kX4_told_0 (Sc : q_S) (Γ : Nat → q_K) (n : Nat) (V : q_V) (X many : Nat) (H : sGF Γ X many) (hm1 : 1 ≤ many) (hm4 : many ≤ 4) (a1 : Nat) (b1 : a1 < many)  {kc ks : Nat} {Q : q_O → q_H → Nat → Prop} {h : q_H} (hQ : ∀ (O : q_O) (h' : q_H), O = .inl (some (.int (vX4_told_0 X many a1 V))) → q_ok (gX Γ V) h' → Q O h' n) (hok : q_ok (gX Γ V) h) : q_A Sc mX4_told 15 [.ref X, .int (nI a1), .int (nI 0), .retAddr 0] [] h n kc ks Q := by
  refine q_aload_n dX4_told_15 rfl ?_
  refine v_getr 0 kX4 (by decide) wPX4_20 dX4_told_16 hok H.1 rfl ?_
  refine q_iload_n dX4_told_19 rfl ?_
  refine v_aald (j := a1) (z := X + 2 + 37 * a1) "GroupFilters$Link" dX4_told_20 hok H.2.1 rfl (rg_at (by omega)) (by rw [rg_len]; omega) ?_
  refine q_astore_n dX4_told_21 (by decide) ?_
  refine q_iload_n dX4_told_22 rfl ?_
  refine q_tableIn (off := 33) (tgt := 56) dX4_told_23 (by decide) (by decide) (by decide) (by decide) ?_
  refine q_aload_n dX4_told_56 rfl ?_
  refine v_callV (M' := mX1_grace) [] [] kX1 dX4_told_57 wPX4_45v wIX1_grace wSX1_grace iX1_grace oX1_grace rfl hok (H.2.2.1 a1 (by omega)).1 (eX1_grace Sc Γ n V (X + 2 + 37 * a1) (H.2.2.1 a1 (by omega))) (Nat.le_of_ble_eq_true rfl) (Nat.le_of_ble_eq_true rfl) (Nat.le_of_ble_eq_true rfl) rfl (fun h hok => ?_)
  exact q_iret dX4_told_60 rfl (rfl) (hQ _ _ (by dsimp only [vX4_told_0]) (hok))
def vX4_told_1 (X many : Nat) (a1 : Nat) (V : q_V) : Int32 := (vX1_last (X + 2 + 37 * a1) V)
set_option maxRecDepth 20000 in
set_option maxHeartbeats 4000000 in
theorem kX4_told_1 (Sc : q_S) (Γ : Nat → q_K) (n : Nat) (V : q_V) (X many : Nat) (H : sGF Γ X many) (hm1 : 1 ≤ many) (hm4 : many ≤ 4) (a1 : Nat) (b1 : a1 < many)  {kc ks : Nat} {Q : q_O → q_H → Nat → Prop} {h : q_H} (hQ : ∀ (O : q_O) (h' : q_H), O = .inl (some (.int (vX4_told_1 X many a1 V))) → q_ok (gX Γ V) h' → Q O h' n) (hok : q_ok (gX Γ V) h) : q_A Sc mX4_told 15 [.ref X, .int (nI a1), .int (nI 1), .retAddr 0] [] h n kc ks Q := by
  refine q_aload_n dX4_told_15 rfl ?_
  refine v_getr 0 kX4 (by decide) wPX4_20 dX4_told_16 hok H.1 rfl ?_
  refine q_iload_n dX4_told_19 rfl ?_
  refine v_aald (j := a1) (z := X + 2 + 37 * a1) "GroupFilters$Link" dX4_told_20 hok H.2.1 rfl (rg_at (by omega)) (by rw [rg_len]; omega) ?_
  refine q_astore_n dX4_told_21 (by decide) ?_
  refine q_iload_n dX4_told_22 rfl ?_
  refine q_tableIn (off := 38) (tgt := 61) dX4_told_23 (by decide) (by decide) (by decide) (by decide) ?_
  refine q_aload_n dX4_told_61 rfl ?_
  refine v_callV (M' := mX1_last) [] [] kX1 dX4_told_62 wPX4_122v wIX1_last wSX1_last iX1_last oX1_last rfl hok (H.2.2.1 a1 (by omega)).1 (eX1_last Sc Γ n V (X + 2 + 37 * a1) (H.2.2.1 a1 (by omega))) (Nat.le_of_ble_eq_true rfl) (Nat.le_of_ble_eq_true rfl) (Nat.le_of_ble_eq_true rfl) rfl (fun h hok => ?_)
  exact q_iret dX4_told_65 rfl (rfl) (hQ _ _ (by dsimp only [vX4_told_1]) (hok))
def vX4_told_2 (X many : Nat) (a1 : Nat) (V : q_V) : Int32 := (V (X + 2 + 37 * a1) 6)
set_option maxRecDepth 20000 in
set_option maxHeartbeats 4000000 in
theorem kX4_told_2 (Sc : q_S) (Γ : Nat → q_K) (n : Nat) (V : q_V) (X many : Nat) (H : sGF Γ X many) (hm1 : 1 ≤ many) (hm4 : many ≤ 4) (a1 : Nat) (b1 : a1 < many)  {kc ks : Nat} {Q : q_O → q_H → Nat → Prop} {h : q_H} (hQ : ∀ (O : q_O) (h' : q_H), O = .inl (some (.int (vX4_told_2 X many a1 V))) → q_ok (gX Γ V) h' → Q O h' n) (hok : q_ok (gX Γ V) h) : q_A Sc mX4_told 15 [.ref X, .int (nI a1), .int (nI 2), .retAddr 0] [] h n kc ks Q := by
  refine q_aload_n dX4_told_15 rfl ?_
  refine v_getr 0 kX4 (by decide) wPX4_20 dX4_told_16 hok H.1 rfl ?_
  refine q_iload_n dX4_told_19 rfl ?_
  refine v_aald (j := a1) (z := X + 2 + 37 * a1) "GroupFilters$Link" dX4_told_20 hok H.2.1 rfl (rg_at (by omega)) (by rw [rg_len]; omega) ?_
  refine q_astore_n dX4_told_21 (by decide) ?_
  refine q_iload_n dX4_told_22 rfl ?_
  refine q_tableIn (off := 43) (tgt := 66) dX4_told_23 (by decide) (by decide) (by decide) (by decide) ?_
  refine q_aload_n dX4_told_66 rfl ?_
  refine v_geti 6 kX1 (by decide) wPX4_125 dX4_told_67 hok (H.2.2.1 a1 (by omega)).1 rfl ?_
  exact q_iret dX4_told_70 rfl (rfl) (hQ _ _ (by dsimp only [vX4_told_2]) (hok))
def vX4_told_3 (X many : Nat) (a1 : Nat) (V : q_V) : Int32 := if (vX1_asks (X + 2 + 37 * a1) V) = 0 then ((V (X + 2 + 37 * a1) 7)) else ((nI 0))
set_option maxRecDepth 20000 in
set_option maxHeartbeats 4000000 in
theorem kX4_told_3 (Sc : q_S) (Γ : Nat → q_K) (n : Nat) (V : q_V) (X many : Nat) (H : sGF Γ X many) (hm1 : 1 ≤ many) (hm4 : many ≤ 4) (a1 : Nat) (b1 : a1 < many)  {kc ks : Nat} {Q : q_O → q_H → Nat → Prop} {h : q_H} (hQ : ∀ (O : q_O) (h' : q_H), O = .inl (some (.int (vX4_told_3 X many a1 V))) → q_ok (gX Γ V) h' → Q O h' n) (hok : q_ok (gX Γ V) h) : q_A Sc mX4_told 15 [.ref X, .int (nI a1), .int (nI 3), .retAddr 0] [] h n kc ks Q := by
  refine q_aload_n dX4_told_15 rfl ?_
  refine v_getr 0 kX4 (by decide) wPX4_20 dX4_told_16 hok H.1 rfl ?_
  refine q_iload_n dX4_told_19 rfl ?_
  refine v_aald (j := a1) (z := X + 2 + 37 * a1) "GroupFilters$Link" dX4_told_20 hok H.2.1 rfl (rg_at (by omega)) (by rw [rg_len]; omega) ?_
  refine q_astore_n dX4_told_21 (by decide) ?_
  refine q_iload_n dX4_told_22 rfl ?_
  refine q_tableIn (off := 48) (tgt := 71) dX4_told_23 (by decide) (by decide) (by decide) (by decide) ?_
  refine q_aload_n dX4_told_71 rfl ?_
  refine v_callV (M' := mX1_asks) [] [] kX1 dX4_told_72 wPX4_64v wIX1_asks wSX1_asks iX1_asks oX1_asks rfl hok (H.2.2.1 a1 (by omega)).1 (eX1_asks Sc Γ n V (X + 2 + 37 * a1) (H.2.2.1 a1 (by omega))) (Nat.le_of_ble_eq_true rfl) (Nat.le_of_ble_eq_true rfl) (Nat.le_of_ble_eq_true rfl) rfl (fun h hok => ?_)
  refine q_if_eq (tgt := 82) dX4_told_75 (by decide) (fun c397 => ?_) (fun c397 => ?_)
  ·
    refine q_aload_n dX4_told_82 rfl ?_
    refine v_geti 7 kX1 (by decide) wPX4_128 dX4_told_83 hok (H.2.2.1 a1 (by omega)).1 rfl ?_
    exact q_iret dX4_told_86 rfl (rfl) (hQ _ _ (by dsimp only [vX4_told_3]; rw [if_pos c397]) (hok))
  ·
    refine q_iconst (v := nI 0) dX4_told_78 rfl ?_
    refine q_goto (tgt := 86) dX4_told_79 (by decide) ?_
    exact q_iret dX4_told_86 rfl (rfl) (hQ _ _ (by dsimp only [vX4_told_3]; rw [if_neg c397]) (hok))
def vX4_told_4 (X many : Nat) (a1 : Nat) (V : q_V) : Int32 := (vX1_records (X + 2 + 37 * a1) V)
set_option maxRecDepth 20000 in
set_option maxHeartbeats 4000000 in
theorem kX4_told_4 (Sc : q_S) (Γ : Nat → q_K) (n : Nat) (V : q_V) (X many : Nat) (H : sGF Γ X many) (hm1 : 1 ≤ many) (hm4 : many ≤ 4) (a1 : Nat) (b1 : a1 < many)  {kc ks : Nat} {Q : q_O → q_H → Nat → Prop} {h : q_H} (hQ : ∀ (O : q_O) (h' : q_H), O = .inl (some (.int (vX4_told_4 X many a1 V))) → q_ok (gX Γ V) h' → Q O h' n) (hok : q_ok (gX Γ V) h) : q_A Sc mX4_told 15 [.ref X, .int (nI a1), .int (nI 4), .retAddr 0] [] h n kc ks Q := by
  refine q_aload_n dX4_told_15 rfl ?_
  refine v_getr 0 kX4 (by decide) wPX4_20 dX4_told_16 hok H.1 rfl ?_
  refine q_iload_n dX4_told_19 rfl ?_
  refine v_aald (j := a1) (z := X + 2 + 37 * a1) "GroupFilters$Link" dX4_told_20 hok H.2.1 rfl (rg_at (by omega)) (by rw [rg_len]; omega) ?_
  refine q_astore_n dX4_told_21 (by decide) ?_
  refine q_iload_n dX4_told_22 rfl ?_
  refine q_tableIn (off := 64) (tgt := 87) dX4_told_23 (by decide) (by decide) (by decide) (by decide) ?_
  refine q_aload_n dX4_told_87 rfl ?_
  refine v_callV (M' := mX1_records) [] [] kX1 dX4_told_88 wPX4_131v wIX1_records wSX1_records iX1_records oX1_records rfl hok (H.2.2.1 a1 (by omega)).1 (eX1_records Sc Γ n V (X + 2 + 37 * a1) (H.2.2.1 a1 (by omega))) (Nat.le_of_ble_eq_true rfl) (Nat.le_of_ble_eq_true rfl) (Nat.le_of_ble_eq_true rfl) rfl (fun h hok => ?_)
  exact q_iret dX4_told_91 rfl (rfl) (hQ _ _ (by dsimp only [vX4_told_4]) (hok))
def vX4_told_5 (X many : Nat) (a1 : Nat) (V : q_V) : Int32 := if (vX1_asks (X + 2 + 37 * a1) V) = 0 then ((nI 0)) else ((V (X + 2 + 37 * a1) 7))
set_option maxRecDepth 20000 in
set_option maxHeartbeats 4000000 in
theorem kX4_told_5 (Sc : q_S) (Γ : Nat → q_K) (n : Nat) (V : q_V) (X many : Nat) (H : sGF Γ X many) (hm1 : 1 ≤ many) (hm4 : many ≤ 4) (a1 : Nat) (b1 : a1 < many)  {kc ks : Nat} {Q : q_O → q_H → Nat → Prop} {h : q_H} (hQ : ∀ (O : q_O) (h' : q_H), O = .inl (some (.int (vX4_told_5 X many a1 V))) → q_ok (gX Γ V) h' → Q O h' n) (hok : q_ok (gX Γ V) h) : q_A Sc mX4_told 15 [.ref X, .int (nI a1), .int (nI 5), .retAddr 0] [] h n kc ks Q := by
  refine q_aload_n dX4_told_15 rfl ?_
  refine v_getr 0 kX4 (by decide) wPX4_20 dX4_told_16 hok H.1 rfl ?_
  refine q_iload_n dX4_told_19 rfl ?_
  refine v_aald (j := a1) (z := X + 2 + 37 * a1) "GroupFilters$Link" dX4_told_20 hok H.2.1 rfl (rg_at (by omega)) (by rw [rg_len]; omega) ?_
  refine q_astore_n dX4_told_21 (by decide) ?_
  refine q_iload_n dX4_told_22 rfl ?_
  refine q_tableOut (tgt := 92) dX4_told_23 (by decide) (by decide) ?_
  refine q_aload_n dX4_told_92 rfl ?_
  refine v_callV (M' := mX1_asks) [] [] kX1 dX4_told_93 wPX4_64v wIX1_asks wSX1_asks iX1_asks oX1_asks rfl hok (H.2.2.1 a1 (by omega)).1 (eX1_asks Sc Γ n V (X + 2 + 37 * a1) (H.2.2.1 a1 (by omega))) (Nat.le_of_ble_eq_true rfl) (Nat.le_of_ble_eq_true rfl) (Nat.le_of_ble_eq_true rfl) rfl (fun h hok => ?_)
  refine q_if_eq (tgt := 106) dX4_told_96 (by decide) (fun c398 => ?_) (fun c398 => ?_)
  ·
    refine q_iconst (v := nI 0) dX4_told_106 rfl ?_
    exact q_iret dX4_told_107 rfl (rfl) (hQ _ _ (by dsimp only [vX4_told_5]; rw [if_pos c398]) (hok))
  ·
    refine q_aload_n dX4_told_99 rfl ?_
    refine v_geti 7 kX1 (by decide) wPX4_128 dX4_told_100 hok (H.2.2.1 a1 (by omega)).1 rfl ?_
    refine q_goto (tgt := 107) dX4_told_103 (by decide) ?_
    exact q_iret dX4_told_107 rfl (rfl) (hQ _ _ (by dsimp only [vX4_told_5]; rw [if_neg c398]) (hok))
def vX4_asked (X many : Nat) (a : Int32) (k : Nat) (V : q_V) : Int32 := match k with
  | 0 => vX4_asked_0 X many a V
  | 1 => vX4_asked_1 X many a V
  | 2 => vX4_asked_2 X many a V
  | _ => vX4_asked_3 X many a V
def vX4_told (X many l : Nat) (k : Nat) (V : q_V) : Int32 := match k with
  | 0 => vX4_told_0 X many l V
  | 1 => vX4_told_1 X many l V
  | 2 => vX4_told_2 X many l V
  | 3 => vX4_told_3 X many l V
  | 4 => vX4_told_4 X many l V
  | _ => vX4_told_5 X many l V
def vX4_sent (X many : Nat) (V : q_V) : Int32 := (V (X + 2 + 37 * many) 4)
set_option maxRecDepth 20000 in
set_option maxHeartbeats 4000000 in
theorem eX4_sent (Sc : q_S) (Γ : Nat → q_K) (n : Nat) (V : q_V) (X many : Nat) (H : sGF Γ X many) (hm1 : 1 ≤ many) (hm4 : many ≤ 4) : q_fn Sc Γ mX4_sent [.ref X] n V (some (.int (vX4_sent X many V))) V := by
  refine q_fn.of fun Q h hQ hok => ?_
  show q_A Sc mX4_sent 0 [.ref X] [] h n 0 0 Q
  refine q_aload_n dX4_sent_0 rfl ?_
  refine v_getr 1 kX4 (by decide) wPX4_30 dX4_sent_1 hok H.1 rfl ?_
  refine v_geti 4 kX3 (by decide) wPX4_50 dX4_sent_4 hok H.2.2.2.1 rfl ?_
  exact q_iret dX4_sent_7 rfl (rfl) (hQ _ _ (by dsimp only [vX4_sent]) (hok))
def fX4_clear (X many : Nat) (V : q_V) : q_V := let B399 := fun (k399 : Nat) (s399 : q_V) => let W399 := s399; let V401 := fX1_reset (X + 2 + 37 * k399) W399; V401; let T399 := lp B399 many 0 V; let V403 := fX3_reset (X + 2 + 37 * many) T399; V403
set_option maxRecDepth 20000 in
set_option maxHeartbeats 4000000 in
theorem eX4_clear (Sc : q_S) (Γ : Nat → q_K) (n : Nat) (V : q_V) (X many : Nat) (H : sGF Γ X many) (hm1 : 1 ≤ many) (hm4 : many ≤ 4) : q_fn Sc Γ mX4_clear [.ref X] n V none (fX4_clear X many V) := by
  refine q_fn.of fun Q h hQ hok => ?_
  show q_A Sc mX4_clear 0 [.ref X, .retAddr 0] [] h n 0 0 Q
  refine q_iconst (v := nI 0) dX4_clear_0 rfl ?_
  refine t_istore [.ref X, .int (nI 0)] (Or.inl ⟨1, rfl, rfl, dX4_clear_1⟩) (by decide) rfl ?_
  obtain ⟨B399, hB399⟩ : ∃ B_ : Nat → q_V → q_V, B_ = (fun (k399 : Nat) (s399 : q_V) => let W399 := s399; (fX1_reset (X + 2 + 37 * k399) W399)) := ⟨_, rfl⟩
  have hl399 : ∀ (d399 k399 : Nat) (W399 : q_V) (h : q_H), k399 + d399 = many → lp B399 d399 k399 W399 = (lp B399 many 0 V) → q_ok (gX Γ W399) h → q_A Sc mX4_clear 2 [.ref X, .int (nI k399)] [] h n 0 0 Q := by
    intro d399
    induction d399 with
    | zero =>
      intro k399  W399 h e399 hT399 hok
      have hT399 : W399 = (lp B399 many 0 V) := hT399
      subst hT399
      refine q_iload_n dX4_clear_2 rfl ?_
      refine q_aload_n dX4_clear_3 rfl ?_
      refine v_getr 0 kX4 (by decide) wPX4_20 dX4_clear_4 hok H.1 rfl ?_
      refine v_alen dX4_clear_7 hok H.2.1 rfl rg_len ?_
      refine t_icmp_ge_n (tgt := 26) (by omega) (by omega) dX4_clear_8 (by decide) (fun c402 => ?_) (fun c402 => ?_)
      rotate_left
      · exact absurd c402 (by omega)
      refine q_aload_n dX4_clear_26 rfl ?_
      refine v_getr 1 kX4 (by decide) wPX4_30 dX4_clear_27 hok H.1 rfl ?_
      refine v_callV (M' := mX3_reset) [] [] kX3 dX4_clear_30 wPX4_137v wIX3_reset wSX3_reset iX3_reset oX3_reset rfl hok H.2.2.2.1 (eX3_reset Sc Γ n (lp B399 many 0 V) (X + 2 + 37 * many) H.2.2.2) (Nat.le_of_ble_eq_true rfl) (Nat.le_of_ble_eq_true rfl) (Nat.le_of_ble_eq_true rfl) rfl (fun h hok => ?_)
      exact q_vret dX4_clear_33 rfl (hQ _ _ (rfl) (by subst hB399; dsimp only [fX4_clear]; exact hok))
    | succ d399 ih399 =>
      intro k399  W399 h e399 hT399 hok
      refine q_iload_n dX4_clear_2 rfl ?_
      refine q_aload_n dX4_clear_3 rfl ?_
      refine v_getr 0 kX4 (by decide) wPX4_20 dX4_clear_4 hok H.1 rfl ?_
      refine v_alen dX4_clear_7 hok H.2.1 rfl rg_len ?_
      refine t_icmp_ge_n (tgt := 26) (by omega) (by omega) dX4_clear_8 (by decide) (fun c400 => ?_) (fun c400 => ?_)
      · exact absurd c400 (by omega)
      refine q_aload_n dX4_clear_11 rfl ?_
      refine v_getr 0 kX4 (by decide) wPX4_20 dX4_clear_12 hok H.1 rfl ?_
      refine q_iload_n dX4_clear_15 rfl ?_
      refine v_aald (j := k399) (z := X + 2 + 37 * k399) "GroupFilters$Link" dX4_clear_16 hok H.2.1 rfl (rg_at (by omega)) (by rw [rg_len]; omega) ?_
      refine v_callV (M' := mX1_reset) [] [] kX1 dX4_clear_17 wPX4_134v wIX1_reset wSX1_reset iX1_reset oX1_reset rfl hok (H.2.2.1 k399 (by omega)).1 (eX1_reset Sc Γ n W399 (X + 2 + 37 * k399) (H.2.2.1 k399 (by omega))) (Nat.le_of_ble_eq_true rfl) (Nat.le_of_ble_eq_true rfl) (Nat.le_of_ble_eq_true rfl) rfl (fun h hok => ?_)
      refine t_iinc_n [.ref X, .int (nI (k399 + 1))] dX4_clear_20 rfl (by decide) rfl ?_
      refine q_goto (tgt := 2) dX4_clear_23 (by decide) ?_
      exact ih399 (k399 + 1) ((fX1_reset (X + 2 + 37 * k399) W399)) h (by omega) ((congrArg (lp B399 d399 (k399 + 1)) (show (fX1_reset (X + 2 + 37 * k399) W399) = B399 k399 W399 from by rw [hB399] <;> dsimp only)).trans hT399) hok
  exact hl399 many 0  V h (by omega) rfl hok
