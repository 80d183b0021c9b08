def fX5_including_0 (o ml : Nat) (a1 : Nat) (a2 : Nat) (a4 : Int32) (V : q_V) : q_V := let V233 := fX5_become_0 o ml ((8 * a1) + a2) ((vX5_setOf_1 o ml ((8 * a1) + a2) V) ||| (a4)) (nI 0) V; let V234 := fX5_setTimers o ml ((8 * a1) + a2) a4 (vX5_grace o ml a1 V233) V233; V234
set_option maxRecDepth 20000 in
set_option maxHeartbeats 4000000 in
theorem eX5_including_0 (Sc : q_S) (Γ : Nat → q_K) (n : Nat) (V : q_V) (o ml : Nat) (H : sM Γ o ml) (hm1 : 1 ≤ ml) (hml : ml ≤ 4) (a1 : Nat) (b1 : a1 < 4) (a2 : Nat) (b2 : a2 < 8) (a4 : Int32) (b : Nat) (hb : b + 2 ≤ 2000000000) (hS : SB V o b) : q_fn Sc Γ mX5_including [.ref o, .int (nI a1), .int (nI a2), .int (nI 0), .int (a4)] n V none (fX5_including_0 o ml a1 a2 a4 V) := by
  refine q_fn.of fun Q h hQ hok => ?_
  show q_A Sc mX5_including 0 [.ref o, .int (nI a1), .int (nI a2), .int (nI 0), .int (a4), .retAddr 0, .retAddr 0] [] h n 0 0 Q
  refine q_bipush (v := nI 8) dX5_including_0 rfl ?_
  refine q_iload_n dX5_including_2 rfl ?_
  refine t_imul_n dX5_including_3 ?_
  refine q_iload_n dX5_including_4 rfl ?_
  refine t_iadd_n dX5_including_5 ?_
  refine t_istore [.ref o, .int (nI a1), .int (nI a2), .int (nI 0), .int (a4), .int (nI ((8 * a1) + a2)), .retAddr 0] (Or.inr ⟨rfl, dX5_including_6⟩) (by decide) rfl ?_
  refine q_aload_n dX5_including_8 rfl ?_
  refine q_iload dX5_including_9 rfl ?_
  refine q_iconst (v := nI 1) dX5_including_11 rfl ?_
  refine v_callV (M' := mX5_setOf) [.int (nI ((8 * a1) + a2)), .int (nI 1)] [] kX5 dX5_including_12 wPX5_90v wIX5_setOf wSX5_setOf iX5_setOf oX5_setOf rfl hok H.1 (eX5_setOf_1 Sc Γ n V o ml H hm1 hml ((8 * a1) + a2) (by omega)) (Nat.le_of_ble_eq_true rfl) (Nat.le_of_ble_eq_true rfl) (Nat.le_of_ble_eq_true rfl) rfl (fun h hok => ?_)
  refine t_istore [.ref o, .int (nI a1), .int (nI a2), .int (nI 0), .int (a4), .int (nI ((8 * a1) + a2)), .int (vX5_setOf_1 o ml ((8 * a1) + a2) V)] (Or.inr ⟨rfl, dX5_including_15⟩) (by decide) rfl ?_
  refine q_iload_n dX5_including_17 rfl ?_
  refine q_if_eq (tgt := 31) dX5_including_18 (by decide) (fun _ => ?_) (fun q => absurd q (by decide))
  refine q_aload_n dX5_including_31 rfl ?_
  refine q_iload dX5_including_32 rfl ?_
  refine q_iconst (v := nI 0) dX5_including_34 rfl ?_
  refine q_iload dX5_including_35 rfl ?_
  refine q_iload dX5_including_37 rfl ?_
  refine q_ior dX5_including_39 ?_
  refine q_iconst (v := nI 0) dX5_including_40 rfl ?_
  refine v_callV (M' := mX5_become) [.int (nI ((8 * a1) + a2)), .int (nI 0), .int ((vX5_setOf_1 o ml ((8 * a1) + a2) V) ||| (a4)), .int (nI 0)] [] kX5 dX5_including_41 wPX5_94v wIX5_become wSX5_become iX5_become oX5_become rfl hok H.1 (eX5_become_0 Sc Γ n V o ml H hm1 hml ((8 * a1) + a2) (by omega) ((vX5_setOf_1 o ml ((8 * a1) + a2) V) ||| (a4)) (nI 0)) (Nat.le_of_ble_eq_true rfl) (Nat.le_of_ble_eq_true rfl) (Nat.le_of_ble_eq_true rfl) rfl (fun h hok => ?_)
  refine q_aload_n dX5_including_44 rfl ?_
  refine q_iload dX5_including_45 rfl ?_
  refine q_iload dX5_including_47 rfl ?_
  refine q_aload_n dX5_including_49 rfl ?_
  refine q_iload_n dX5_including_50 rfl ?_
  refine v_callV (M' := mX5_grace) [.int (nI a1)] [.int (a4), .int (nI ((8 * a1) + a2)), .ref o] kX5 dX5_including_51 wPX5_98v wIX5_grace wSX5_grace iX5_grace oX5_grace rfl hok H.1 (eX5_grace Sc Γ n (fX5_become_0 o ml ((8 * a1) + a2) ((vX5_setOf_1 o ml ((8 * a1) + a2) V) ||| (a4)) (nI 0) V) o ml H hm1 hml a1 (by omega)) (Nat.le_of_ble_eq_true rfl) (Nat.le_of_ble_eq_true rfl) (Nat.le_of_ble_eq_true rfl) rfl (fun h hok => ?_)
  refine v_callV (M' := mX5_setTimers) [.int (nI ((8 * a1) + a2)), .int (a4), .int (vX5_grace o ml a1 (fX5_become_0 o ml ((8 * a1) + a2) ((vX5_setOf_1 o ml ((8 * a1) + a2) V) ||| (a4)) (nI 0) V))] [] kX5 dX5_including_54 wPX5_102v wIX5_setTimers wSX5_setTimers iX5_setTimers oX5_setTimers rfl hok H.1 (eX5_setTimers Sc Γ n (fX5_become_0 o ml ((8 * a1) + a2) ((vX5_setOf_1 o ml ((8 * a1) + a2) V) ||| (a4)) (nI 0) V) o ml H hm1 hml ((8 * a1) + a2) (by omega) a4 (vX5_grace o ml a1 (fX5_become_0 o ml ((8 * a1) + a2) ((vX5_setOf_1 o ml ((8 * a1) + a2) V) ||| (a4)) (nI 0) V))) (Nat.le_of_ble_eq_true rfl) (Nat.le_of_ble_eq_true rfl) (Nat.le_of_ble_eq_true rfl) rfl (fun h hok => ?_)
  refine q_goto (tgt := 101) dX5_including_57 (by decide) ?_
  refine q_iload_n dX5_including_101 rfl ?_
  refine q_iconst (v := nI 2) dX5_including_102 rfl ?_
  refine q_icmp_ne (tgt := 122) dX5_including_103 (by decide) (fun _ => ?_) (fun q => absurd q (by decide))
  refine q_iload_n dX5_including_122 rfl ?_
  refine q_iconst (v := nI 3) dX5_including_123 rfl ?_
  refine q_icmp_eq (tgt := 132) dX5_including_124 (by decide) (fun q => absurd q (by decide)) (fun _ => ?_)
  refine q_iload_n dX5_including_127 rfl ?_
  refine q_iconst (v := nI 5) dX5_including_128 rfl ?_
  refine q_icmp_ne (tgt := 143) dX5_including_129 (by decide) (fun _ => ?_) (fun q => absurd q (by decide))
  exact q_vret dX5_including_143 rfl (hQ _ _ (rfl) (by dsimp only [fX5_including_0]; exact hok))
theorem SX5_including_0 (o ml : Nat) (a1 : Nat) (a2 : Nat) (a4 : Int32) {V : q_V} {b : Nat} (hS : SB V o b) (hb : b + 2 ≤ 2000000000) : SB (fX5_including_0 o ml a1 a2 a4 V) o (b + 2) := by
  dsimp only [fX5_including_0]
  exact SB.mo (SX5_setTimers o ml ((8 * a1) + a2) a4 (vX5_grace o ml a1 (fX5_become_0 o ml ((8 * a1) + a2) ((vX5_setOf_1 o ml ((8 * a1) + a2) V) ||| (a4)) (nI 0) V)) (SX5_become_0 o ml ((8 * a1) + a2) ((vX5_setOf_1 o ml ((8 * a1) + a2) V) ||| (a4)) (nI 0) hS)) (by omega)
def fX5_including_1 (o ml : Nat) (a1 : Nat) (a2 : Nat) (a4 : Int32) (V : q_V) : q_V := let V235 := fX5_become_1 o ml ((8 * a1) + a2) ((vX5_setOf_1 o ml ((8 * a1) + a2) V) &&& (a4)) ((a4) &&& ((vX5_setOf_1 o ml ((8 * a1) + a2) V) ^^^ (-1))) V; let V236 := vset V235 (o + 8) ((8 * a1) + a2) (vX5_grace o ml a1 V235); V236
set_option maxRecDepth 20000 in
set_option maxHeartbeats 4000000 in
theorem eX5_including_1 (Sc : q_S) (Γ : Nat → q_K) (n : Nat) (V : q_V) (o ml : Nat) (H : sM Γ o ml) (hm1 : 1 ≤ ml) (hml : ml ≤ 4) (a1 : Nat) (b1 : a1 < 4) (a2 : Nat) (b2 : a2 < 8) (a4 : Int32) (b : Nat) (hb : b + 2 ≤ 2000000000) (hS : SB V o b) : q_fn Sc Γ mX5_including [.ref o, .int (nI a1), .int (nI a2), .int (nI 1), .int (a4)] n V none (fX5_including_1 o ml a1 a2 a4 V) := by
  refine q_fn.of fun Q h hQ hok => ?_
  show q_A Sc mX5_including 0 [.ref o, .int (nI a1), .int (nI a2), .int (nI 1), .int (a4), .retAddr 0, .retAddr 0] [] h n 0 0 Q
  refine q_bipush (v := nI 8) dX5_including_0 rfl ?_
  refine q_iload_n dX5_including_2 rfl ?_
  refine t_imul_n dX5_including_3 ?_
  refine q_iload_n dX5_including_4 rfl ?_
  refine t_iadd_n dX5_including_5 ?_
  refine t_istore [.ref o, .int (nI a1), .int (nI a2), .int (nI 1), .int (a4), .int (nI ((8 * a1) + a2)), .retAddr 0] (Or.inr ⟨rfl, dX5_including_6⟩) (by decide) rfl ?_
  refine q_aload_n dX5_including_8 rfl ?_
  refine q_iload dX5_including_9 rfl ?_
  refine q_iconst (v := nI 1) dX5_including_11 rfl ?_
  refine v_callV (M' := mX5_setOf) [.int (nI ((8 * a1) + a2)), .int (nI 1)] [] kX5 dX5_including_12 wPX5_90v wIX5_setOf wSX5_setOf iX5_setOf oX5_setOf rfl hok H.1 (eX5_setOf_1 Sc Γ n V o ml H hm1 hml ((8 * a1) + a2) (by omega)) (Nat.le_of_ble_eq_true rfl) (Nat.le_of_ble_eq_true rfl) (Nat.le_of_ble_eq_true rfl) rfl (fun h hok => ?_)
  refine t_istore [.ref o, .int (nI a1), .int (nI a2), .int (nI 1), .int (a4), .int (nI ((8 * a1) + a2)), .int (vX5_setOf_1 o ml ((8 * a1) + a2) V)] (Or.inr ⟨rfl, dX5_including_15⟩) (by decide) rfl ?_
  refine q_iload_n dX5_including_17 rfl ?_
  refine q_if_eq (tgt := 31) dX5_including_18 (by decide) (fun q => absurd q (by decide)) (fun _ => ?_)
  refine q_iload_n dX5_including_21 rfl ?_
  refine q_iconst (v := nI 4) dX5_including_22 rfl ?_
  refine q_icmp_eq (tgt := 31) dX5_including_23 (by decide) (fun q => absurd q (by decide)) (fun _ => ?_)
  refine q_iload_n dX5_including_26 rfl ?_
  refine q_iconst (v := nI 2) dX5_including_27 rfl ?_
  refine q_icmp_ne (tgt := 60) dX5_including_28 (by decide) (fun _ => ?_) (fun q => absurd q (by decide))
  refine q_iload_n dX5_including_60 rfl ?_
  refine q_iconst (v := nI 1) dX5_including_61 rfl ?_
  refine q_icmp_eq (tgt := 70) dX5_including_62 (by decide) (fun _ => ?_) (fun q => absurd q (by decide))
  refine q_aload_n dX5_including_70 rfl ?_
  refine q_iload dX5_including_71 rfl ?_
  refine q_iconst (v := nI 1) dX5_including_73 rfl ?_
  refine q_iload dX5_including_74 rfl ?_
  refine q_iload dX5_including_76 rfl ?_
  refine q_iand dX5_including_78 ?_
  refine q_iload dX5_including_79 rfl ?_
  refine q_iload dX5_including_81 rfl ?_
  refine q_iconst (v := -1) dX5_including_83 rfl ?_
  refine q_ixor dX5_including_84 ?_
  refine q_iand dX5_including_85 ?_
  refine v_callV (M' := mX5_become) [.int (nI ((8 * a1) + a2)), .int (nI 1), .int ((vX5_setOf_1 o ml ((8 * a1) + a2) V) &&& (a4)), .int ((a4) &&& ((vX5_setOf_1 o ml ((8 * a1) + a2) V) ^^^ (-1)))] [] kX5 dX5_including_86 wPX5_94v wIX5_become wSX5_become iX5_become oX5_become rfl hok H.1 (eX5_become_1 Sc Γ n V o ml H hm1 hml ((8 * a1) + a2) (by omega) ((vX5_setOf_1 o ml ((8 * a1) + a2) V) &&& (a4)) ((a4) &&& ((vX5_setOf_1 o ml ((8 * a1) + a2) V) ^^^ (-1)))) (Nat.le_of_ble_eq_true rfl) (Nat.le_of_ble_eq_true rfl) (Nat.le_of_ble_eq_true rfl) rfl (fun h hok => ?_)
  refine q_aload_n dX5_including_89 rfl ?_
  refine v_getr 9 kX5 (by decide) wPX5_31 dX5_including_90 hok H.1 rfl ?_
  refine q_iload dX5_including_93 rfl ?_
  refine q_aload_n dX5_including_95 rfl ?_
  refine q_iload_n dX5_including_96 rfl ?_
  refine v_callV (M' := mX5_grace) [.int (nI a1)] [.int (nI ((8 * a1) + a2)), .ref (o + 8)] kX5 dX5_including_97 wPX5_98v wIX5_grace wSX5_grace iX5_grace oX5_grace rfl hok H.1 (eX5_grace Sc Γ n (fX5_become_1 o ml ((8 * a1) + a2) ((vX5_setOf_1 o ml ((8 * a1) + a2) V) &&& (a4)) ((a4) &&& ((vX5_setOf_1 o ml ((8 * a1) + a2) V) ^^^ (-1))) V) o ml H hm1 hml a1 (by omega)) (Nat.le_of_ble_eq_true rfl) (Nat.le_of_ble_eq_true rfl) (Nat.le_of_ble_eq_true rfl) rfl (fun h hok => ?_)
  refine v_iast (by decide) dX5_including_100 hok H.2.2.2.2.2.2.2.2.1 (j := (8 * a1) + a2) (by omega) (fun h hok => ?_)
  refine q_iload_n dX5_including_101 rfl ?_
  refine q_iconst (v := nI 2) dX5_including_102 rfl ?_
  refine q_icmp_ne (tgt := 122) dX5_including_103 (by decide) (fun _ => ?_) (fun q => absurd q (by decide))
  refine q_iload_n dX5_including_122 rfl ?_
  refine q_iconst (v := nI 3) dX5_including_123 rfl ?_
  refine q_icmp_eq (tgt := 132) dX5_including_124 (by decide) (fun q => absurd q (by decide)) (fun _ => ?_)
  refine q_iload_n dX5_including_127 rfl ?_
  refine q_iconst (v := nI 5) dX5_including_128 rfl ?_
  refine q_icmp_ne (tgt := 143) dX5_including_129 (by decide) (fun _ => ?_) (fun q => absurd q (by decide))
  exact q_vret dX5_including_143 rfl (hQ _ _ (rfl) (by dsimp only [fX5_including_1]; exact hok))
theorem SX5_including_1 (o ml : Nat) (a1 : Nat) (a2 : Nat) (a4 : Int32) {V : q_V} {b : Nat} (hS : SB V o b) (hb : b + 2 ≤ 2000000000) : SB (fX5_including_1 o ml a1 a2 a4 V) o (b + 2) := by
  dsimp only [fX5_including_1]
  exact SB.mo (SB.vs (SX5_become_1 o ml ((8 * a1) + a2) ((vX5_setOf_1 o ml ((8 * a1) + a2) V) &&& (a4)) ((a4) &&& ((vX5_setOf_1 o ml ((8 * a1) + a2) V) ^^^ (-1))) hS) (by first | exact Or.inr (by decide) | exact Or.inl (by omega))) (by omega)
def fX5_including_2 (o ml : Nat) (a1 : Nat) (a2 : Nat) (a4 : Int32) (V : q_V) : q_V := let V237 := fX5_become_0 o ml ((8 * a1) + a2) ((vX5_setOf_1 o ml ((8 * a1) + a2) V) ||| (a4)) (nI 0) V; let V238 := fX5_setTimers o ml ((8 * a1) + a2) a4 (vX5_grace o ml a1 V237) V237; let V239 := fX5_ask o ml a1 a2 ((vX5_setOf_1 o ml ((8 * a1) + a2) V) &&& ((a4) ^^^ (-1))) V238; V239
set_option maxRecDepth 20000 in
set_option maxHeartbeats 4000000 in
theorem eX5_including_2 (Sc : q_S) (Γ : Nat → q_K) (n : Nat) (V : q_V) (o ml : Nat) (H : sM Γ o ml) (hm1 : 1 ≤ ml) (hml : ml ≤ 4) (a1 : Nat) (b1 : a1 < 4) (a2 : Nat) (b2 : a2 < 8) (a4 : Int32) (b : Nat) (hb : b + 2 ≤ 2000000000) (hS : SB V o b) : q_fn Sc Γ mX5_including [.ref o, .int (nI a1), .int (nI a2), .int (nI 2), .int (a4)] n V none (fX5_including_2 o ml a1 a2 a4 V) := by
  refine q_fn.of fun Q h hQ hok => ?_
  show q_A Sc mX5_including 0 [.ref o, .int (nI a1), .int (nI a2), .int (nI 2), .int (a4), .retAddr 0, .retAddr 0] [] h n 0 0 Q
  refine q_bipush (v := nI 8) dX5_including_0 rfl ?_
  refine q_iload_n dX5_including_2 rfl ?_
  refine t_imul_n dX5_including_3 ?_
  refine q_iload_n dX5_including_4 rfl ?_
  refine t_iadd_n dX5_including_5 ?_
  refine t_istore [.ref o, .int (nI a1), .int (nI a2), .int (nI 2), .int (a4), .int (nI ((8 * a1) + a2)), .retAddr 0] (Or.inr ⟨rfl, dX5_including_6⟩) (by decide) rfl ?_
  refine q_aload_n dX5_including_8 rfl ?_
  refine q_iload dX5_including_9 rfl ?_
  refine q_iconst (v := nI 1) dX5_including_11 rfl ?_
  refine v_callV (M' := mX5_setOf) [.int (nI ((8 * a1) + a2)), .int (nI 1)] [] kX5 dX5_including_12 wPX5_90v wIX5_setOf wSX5_setOf iX5_setOf oX5_setOf rfl hok H.1 (eX5_setOf_1 Sc Γ n V o ml H hm1 hml ((8 * a1) + a2) (by omega)) (Nat.le_of_ble_eq_true rfl) (Nat.le_of_ble_eq_true rfl) (Nat.le_of_ble_eq_true rfl) rfl (fun h hok => ?_)
  refine t_istore [.ref o, .int (nI a1), .int (nI a2), .int (nI 2), .int (a4), .int (nI ((8 * a1) + a2)), .int (vX5_setOf_1 o ml ((8 * a1) + a2) V)] (Or.inr ⟨rfl, dX5_including_15⟩) (by decide) rfl ?_
  refine q_iload_n dX5_including_17 rfl ?_
  refine q_if_eq (tgt := 31) dX5_including_18 (by decide) (fun q => absurd q (by decide)) (fun _ => ?_)
  refine q_iload_n dX5_including_21 rfl ?_
  refine q_iconst (v := nI 4) dX5_including_22 rfl ?_
  refine q_icmp_eq (tgt := 31) dX5_including_23 (by decide) (fun q => absurd q (by decide)) (fun _ => ?_)
  refine q_iload_n dX5_including_26 rfl ?_
  refine q_iconst (v := nI 2) dX5_including_27 rfl ?_
  refine q_icmp_ne (tgt := 60) dX5_including_28 (by decide) (fun q => absurd q (by decide)) (fun _ => ?_)
  refine q_aload_n dX5_including_31 rfl ?_
  refine q_iload dX5_including_32 rfl ?_
  refine q_iconst (v := nI 0) dX5_including_34 rfl ?_
  refine q_iload dX5_including_35 rfl ?_
  refine q_iload dX5_including_37 rfl ?_
  refine q_ior dX5_including_39 ?_
  refine q_iconst (v := nI 0) dX5_including_40 rfl ?_
  refine v_callV (M' := mX5_become) [.int (nI ((8 * a1) + a2)), .int (nI 0), .int ((vX5_setOf_1 o ml ((8 * a1) + a2) V) ||| (a4)), .int (nI 0)] [] kX5 dX5_including_41 wPX5_94v wIX5_become wSX5_become iX5_become oX5_become rfl hok H.1 (eX5_become_0 Sc Γ n V o ml H hm1 hml ((8 * a1) + a2) (by omega) ((vX5_setOf_1 o ml ((8 * a1) + a2) V) ||| (a4)) (nI 0)) (Nat.le_of_ble_eq_true rfl) (Nat.le_of_ble_eq_true rfl) (Nat.le_of_ble_eq_true rfl) rfl (fun h hok => ?_)
  refine q_aload_n dX5_including_44 rfl ?_
  refine q_iload dX5_including_45 rfl ?_
  refine q_iload dX5_including_47 rfl ?_
  refine q_aload_n dX5_including_49 rfl ?_
  refine q_iload_n dX5_including_50 rfl ?_
  refine v_callV (M' := mX5_grace) [.int (nI a1)] [.int (a4), .int (nI ((8 * a1) + a2)), .ref o] kX5 dX5_including_51 wPX5_98v wIX5_grace wSX5_grace iX5_grace oX5_grace rfl hok H.1 (eX5_grace Sc Γ n (fX5_become_0 o ml ((8 * a1) + a2) ((vX5_setOf_1 o ml ((8 * a1) + a2) V) ||| (a4)) (nI 0) V) o ml H hm1 hml a1 (by omega)) (Nat.le_of_ble_eq_true rfl) (Nat.le_of_ble_eq_true rfl) (Nat.le_of_ble_eq_true rfl) rfl (fun h hok => ?_)
  refine v_callV (M' := mX5_setTimers) [.int (nI ((8 * a1) + a2)), .int (a4), .int (vX5_grace o ml a1 (fX5_become_0 o ml ((8 * a1) + a2) ((vX5_setOf_1 o ml ((8 * a1) + a2) V) ||| (a4)) (nI 0) V))] [] kX5 dX5_including_54 wPX5_102v wIX5_setTimers wSX5_setTimers iX5_setTimers oX5_setTimers rfl hok H.1 (eX5_setTimers Sc Γ n (fX5_become_0 o ml ((8 * a1) + a2) ((vX5_setOf_1 o ml ((8 * a1) + a2) V) ||| (a4)) (nI 0) V) o ml H hm1 hml ((8 * a1) + a2) (by omega) a4 (vX5_grace o ml a1 (fX5_become_0 o ml ((8 * a1) + a2) ((vX5_setOf_1 o ml ((8 * a1) + a2) V) ||| (a4)) (nI 0) V))) (Nat.le_of_ble_eq_true rfl) (Nat.le_of_ble_eq_true rfl) (Nat.le_of_ble_eq_true rfl) rfl (fun h hok => ?_)
  refine q_goto (tgt := 101) dX5_including_57 (by decide) ?_
  refine q_iload_n dX5_including_101 rfl ?_
  refine q_iconst (v := nI 2) dX5_including_102 rfl ?_
  refine q_icmp_ne (tgt := 122) dX5_including_103 (by decide) (fun q => absurd q (by decide)) (fun _ => ?_)
  refine q_aload_n dX5_including_106 rfl ?_
  refine q_iload_n dX5_including_107 rfl ?_
  refine q_iload_n dX5_including_108 rfl ?_
  refine q_iload dX5_including_109 rfl ?_
  refine q_iload dX5_including_111 rfl ?_
  refine q_iconst (v := -1) dX5_including_113 rfl ?_
  refine q_ixor dX5_including_114 ?_
  refine q_iand dX5_including_115 ?_
  refine v_callV (M' := mX5_ask) [.int (nI a1), .int (nI a2), .int ((vX5_setOf_1 o ml ((8 * a1) + a2) V) &&& ((a4) ^^^ (-1)))] [] kX5 dX5_including_116 wPX5_105v wIX5_ask wSX5_ask iX5_ask oX5_ask rfl hok H.1 (eX5_ask Sc Γ n (fX5_setTimers o ml ((8 * a1) + a2) a4 (vX5_grace o ml a1 (fX5_become_0 o ml ((8 * a1) + a2) ((vX5_setOf_1 o ml ((8 * a1) + a2) V) ||| (a4)) (nI 0) V)) (fX5_become_0 o ml ((8 * a1) + a2) ((vX5_setOf_1 o ml ((8 * a1) + a2) V) ||| (a4)) (nI 0) V)) o ml H hm1 hml a1 (by omega) a2 (by omega) ((vX5_setOf_1 o ml ((8 * a1) + a2) V) &&& ((a4) ^^^ (-1))) (b) (by omega) (SX5_setTimers o ml ((8 * a1) + a2) a4 (vX5_grace o ml a1 (fX5_become_0 o ml ((8 * a1) + a2) ((vX5_setOf_1 o ml ((8 * a1) + a2) V) ||| (a4)) (nI 0) V)) (SX5_become_0 o ml ((8 * a1) + a2) ((vX5_setOf_1 o ml ((8 * a1) + a2) V) ||| (a4)) (nI 0) hS))) (Nat.le_of_ble_eq_true rfl) (Nat.le_of_ble_eq_true rfl) (Nat.le_of_ble_eq_true rfl) rfl (fun h hok => ?_)
  refine q_goto (tgt := 143) dX5_including_119 (by decide) ?_
  exact q_vret dX5_including_143 rfl (hQ _ _ (rfl) (by dsimp only [fX5_including_2]; exact hok))
theorem SX5_including_2 (o ml : Nat) (a1 : Nat) (a2 : Nat) (a4 : Int32) {V : q_V} {b : Nat} (hS : SB V o b) (hb : b + 2 ≤ 2000000000) : SB (fX5_including_2 o ml a1 a2 a4 V) o (b + 2) := by
  dsimp only [fX5_including_2]
  exact SB.mo (SX5_ask o ml a1 a2 ((vX5_setOf_1 o ml ((8 * a1) + a2) V) &&& ((a4) ^^^ (-1))) (SX5_setTimers o ml ((8 * a1) + a2) a4 (vX5_grace o ml a1 (fX5_become_0 o ml ((8 * a1) + a2) ((vX5_setOf_1 o ml ((8 * a1) + a2) V) ||| (a4)) (nI 0) V)) (SX5_become_0 o ml ((8 * a1) + a2) ((vX5_setOf_1 o ml ((8 * a1) + a2) V) ||| (a4)) (nI 0) hS)) (by omega)) (by omega)
def fX5_including_3 (o ml : Nat) (a1 : Nat) (a2 : Nat) (a4 : Int32) (V : q_V) : q_V := let V240 := fX5_become_1 o ml ((8 * a1) + a2) ((vX5_setOf_1 o ml ((8 * a1) + a2) V) &&& (a4)) ((a4) &&& ((vX5_setOf_1 o ml ((8 * a1) + a2) V) ^^^ (-1))) V; let V241 := vset V240 (o + 8) ((8 * a1) + a2) (vX5_grace o ml a1 V240); let V242 := fX5_ask o ml a1 a2 ((vX5_setOf_1 o ml ((8 * a1) + a2) V) &&& (a4)) V241; V242
set_option maxRecDepth 20000 in
set_option maxHeartbeats 4000000 in
theorem eX5_including_3 (Sc : q_S) (Γ : Nat → q_K) (n : Nat) (V : q_V) (o ml : Nat) (H : sM Γ o ml) (hm1 : 1 ≤ ml) (hml : ml ≤ 4) (a1 : Nat) (b1 : a1 < 4) (a2 : Nat) (b2 : a2 < 8) (a4 : Int32) (b : Nat) (hb : b + 2 ≤ 2000000000) (hS : SB V o b) : q_fn Sc Γ mX5_including [.ref o, .int (nI a1), .int (nI a2), .int (nI 3), .int (a4)] n V none (fX5_including_3 o ml a1 a2 a4 V) := by
  refine q_fn.of fun Q h hQ hok => ?_
  show q_A Sc mX5_including 0 [.ref o, .int (nI a1), .int (nI a2), .int (nI 3), .int (a4), .retAddr 0, .retAddr 0] [] h n 0 0 Q
  refine q_bipush (v := nI 8) dX5_including_0 rfl ?_
  refine q_iload_n dX5_including_2 rfl ?_
  refine t_imul_n dX5_including_3 ?_
  refine q_iload_n dX5_including_4 rfl ?_
  refine t_iadd_n dX5_including_5 ?_
  refine t_istore [.ref o, .int (nI a1), .int (nI a2), .int (nI 3), .int (a4), .int (nI ((8 * a1) + a2)), .retAddr 0] (Or.inr ⟨rfl, dX5_including_6⟩) (by decide) rfl ?_
  refine q_aload_n dX5_including_8 rfl ?_
  refine q_iload dX5_including_9 rfl ?_
  refine q_iconst (v := nI 1) dX5_including_11 rfl ?_
  refine v_callV (M' := mX5_setOf) [.int (nI ((8 * a1) + a2)), .int (nI 1)] [] kX5 dX5_including_12 wPX5_90v wIX5_setOf wSX5_setOf iX5_setOf oX5_setOf rfl hok H.1 (eX5_setOf_1 Sc Γ n V o ml H hm1 hml ((8 * a1) + a2) (by omega)) (Nat.le_of_ble_eq_true rfl) (Nat.le_of_ble_eq_true rfl) (Nat.le_of_ble_eq_true rfl) rfl (fun h hok => ?_)
  refine t_istore [.ref o, .int (nI a1), .int (nI a2), .int (nI 3), .int (a4), .int (nI ((8 * a1) + a2)), .int (vX5_setOf_1 o ml ((8 * a1) + a2) V)] (Or.inr ⟨rfl, dX5_including_15⟩) (by decide) rfl ?_
  refine q_iload_n dX5_including_17 rfl ?_
  refine q_if_eq (tgt := 31) dX5_including_18 (by decide) (fun q => absurd q (by decide)) (fun _ => ?_)
  refine q_iload_n dX5_including_21 rfl ?_
  refine q_iconst (v := nI 4) dX5_including_22 rfl ?_
  refine q_icmp_eq (tgt := 31) dX5_including_23 (by decide) (fun q => absurd q (by decide)) (fun _ => ?_)
  refine q_iload_n dX5_including_26 rfl ?_
  refine q_iconst (v := nI 2) dX5_including_27 rfl ?_
  refine q_icmp_ne (tgt := 60) dX5_including_28 (by decide) (fun _ => ?_) (fun q => absurd q (by decide))
  refine q_iload_n dX5_including_60 rfl ?_
  refine q_iconst (v := nI 1) dX5_including_61 rfl ?_
  refine q_icmp_eq (tgt := 70) dX5_including_62 (by decide) (fun q => absurd q (by decide)) (fun _ => ?_)
  refine q_iload_n dX5_including_65 rfl ?_
  refine q_iconst (v := nI 3) dX5_including_66 rfl ?_
  refine q_icmp_ne (tgt := 101) dX5_including_67 (by decide) (fun q => absurd q (by decide)) (fun _ => ?_)
  refine q_aload_n dX5_including_70 rfl ?_
  refine q_iload dX5_including_71 rfl ?_
  refine q_iconst (v := nI 1) dX5_including_73 rfl ?_
  refine q_iload dX5_including_74 rfl ?_
  refine q_iload dX5_including_76 rfl ?_
  refine q_iand dX5_including_78 ?_
  refine q_iload dX5_including_79 rfl ?_
  refine q_iload dX5_including_81 rfl ?_
  refine q_iconst (v := -1) dX5_including_83 rfl ?_
  refine q_ixor dX5_including_84 ?_
  refine q_iand dX5_including_85 ?_
  refine v_callV (M' := mX5_become) [.int (nI ((8 * a1) + a2)), .int (nI 1), .int ((vX5_setOf_1 o ml ((8 * a1) + a2) V) &&& (a4)), .int ((a4) &&& ((vX5_setOf_1 o ml ((8 * a1) + a2) V) ^^^ (-1)))] [] kX5 dX5_including_86 wPX5_94v wIX5_become wSX5_become iX5_become oX5_become rfl hok H.1 (eX5_become_1 Sc Γ n V o ml H hm1 hml ((8 * a1) + a2) (by omega) ((vX5_setOf_1 o ml ((8 * a1) + a2) V) &&& (a4)) ((a4) &&& ((vX5_setOf_1 o ml ((8 * a1) + a2) V) ^^^ (-1)))) (Nat.le_of_ble_eq_true rfl) (Nat.le_of_ble_eq_true rfl) (Nat.le_of_ble_eq_true rfl) rfl (fun h hok => ?_)
  refine q_aload_n dX5_including_89 rfl ?_
  refine v_getr 9 kX5 (by decide) wPX5_31 dX5_including_90 hok H.1 rfl ?_
  refine q_iload dX5_including_93 rfl ?_
  refine q_aload_n dX5_including_95 rfl ?_
  refine q_iload_n dX5_including_96 rfl ?_
  refine v_callV (M' := mX5_grace) [.int (nI a1)] [.int (nI ((8 * a1) + a2)), .ref (o + 8)] kX5 dX5_including_97 wPX5_98v wIX5_grace wSX5_grace iX5_grace oX5_grace rfl hok H.1 (eX5_grace Sc Γ n (fX5_become_1 o ml ((8 * a1) + a2) ((vX5_setOf_1 o ml ((8 * a1) + a2) V) &&& (a4)) ((a4) &&& ((vX5_setOf_1 o ml ((8 * a1) + a2) V) ^^^ (-1))) V) o ml H hm1 hml a1 (by omega)) (Nat.le_of_ble_eq_true rfl) (Nat.le_of_ble_eq_true rfl) (Nat.le_of_ble_eq_true rfl) rfl (fun h hok => ?_)
  refine v_iast (by decide) dX5_including_100 hok H.2.2.2.2.2.2.2.2.1 (j := (8 * a1) + a2) (by omega) (fun h hok => ?_)
  refine q_iload_n dX5_including_101 rfl ?_
  refine q_iconst (v := nI 2) dX5_including_102 rfl ?_
  refine q_icmp_ne (tgt := 122) dX5_including_103 (by decide) (fun _ => ?_) (fun q => absurd q (by decide))
  refine q_iload_n dX5_including_122 rfl ?_
  refine q_iconst (v := nI 3) dX5_including_123 rfl ?_
  refine q_icmp_eq (tgt := 132) dX5_including_124 (by decide) (fun _ => ?_) (fun q => absurd q (by decide))
  refine q_aload_n dX5_including_132 rfl ?_
  refine q_iload_n dX5_including_133 rfl ?_
  refine q_iload_n dX5_including_134 rfl ?_
  refine q_iload dX5_including_135 rfl ?_
  refine q_iload dX5_including_137 rfl ?_
  refine q_iand dX5_including_139 ?_
  refine v_callV (M' := mX5_ask) [.int (nI a1), .int (nI a2), .int ((vX5_setOf_1 o ml ((8 * a1) + a2) V) &&& (a4))] [] kX5 dX5_including_140 wPX5_105v wIX5_ask wSX5_ask iX5_ask oX5_ask rfl hok H.1 (eX5_ask Sc Γ n (vset (fX5_become_1 o ml ((8 * a1) + a2) ((vX5_setOf_1 o ml ((8 * a1) + a2) V) &&& (a4)) ((a4) &&& ((vX5_setOf_1 o ml ((8 * a1) + a2) V) ^^^ (-1))) V) (o + 8) ((8 * a1) + a2) (vX5_grace o ml a1 (fX5_become_1 o ml ((8 * a1) + a2) ((vX5_setOf_1 o ml ((8 * a1) + a2) V) &&& (a4)) ((a4) &&& ((vX5_setOf_1 o ml ((8 * a1) + a2) V) ^^^ (-1))) V))) o ml H hm1 hml a1 (by omega) a2 (by omega) ((vX5_setOf_1 o ml ((8 * a1) + a2) V) &&& (a4)) (b) (by omega) (SB.vs (SX5_become_1 o ml ((8 * a1) + a2) ((vX5_setOf_1 o ml ((8 * a1) + a2) V) &&& (a4)) ((a4) &&& ((vX5_setOf_1 o ml ((8 * a1) + a2) V) ^^^ (-1))) hS) (by first | exact Or.inr (by decide) | exact Or.inl (by omega)))) (Nat.le_of_ble_eq_true rfl) (Nat.le_of_ble_eq_true rfl) (Nat.le_of_ble_eq_true rfl) rfl (fun h hok => ?_)
  exact q_vret dX5_including_143 rfl (hQ _ _ (rfl) (by dsimp only [fX5_including_3]; exact hok))
theorem SX5_including_3 (o ml : Nat) (a1 : Nat) (a2 : Nat) (a4 : Int32) {V : q_V} {b : Nat} (hS : SB V o b) (hb : b + 2 ≤ 2000000000) : SB (fX5_including_3 o ml a1 a2 a4 V) o (b + 2) := by
  dsimp only [fX5_including_3]
  exact SB.mo (SX5_ask o ml a1 a2 ((vX5_setOf_1 o ml ((8 * a1) + a2) V) &&& (a4)) (SB.vs (SX5_become_1 o ml ((8 * a1) + a2) ((vX5_setOf_1 o ml ((8 * a1) + a2) V) &&& (a4)) ((a4) &&& ((vX5_setOf_1 o ml ((8 * a1) + a2) V) ^^^ (-1))) hS) (by first | exact Or.inr (by decide) | exact Or.inl (by omega))) (by omega)) (by omega)
def fX5_including_4 (o ml : Nat) (a1 : Nat) (a2 : Nat) (a4 : Int32) (V : q_V) : q_V := let V243 := fX5_become_0 o ml ((8 * a1) + a2) ((vX5_setOf_1 o ml ((8 * a1) + a2) V) ||| (a4)) (nI 0) V; let V244 := fX5_setTimers o ml ((8 * a1) + a2) a4 (vX5_grace o ml a1 V243) V243; V244
set_option maxRecDepth 20000 in
set_option maxHeartbeats 4000000 in
theorem eX5_including_4 (Sc : q_S) (Γ : Nat → q_K) (n : Nat) (V : q_V) (o ml : Nat) (H : sM Γ o ml) (hm1 : 1 ≤ ml) (hml : ml ≤ 4) (a1 : Nat) (b1 : a1 < 4) (a2 : Nat) (b2 : a2 < 8) (a4 : Int32) (b : Nat) (hb : b + 2 ≤ 2000000000) (hS : SB V o b) : q_fn Sc Γ mX5_including [.ref o, .int (nI a1), .int (nI a2), .int (nI 4), .int (a4)] n V none (fX5_including_4 o ml a1 a2 a4 V) := by
  refine q_fn.of fun Q h hQ hok => ?_
  show q_A Sc mX5_including 0 [.ref o, .int (nI a1), .int (nI a2), .int (nI 4), .int (a4), .retAddr 0, .retAddr 0] [] h n 0 0 Q
  refine q_bipush (v := nI 8) dX5_including_0 rfl ?_
  refine q_iload_n dX5_including_2 rfl ?_
  refine t_imul_n dX5_including_3 ?_
  refine q_iload_n dX5_including_4 rfl ?_
  refine t_iadd_n dX5_including_5 ?_
  refine t_istore [.ref o, .int (nI a1), .int (nI a2), .int (nI 4), .int (a4), .int (nI ((8 * a1) + a2)), .retAddr 0] (Or.inr ⟨rfl, dX5_including_6⟩) (by decide) rfl ?_
  refine q_aload_n dX5_including_8 rfl ?_
  refine q_iload dX5_including_9 rfl ?_
  refine q_iconst (v := nI 1) dX5_including_11 rfl ?_
  refine v_callV (M' := mX5_setOf) [.int (nI ((8 * a1) + a2)), .int (nI 1)] [] kX5 dX5_including_12 wPX5_90v wIX5_setOf wSX5_setOf iX5_setOf oX5_setOf rfl hok H.1 (eX5_setOf_1 Sc Γ n V o ml H hm1 hml ((8 * a1) + a2) (by omega)) (Nat.le_of_ble_eq_true rfl) (Nat.le_of_ble_eq_true rfl) (Nat.le_of_ble_eq_true rfl) rfl (fun h hok => ?_)
  refine t_istore [.ref o, .int (nI a1), .int (nI a2), .int (nI 4), .int (a4), .int (nI ((8 * a1) + a2)), .int (vX5_setOf_1 o ml ((8 * a1) + a2) V)] (Or.inr ⟨rfl, dX5_including_15⟩) (by decide) rfl ?_
  refine q_iload_n dX5_including_17 rfl ?_
  refine q_if_eq (tgt := 31) dX5_including_18 (by decide) (fun q => absurd q (by decide)) (fun _ => ?_)
  refine q_iload_n dX5_including_21 rfl ?_
  refine q_iconst (v := nI 4) dX5_including_22 rfl ?_
  refine q_icmp_eq (tgt := 31) dX5_including_23 (by decide) (fun _ => ?_) (fun q => absurd q (by decide))
  refine q_aload_n dX5_including_31 rfl ?_
  refine q_iload dX5_including_32 rfl ?_
  refine q_iconst (v := nI 0) dX5_including_34 rfl ?_
  refine q_iload dX5_including_35 rfl ?_
  refine q_iload dX5_including_37 rfl ?_
  refine q_ior dX5_including_39 ?_
  refine q_iconst (v := nI 0) dX5_including_40 rfl ?_
  refine v_callV (M' := mX5_become) [.int (nI ((8 * a1) + a2)), .int (nI 0), .int ((vX5_setOf_1 o ml ((8 * a1) + a2) V) ||| (a4)), .int (nI 0)] [] kX5 dX5_including_41 wPX5_94v wIX5_become wSX5_become iX5_become oX5_become rfl hok H.1 (eX5_become_0 Sc Γ n V o ml H hm1 hml ((8 * a1) + a2) (by omega) ((vX5_setOf_1 o ml ((8 * a1) + a2) V) ||| (a4)) (nI 0)) (Nat.le_of_ble_eq_true rfl) (Nat.le_of_ble_eq_true rfl) (Nat.le_of_ble_eq_true rfl) rfl (fun h hok => ?_)
  refine q_aload_n dX5_including_44 rfl ?_
  refine q_iload dX5_including_45 rfl ?_
  refine q_iload dX5_including_47 rfl ?_
  refine q_aload_n dX5_including_49 rfl ?_
  refine q_iload_n dX5_including_50 rfl ?_
  refine v_callV (M' := mX5_grace) [.int (nI a1)] [.int (a4), .int (nI ((8 * a1) + a2)), .ref o] kX5 dX5_including_51 wPX5_98v wIX5_grace wSX5_grace iX5_grace oX5_grace rfl hok H.1 (eX5_grace Sc Γ n (fX5_become_0 o ml ((8 * a1) + a2) ((vX5_setOf_1 o ml ((8 * a1) + a2) V) ||| (a4)) (nI 0) V) o ml H hm1 hml a1 (by omega)) (Nat.le_of_ble_eq_true rfl) (Nat.le_of_ble_eq_true rfl) (Nat.le_of_ble_eq_true rfl) rfl (fun h hok => ?_)
  refine v_callV (M' := mX5_setTimers) [.int (nI ((8 * a1) + a2)), .int (a4), .int (vX5_grace o ml a1 (fX5_become_0 o ml ((8 * a1) + a2) ((vX5_setOf_1 o ml ((8 * a1) + a2) V) ||| (a4)) (nI 0) V))] [] kX5 dX5_including_54 wPX5_102v wIX5_setTimers wSX5_setTimers iX5_setTimers oX5_setTimers rfl hok H.1 (eX5_setTimers Sc Γ n (fX5_become_0 o ml ((8 * a1) + a2) ((vX5_setOf_1 o ml ((8 * a1) + a2) V) ||| (a4)) (nI 0) V) o ml H hm1 hml ((8 * a1) + a2) (by omega) a4 (vX5_grace o ml a1 (fX5_become_0 o ml ((8 * a1) + a2) ((vX5_setOf_1 o ml ((8 * a1) + a2) V) ||| (a4)) (nI 0) V))) (Nat.le_of_ble_eq_true rfl) (Nat.le_of_ble_eq_true rfl) (Nat.le_of_ble_eq_true rfl) rfl (fun h hok => ?_)
  refine q_goto (tgt := 101) dX5_including_57 (by decide) ?_
  refine q_iload_n dX5_including_101 rfl ?_
  refine q_iconst (v := nI 2) dX5_including_102 rfl ?_
  refine q_icmp_ne (tgt := 122) dX5_including_103 (by decide) (fun _ => ?_) (fun q => absurd q (by decide))
  refine q_iload_n dX5_including_122 rfl ?_
  refine q_iconst (v := nI 3) dX5_including_123 rfl ?_
  refine q_icmp_eq (tgt := 132) dX5_including_124 (by decide) (fun q => absurd q (by decide)) (fun _ => ?_)
  refine q_iload_n dX5_including_127 rfl ?_
  refine q_iconst (v := nI 5) dX5_including_128 rfl ?_
  refine q_icmp_ne (tgt := 143) dX5_including_129 (by decide) (fun _ => ?_) (fun q => absurd q (by decide))
  exact q_vret dX5_including_143 rfl (hQ _ _ (rfl) (by dsimp only [fX5_including_4]; exact hok))
theorem SX5_including_4 (o ml : Nat) (a1 : Nat) (a2 : Nat) (a4 : Int32) {V : q_V} {b : Nat} (hS : SB V o b) (hb : b + 2 ≤ 2000000000) : SB (fX5_including_4 o ml a1 a2 a4 V) o (b + 2) := by
  dsimp only [fX5_including_4]
  exact SB.mo (SX5_setTimers o ml ((8 * a1) + a2) a4 (vX5_grace o ml a1 (fX5_become_0 o ml ((8 * a1) + a2) ((vX5_setOf_1 o ml ((8 * a1) + a2) V) ||| (a4)) (nI 0) V)) (SX5_become_0 o ml ((8 * a1) + a2) ((vX5_setOf_1 o ml ((8 * a1) + a2) V) ||| (a4)) (nI 0) hS)) (by omega)
def fX5_including_5 (o ml : Nat) (a1 : Nat) (a2 : Nat) (a4 : Int32) (V : q_V) : q_V := let V245 := fX5_ask o ml a1 a2 ((vX5_setOf_1 o ml ((8 * a1) + a2) V) &&& (a4)) V; V245
set_option maxRecDepth 20000 in
set_option maxHeartbeats 4000000 in
theorem eX5_including_5 (Sc : q_S) (Γ : Nat → q_K) (n : Nat) (V : q_V) (o ml : Nat) (H : sM Γ o ml) (hm1 : 1 ≤ ml) (hml : ml ≤ 4) (a1 : Nat) (b1 : a1 < 4) (a2 : Nat) (b2 : a2 < 8) (a4 : Int32) (b : Nat) (hb : b + 2 ≤ 2000000000) (hS : SB V o b) : q_fn Sc Γ mX5_including [.ref o, .int (nI a1), .int (nI a2), .int (nI 5), .int (a4)] n V none (fX5_including_5 o ml a1 a2 a4 V) := by
  refine q_fn.of fun Q h hQ hok => ?_
  show q_A Sc mX5_including 0 [.ref o, .int (nI a1), .int (nI a2), .int (nI 5), .int (a4), .retAddr 0, .retAddr 0] [] h n 0 0 Q
  refine q_bipush (v := nI 8) dX5_including_0 rfl ?_
  refine q_iload_n dX5_including_2 rfl ?_
  refine t_imul_n dX5_including_3 ?_
  refine q_iload_n dX5_including_4 rfl ?_
  refine t_iadd_n dX5_including_5 ?_
  refine t_istore [.ref o, .int (nI a1), .int (nI a2), .int (nI 5), .int (a4), .int (nI ((8 * a1) + a2)), .retAddr 0] (Or.inr ⟨rfl, dX5_including_6⟩) (by decide) rfl ?_
  refine q_aload_n dX5_including_8 rfl ?_
  refine q_iload dX5_including_9 rfl ?_
  refine q_iconst (v := nI 1) dX5_including_11 rfl ?_
  refine v_callV (M' := mX5_setOf) [.int (nI ((8 * a1) + a2)), .int (nI 1)] [] kX5 dX5_including_12 wPX5_90v wIX5_setOf wSX5_setOf iX5_setOf oX5_setOf rfl hok H.1 (eX5_setOf_1 Sc Γ n V o ml H hm1 hml ((8 * a1) + a2) (by omega)) (Nat.le_of_ble_eq_true rfl) (Nat.le_of_ble_eq_true rfl) (Nat.le_of_ble_eq_true rfl) rfl (fun h hok => ?_)
  refine t_istore [.ref o, .int (nI a1), .int (nI a2), .int (nI 5), .int (a4), .int (nI ((8 * a1) + a2)), .int (vX5_setOf_1 o ml ((8 * a1) + a2) V)] (Or.inr ⟨rfl, dX5_including_15⟩) (by decide) rfl ?_
  refine q_iload_n dX5_including_17 rfl ?_
  refine q_if_eq (tgt := 31) dX5_including_18 (by decide) (fun q => absurd q (by decide)) (fun _ => ?_)
  refine q_iload_n dX5_including_21 rfl ?_
  refine q_iconst (v := nI 4) dX5_including_22 rfl ?_
  refine q_icmp_eq (tgt := 31) dX5_including_23 (by decide) (fun q => absurd q (by decide)) (fun _ => ?_)
  refine q_iload_n dX5_including_26 rfl ?_
  refine q_iconst (v := nI 2) dX5_including_27 rfl ?_
  refine q_icmp_ne (tgt := 60) dX5_including_28 (by decide) (fun _ => ?_) (fun q => absurd q (by decide))
  refine q_iload_n dX5_including_60 rfl ?_
  refine q_iconst (v := nI 1) dX5_including_61 rfl ?_
  refine q_icmp_eq (tgt := 70) dX5_including_62 (by decide) (fun q => absurd q (by decide)) (fun _ => ?_)
  refine q_iload_n dX5_including_65 rfl ?_
  refine q_iconst (v := nI 3) dX5_including_66 rfl ?_
  refine q_icmp_ne (tgt := 101) dX5_including_67 (by decide) (fun _ => ?_) (fun q => absurd q (by decide))
  refine q_iload_n dX5_including_101 rfl ?_
  refine q_iconst (v := nI 2) dX5_including_102 rfl ?_
  refine q_icmp_ne (tgt := 122) dX5_including_103 (by decide) (fun _ => ?_) (fun q => absurd q (by decide))
  refine q_iload_n dX5_including_122 rfl ?_
  refine q_iconst (v := nI 3) dX5_including_123 rfl ?_
  refine q_icmp_eq (tgt := 132) dX5_including_124 (by decide) (fun q => absurd q (by decide)) (fun _ => ?_)
  refine q_iload_n dX5_including_127 rfl ?_
  refine q_iconst (v := nI 5) dX5_including_128 rfl ?_
  refine q_icmp_ne (tgt := 143) dX5_including_129 (by decide) (fun q => absurd q (by decide)) (fun _ => ?_)
  refine q_aload_n dX5_including_132 rfl ?_
  refine q_iload_n dX5_including_133 rfl ?_
  refine q_iload_n dX5_including_134 rfl ?_
  refine q_iload dX5_including_135 rfl ?_
  refine q_iload dX5_including_137 rfl ?_
  refine q_iand dX5_including_139 ?_
  refine v_callV (M' := mX5_ask) [.int (nI a1), .int (nI a2), .int ((vX5_setOf_1 o ml ((8 * a1) + a2) V) &&& (a4))] [] kX5 dX5_including_140 wPX5_105v wIX5_ask wSX5_ask iX5_ask oX5_ask rfl hok H.1 (eX5_ask Sc Γ n V o ml H hm1 hml a1 (by omega) a2 (by omega) ((vX5_setOf_1 o ml ((8 * a1) + a2) V) &&& (a4)) (b) (by omega) hS) (Nat.le_of_ble_eq_true rfl) (Nat.le_of_ble_eq_true rfl) (Nat.le_of_ble_eq_true rfl) rfl (fun h hok => ?_)
  exact q_vret dX5_including_143 rfl (hQ _ _ (rfl) (by dsimp only [fX5_including_5]; exact hok))
theorem SX5_including_5 (o ml : Nat) (a1 : Nat) (a2 : Nat) (a4 : Int32) {V : q_V} {b : Nat} (hS : SB V o b) (hb : b + 2 ≤ 2000000000) : SB (fX5_including_5 o ml a1 a2 a4 V) o (b + 2) := by
  dsimp only [fX5_including_5]
  exact SB.mo (SX5_ask o ml a1 a2 ((vX5_setOf_1 o ml ((8 * a1) + a2) V) &&& (a4)) hS (by omega)) (by omega)
def fX5_excluding_0 (o ml : Nat) (a1 : Nat) (a2 : Nat) (a4 : Int32) (V : q_V) : q_V := let V246 := fX5_become_1 o ml ((8 * a1) + a2) ((vX5_setOf_1 o ml ((8 * a1) + a2) V) ||| (a4)) ((vX5_setOf_2 o ml ((8 * a1) + a2) V) &&& ((a4) ^^^ (-1))) V; let V247 := fX5_setTimers o ml ((8 * a1) + a2) a4 (vX5_grace o ml a1 V246) V246; V247
set_option maxRecDepth 20000 in
set_option maxHeartbeats 4000000 in
theorem eX5_excluding_0 (Sc : q_S) (Γ : Nat → q_K) (n : Nat) (V : q_V) (o ml : Nat) (H : sM Γ o ml) (hm1 : 1 ≤ ml) (hml : ml ≤ 4) (a1 : Nat) (b1 : a1 < 4) (a2 : Nat) (b2 : a2 < 8) (a4 : Int32) (b : Nat) (hb : b + 2 ≤ 2000000000) (hS : SB V o b) : q_fn Sc Γ mX5_excluding [.ref o, .int (nI a1), .int (nI a2), .int (nI 0), .int (a4)] n V none (fX5_excluding_0 o ml a1 a2 a4 V) := by
  refine q_fn.of fun Q h hQ hok => ?_
  show q_A Sc mX5_excluding 0 [.ref o, .int (nI a1), .int (nI a2), .int (nI 0), .int (a4), .retAddr 0, .retAddr 0, .retAddr 0, .retAddr 0, .retAddr 0] [] h n 0 0 Q
  refine q_bipush (v := nI 8) dX5_excluding_0 rfl ?_
  refine q_iload_n dX5_excluding_2 rfl ?_
  refine t_imul_n dX5_excluding_3 ?_
  refine q_iload_n dX5_excluding_4 rfl ?_
  refine t_iadd_n dX5_excluding_5 ?_
  refine t_istore [.ref o, .int (nI a1), .int (nI a2), .int (nI 0), .int (a4), .int (nI ((8 * a1) + a2)), .retAddr 0, .retAddr 0, .retAddr 0, .retAddr 0] (Or.inr ⟨rfl, dX5_excluding_6⟩) (by decide) rfl ?_
  refine q_aload_n dX5_excluding_8 rfl ?_
  refine q_iload dX5_excluding_9 rfl ?_
  refine q_iconst (v := nI 1) dX5_excluding_11 rfl ?_
  refine v_callV (M' := mX5_setOf) [.int (nI ((8 * a1) + a2)), .int (nI 1)] [] kX5 dX5_excluding_12 wPX5_90v wIX5_setOf wSX5_setOf iX5_setOf oX5_setOf rfl hok H.1 (eX5_setOf_1 Sc Γ n V o ml H hm1 hml ((8 * a1) + a2) (by omega)) (Nat.le_of_ble_eq_true rfl) (Nat.le_of_ble_eq_true rfl) (Nat.le_of_ble_eq_true rfl) rfl (fun h hok => ?_)
  refine t_istore [.ref o, .int (nI a1), .int (nI a2), .int (nI 0), .int (a4), .int (nI ((8 * a1) + a2)), .int (vX5_setOf_1 o ml ((8 * a1) + a2) V), .retAddr 0, .retAddr 0, .retAddr 0] (Or.inr ⟨rfl, dX5_excluding_15⟩) (by decide) rfl ?_
  refine q_aload_n dX5_excluding_17 rfl ?_
  refine q_iload dX5_excluding_18 rfl ?_
  refine q_iconst (v := nI 2) dX5_excluding_20 rfl ?_
  refine v_callV (M' := mX5_setOf) [.int (nI ((8 * a1) + a2)), .int (nI 2)] [] kX5 dX5_excluding_21 wPX5_90v wIX5_setOf wSX5_setOf iX5_setOf oX5_setOf rfl hok H.1 (eX5_setOf_2 Sc Γ n V o ml H hm1 hml ((8 * a1) + a2) (by omega)) (Nat.le_of_ble_eq_true rfl) (Nat.le_of_ble_eq_true rfl) (Nat.le_of_ble_eq_true rfl) rfl (fun h hok => ?_)
  refine t_istore [.ref o, .int (nI a1), .int (nI a2), .int (nI 0), .int (a4), .int (nI ((8 * a1) + a2)), .int (vX5_setOf_1 o ml ((8 * a1) + a2) V), .int (vX5_setOf_2 o ml ((8 * a1) + a2) V), .retAddr 0, .retAddr 0] (Or.inr ⟨rfl, dX5_excluding_24⟩) (by decide) rfl ?_
  refine q_iload dX5_excluding_26 rfl ?_
  refine q_iload dX5_excluding_28 rfl ?_
  refine q_iconst (v := -1) dX5_excluding_30 rfl ?_
  refine q_ixor dX5_excluding_31 ?_
  refine q_iand dX5_excluding_32 ?_
  refine q_iload dX5_excluding_33 rfl ?_
  refine q_iconst (v := -1) dX5_excluding_35 rfl ?_
  refine q_ixor dX5_excluding_36 ?_
  refine q_iand dX5_excluding_37 ?_
  refine t_istore [.ref o, .int (nI a1), .int (nI a2), .int (nI 0), .int (a4), .int (nI ((8 * a1) + a2)), .int (vX5_setOf_1 o ml ((8 * a1) + a2) V), .int (vX5_setOf_2 o ml ((8 * a1) + a2) V), .int (((a4) &&& ((vX5_setOf_1 o ml ((8 * a1) + a2) V) ^^^ (-1))) &&& ((vX5_setOf_2 o ml ((8 * a1) + a2) V) ^^^ (-1))), .retAddr 0] (Or.inr ⟨rfl, dX5_excluding_38⟩) (by decide) rfl ?_
  refine q_aload_n dX5_excluding_40 rfl ?_
  refine v_getr 9 kX5 (by decide) wPX5_31 dX5_excluding_41 hok H.1 rfl ?_
  refine q_iload dX5_excluding_44 rfl ?_
  refine v_iald (by decide) dX5_excluding_46 hok H.2.2.2.2.2.2.2.2.1 (j := (8 * a1) + a2) (by omega) ?_
  refine t_istore [.ref o, .int (nI a1), .int (nI a2), .int (nI 0), .int (a4), .int (nI ((8 * a1) + a2)), .int (vX5_setOf_1 o ml ((8 * a1) + a2) V), .int (vX5_setOf_2 o ml ((8 * a1) + a2) V), .int (((a4) &&& ((vX5_setOf_1 o ml ((8 * a1) + a2) V) ^^^ (-1))) &&& ((vX5_setOf_2 o ml ((8 * a1) + a2) V) ^^^ (-1))), .int (V (o + 8) ((8 * a1) + a2))] (Or.inr ⟨rfl, dX5_excluding_47⟩) (by decide) rfl ?_
  refine q_iload_n dX5_excluding_49 rfl ?_
  refine q_if_eq (tgt := 63) dX5_excluding_50 (by decide) (fun _ => ?_) (fun q => absurd q (by decide))
  refine q_aload_n dX5_excluding_63 rfl ?_
  refine q_iload dX5_excluding_64 rfl ?_
  refine q_iconst (v := nI 1) dX5_excluding_66 rfl ?_
  refine q_iload dX5_excluding_67 rfl ?_
  refine q_iload dX5_excluding_69 rfl ?_
  refine q_ior dX5_excluding_71 ?_
  refine q_iload dX5_excluding_72 rfl ?_
  refine q_iload dX5_excluding_74 rfl ?_
  refine q_iconst (v := -1) dX5_excluding_76 rfl ?_
  refine q_ixor dX5_excluding_77 ?_
  refine q_iand dX5_excluding_78 ?_
  refine v_callV (M' := mX5_become) [.int (nI ((8 * a1) + a2)), .int (nI 1), .int ((vX5_setOf_1 o ml ((8 * a1) + a2) V) ||| (a4)), .int ((vX5_setOf_2 o ml ((8 * a1) + a2) V) &&& ((a4) ^^^ (-1)))] [] kX5 dX5_excluding_79 wPX5_94v wIX5_become wSX5_become iX5_become oX5_become rfl hok H.1 (eX5_become_1 Sc Γ n V o ml H hm1 hml ((8 * a1) + a2) (by omega) ((vX5_setOf_1 o ml ((8 * a1) + a2) V) ||| (a4)) ((vX5_setOf_2 o ml ((8 * a1) + a2) V) &&& ((a4) ^^^ (-1)))) (Nat.le_of_ble_eq_true rfl) (Nat.le_of_ble_eq_true rfl) (Nat.le_of_ble_eq_true rfl) rfl (fun h hok => ?_)
  refine q_aload_n dX5_excluding_82 rfl ?_
  refine q_iload dX5_excluding_83 rfl ?_
  refine q_iload dX5_excluding_85 rfl ?_
  refine q_aload_n dX5_excluding_87 rfl ?_
  refine q_iload_n dX5_excluding_88 rfl ?_
  refine v_callV (M' := mX5_grace) [.int (nI a1)] [.int (a4), .int (nI ((8 * a1) + a2)), .ref o] kX5 dX5_excluding_89 wPX5_98v wIX5_grace wSX5_grace iX5_grace oX5_grace rfl hok H.1 (eX5_grace Sc Γ n (fX5_become_1 o ml ((8 * a1) + a2) ((vX5_setOf_1 o ml ((8 * a1) + a2) V) ||| (a4)) ((vX5_setOf_2 o ml ((8 * a1) + a2) V) &&& ((a4) ^^^ (-1))) V) o ml H hm1 hml a1 (by omega)) (Nat.le_of_ble_eq_true rfl) (Nat.le_of_ble_eq_true rfl) (Nat.le_of_ble_eq_true rfl) rfl (fun h hok => ?_)
  refine v_callV (M' := mX5_setTimers) [.int (nI ((8 * a1) + a2)), .int (a4), .int (vX5_grace o ml a1 (fX5_become_1 o ml ((8 * a1) + a2) ((vX5_setOf_1 o ml ((8 * a1) + a2) V) ||| (a4)) ((vX5_setOf_2 o ml ((8 * a1) + a2) V) &&& ((a4) ^^^ (-1))) V))] [] kX5 dX5_excluding_92 wPX5_102v wIX5_setTimers wSX5_setTimers iX5_setTimers oX5_setTimers rfl hok H.1 (eX5_setTimers Sc Γ n (fX5_become_1 o ml ((8 * a1) + a2) ((vX5_setOf_1 o ml ((8 * a1) + a2) V) ||| (a4)) ((vX5_setOf_2 o ml ((8 * a1) + a2) V) &&& ((a4) ^^^ (-1))) V) o ml H hm1 hml ((8 * a1) + a2) (by omega) a4 (vX5_grace o ml a1 (fX5_become_1 o ml ((8 * a1) + a2) ((vX5_setOf_1 o ml ((8 * a1) + a2) V) ||| (a4)) ((vX5_setOf_2 o ml ((8 * a1) + a2) V) &&& ((a4) ^^^ (-1))) V))) (Nat.le_of_ble_eq_true rfl) (Nat.le_of_ble_eq_true rfl) (Nat.le_of_ble_eq_true rfl) rfl (fun h hok => ?_)
  refine q_goto (tgt := 189) dX5_excluding_95 (by decide) ?_
  refine q_iload_n dX5_excluding_189 rfl ?_
  refine q_iconst (v := nI 2) dX5_excluding_190 rfl ?_
  refine q_icmp_ne (tgt := 216) dX5_excluding_191 (by decide) (fun _ => ?_) (fun q => absurd q (by decide))
  refine q_iload_n dX5_excluding_216 rfl ?_
  refine q_iconst (v := nI 3) dX5_excluding_217 rfl ?_
  refine q_icmp_eq (tgt := 226) dX5_excluding_218 (by decide) (fun q => absurd q (by decide)) (fun _ => ?_)
  refine q_iload_n dX5_excluding_221 rfl ?_
  refine q_iconst (v := nI 5) dX5_excluding_222 rfl ?_
  refine q_icmp_ne (tgt := 239) dX5_excluding_223 (by decide) (fun _ => ?_) (fun q => absurd q (by decide))
  exact q_vret dX5_excluding_239 rfl (hQ _ _ (rfl) (by dsimp only [fX5_excluding_0]; exact hok))
theorem SX5_excluding_0 (o ml : Nat) (a1 : Nat) (a2 : Nat) (a4 : Int32) {V : q_V} {b : Nat} (hS : SB V o b) (hb : b + 2 ≤ 2000000000) : SB (fX5_excluding_0 o ml a1 a2 a4 V) o (b + 2) := by
  dsimp only [fX5_excluding_0]
  exact SB.mo (SX5_setTimers o ml ((8 * a1) + a2) a4 (vX5_grace o ml a1 (fX5_become_1 o ml ((8 * a1) + a2) ((vX5_setOf_1 o ml ((8 * a1) + a2) V) ||| (a4)) ((vX5_setOf_2 o ml ((8 * a1) + a2) V) &&& ((a4) ^^^ (-1))) V)) (SX5_become_1 o ml ((8 * a1) + a2) ((vX5_setOf_1 o ml ((8 * a1) + a2) V) ||| (a4)) ((vX5_setOf_2 o ml ((8 * a1) + a2) V) &&& ((a4) ^^^ (-1))) hS)) (by omega)
def fX5_excluding_1 (o ml : Nat) (a1 : Nat) (a2 : Nat) (a4 : Int32) (V : q_V) : q_V := let V248 := fX5_become_1 o ml ((8 * a1) + a2) ((a4) &&& ((vX5_setOf_2 o ml ((8 * a1) + a2) V) ^^^ (-1))) ((vX5_setOf_2 o ml ((8 * a1) + a2) V) &&& (a4)) V; let V249 := fX5_setTimers o ml ((8 * a1) + a2) (((a4) &&& ((vX5_setOf_1 o ml ((8 * a1) + a2) V) ^^^ (-1))) &&& ((vX5_setOf_2 o ml ((8 * a1) + a2) V) ^^^ (-1))) (vX5_grace o ml a1 V248) V248; let V250 := vset V249 (o + 8) ((8 * a1) + a2) (vX5_grace o ml a1 V249); V250
set_option maxRecDepth 20000 in
set_option maxHeartbeats 4000000 in
theorem eX5_excluding_1 (Sc : q_S) (Γ : Nat → q_K) (n : Nat) (V : q_V) (o ml : Nat) (H : sM Γ o ml) (hm1 : 1 ≤ ml) (hml : ml ≤ 4) (a1 : Nat) (b1 : a1 < 4) (a2 : Nat) (b2 : a2 < 8) (a4 : Int32) (b : Nat) (hb : b + 2 ≤ 2000000000) (hS : SB V o b) : q_fn Sc Γ mX5_excluding [.ref o, .int (nI a1), .int (nI a2), .int (nI 1), .int (a4)] n V none (fX5_excluding_1 o ml a1 a2 a4 V) := by
  refine q_fn.of fun Q h hQ hok => ?_
  show q_A Sc mX5_excluding 0 [.ref o, .int (nI a1), .int (nI a2), .int (nI 1), .int (a4), .retAddr 0, .retAddr 0, .retAddr 0, .retAddr 0, .retAddr 0] [] h n 0 0 Q
  refine q_bipush (v := nI 8) dX5_excluding_0 rfl ?_
  refine q_iload_n dX5_excluding_2 rfl ?_
  refine t_imul_n dX5_excluding_3 ?_
  refine q_iload_n dX5_excluding_4 rfl ?_
  refine t_iadd_n dX5_excluding_5 ?_
  refine t_istore [.ref o, .int (nI a1), .int (nI a2), .int (nI 1), .int (a4), .int (nI ((8 * a1) + a2)), .retAddr 0, .retAddr 0, .retAddr 0, .retAddr 0] (Or.inr ⟨rfl, dX5_excluding_6⟩) (by decide) rfl ?_
  refine q_aload_n dX5_excluding_8 rfl ?_
  refine q_iload dX5_excluding_9 rfl ?_
  refine q_iconst (v := nI 1) dX5_excluding_11 rfl ?_
  refine v_callV (M' := mX5_setOf) [.int (nI ((8 * a1) + a2)), .int (nI 1)] [] kX5 dX5_excluding_12 wPX5_90v wIX5_setOf wSX5_setOf iX5_setOf oX5_setOf rfl hok H.1 (eX5_setOf_1 Sc Γ n V o ml H hm1 hml ((8 * a1) + a2) (by omega)) (Nat.le_of_ble_eq_true rfl) (Nat.le_of_ble_eq_true rfl) (Nat.le_of_ble_eq_true rfl) rfl (fun h hok => ?_)
  refine t_istore [.ref o, .int (nI a1), .int (nI a2), .int (nI 1), .int (a4), .int (nI ((8 * a1) + a2)), .int (vX5_setOf_1 o ml ((8 * a1) + a2) V), .retAddr 0, .retAddr 0, .retAddr 0] (Or.inr ⟨rfl, dX5_excluding_15⟩) (by decide) rfl ?_
  refine q_aload_n dX5_excluding_17 rfl ?_
  refine q_iload dX5_excluding_18 rfl ?_
  refine q_iconst (v := nI 2) dX5_excluding_20 rfl ?_
  refine v_callV (M' := mX5_setOf) [.int (nI ((8 * a1) + a2)), .int (nI 2)] [] kX5 dX5_excluding_21 wPX5_90v wIX5_setOf wSX5_setOf iX5_setOf oX5_setOf rfl hok H.1 (eX5_setOf_2 Sc Γ n V o ml H hm1 hml ((8 * a1) + a2) (by omega)) (Nat.le_of_ble_eq_true rfl) (Nat.le_of_ble_eq_true rfl) (Nat.le_of_ble_eq_true rfl) rfl (fun h hok => ?_)
  refine t_istore [.ref o, .int (nI a1), .int (nI a2), .int (nI 1), .int (a4), .int (nI ((8 * a1) + a2)), .int (vX5_setOf_1 o ml ((8 * a1) + a2) V), .int (vX5_setOf_2 o ml ((8 * a1) + a2) V), .retAddr 0, .retAddr 0] (Or.inr ⟨rfl, dX5_excluding_24⟩) (by decide) rfl ?_
  refine q_iload dX5_excluding_26 rfl ?_
  refine q_iload dX5_excluding_28 rfl ?_
  refine q_iconst (v := -1) dX5_excluding_30 rfl ?_
  refine q_ixor dX5_excluding_31 ?_
  refine q_iand dX5_excluding_32 ?_
  refine q_iload dX5_excluding_33 rfl ?_
  refine q_iconst (v := -1) dX5_excluding_35 rfl ?_
  refine q_ixor dX5_excluding_36 ?_
  refine q_iand dX5_excluding_37 ?_
  refine t_istore [.ref o, .int (nI a1), .int (nI a2), .int (nI 1), .int (a4), .int (nI ((8 * a1) + a2)), .int (vX5_setOf_1 o ml ((8 * a1) + a2) V), .int (vX5_setOf_2 o ml ((8 * a1) + a2) V), .int (((a4) &&& ((vX5_setOf_1 o ml ((8 * a1) + a2) V) ^^^ (-1))) &&& ((vX5_setOf_2 o ml ((8 * a1) + a2) V) ^^^ (-1))), .retAddr 0] (Or.inr ⟨rfl, dX5_excluding_38⟩) (by decide) rfl ?_
  refine q_aload_n dX5_excluding_40 rfl ?_
  refine v_getr 9 kX5 (by decide) wPX5_31 dX5_excluding_41 hok H.1 rfl ?_
  refine q_iload dX5_excluding_44 rfl ?_
  refine v_iald (by decide) dX5_excluding_46 hok H.2.2.2.2.2.2.2.2.1 (j := (8 * a1) + a2) (by omega) ?_
  refine t_istore [.ref o, .int (nI a1), .int (nI a2), .int (nI 1), .int (a4), .int (nI ((8 * a1) + a2)), .int (vX5_setOf_1 o ml ((8 * a1) + a2) V), .int (vX5_setOf_2 o ml ((8 * a1) + a2) V), .int (((a4) &&& ((vX5_setOf_1 o ml ((8 * a1) + a2) V) ^^^ (-1))) &&& ((vX5_setOf_2 o ml ((8 * a1) + a2) V) ^^^ (-1))), .int (V (o + 8) ((8 * a1) + a2))] (Or.inr ⟨rfl, dX5_excluding_47⟩) (by decide) rfl ?_
  refine q_iload_n dX5_excluding_49 rfl ?_
  refine q_if_eq (tgt := 63) dX5_excluding_50 (by decide) (fun q => absurd q (by decide)) (fun _ => ?_)
  refine q_iload_n dX5_excluding_53 rfl ?_
  refine q_iconst (v := nI 4) dX5_excluding_54 rfl ?_
  refine q_icmp_eq (tgt := 63) dX5_excluding_55 (by decide) (fun q => absurd q (by decide)) (fun _ => ?_)
  refine q_iload_n dX5_excluding_58 rfl ?_
  refine q_iconst (v := nI 2) dX5_excluding_59 rfl ?_
  refine q_icmp_ne (tgt := 98) dX5_excluding_60 (by decide) (fun _ => ?_) (fun q => absurd q (by decide))
  refine q_iload_n dX5_excluding_98 rfl ?_
  refine q_iconst (v := nI 5) dX5_excluding_99 rfl ?_
  refine q_icmp_ne (tgt := 135) dX5_excluding_100 (by decide) (fun _ => ?_) (fun q => absurd q (by decide))
  refine q_aload_n dX5_excluding_135 rfl ?_
  refine q_iload dX5_excluding_136 rfl ?_
  refine q_iconst (v := nI 1) dX5_excluding_138 rfl ?_
  refine q_iload dX5_excluding_139 rfl ?_
  refine q_iload dX5_excluding_141 rfl ?_
  refine q_iconst (v := -1) dX5_excluding_143 rfl ?_
  refine q_ixor dX5_excluding_144 ?_
  refine q_iand dX5_excluding_145 ?_
  refine q_iload dX5_excluding_146 rfl ?_
  refine q_iload dX5_excluding_148 rfl ?_
  refine q_iand dX5_excluding_150 ?_
  refine v_callV (M' := mX5_become) [.int (nI ((8 * a1) + a2)), .int (nI 1), .int ((a4) &&& ((vX5_setOf_2 o ml ((8 * a1) + a2) V) ^^^ (-1))), .int ((vX5_setOf_2 o ml ((8 * a1) + a2) V) &&& (a4))] [] kX5 dX5_excluding_151 wPX5_94v wIX5_become wSX5_become iX5_become oX5_become rfl hok H.1 (eX5_become_1 Sc Γ n V o ml H hm1 hml ((8 * a1) + a2) (by omega) ((a4) &&& ((vX5_setOf_2 o ml ((8 * a1) + a2) V) ^^^ (-1))) ((vX5_setOf_2 o ml ((8 * a1) + a2) V) &&& (a4))) (Nat.le_of_ble_eq_true rfl) (Nat.le_of_ble_eq_true rfl) (Nat.le_of_ble_eq_true rfl) rfl (fun h hok => ?_)
  refine q_aload_n dX5_excluding_154 rfl ?_
  refine q_iload dX5_excluding_155 rfl ?_
  refine q_iload dX5_excluding_157 rfl ?_
  refine q_iload_n dX5_excluding_159 rfl ?_
  refine q_iconst (v := nI 1) dX5_excluding_160 rfl ?_
  refine q_icmp_ne (tgt := 172) dX5_excluding_161 (by decide) (fun q => absurd q (by decide)) (fun _ => ?_)
  refine q_aload_n dX5_excluding_164 rfl ?_
  refine q_iload_n dX5_excluding_165 rfl ?_
  refine v_callV (M' := mX5_grace) [.int (nI a1)] [.int (((a4) &&& ((vX5_setOf_1 o ml ((8 * a1) + a2) V) ^^^ (-1))) &&& ((vX5_setOf_2 o ml ((8 * a1) + a2) V) ^^^ (-1))), .int (nI ((8 * a1) + a2)), .ref o] kX5 dX5_excluding_166 wPX5_98v wIX5_grace wSX5_grace iX5_grace oX5_grace rfl hok H.1 (eX5_grace Sc Γ n (fX5_become_1 o ml ((8 * a1) + a2) ((a4) &&& ((vX5_setOf_2 o ml ((8 * a1) + a2) V) ^^^ (-1))) ((vX5_setOf_2 o ml ((8 * a1) + a2) V) &&& (a4)) V) o ml H hm1 hml a1 (by omega)) (Nat.le_of_ble_eq_true rfl) (Nat.le_of_ble_eq_true rfl) (Nat.le_of_ble_eq_true rfl) rfl (fun h hok => ?_)
  refine q_goto (tgt := 174) dX5_excluding_169 (by decide) ?_
  refine v_callV (M' := mX5_setTimers) [.int (nI ((8 * a1) + a2)), .int (((a4) &&& ((vX5_setOf_1 o ml ((8 * a1) + a2) V) ^^^ (-1))) &&& ((vX5_setOf_2 o ml ((8 * a1) + a2) V) ^^^ (-1))), .int (vX5_grace o ml a1 (fX5_become_1 o ml ((8 * a1) + a2) ((a4) &&& ((vX5_setOf_2 o ml ((8 * a1) + a2) V) ^^^ (-1))) ((vX5_setOf_2 o ml ((8 * a1) + a2) V) &&& (a4)) V))] [] kX5 dX5_excluding_174 wPX5_102v wIX5_setTimers wSX5_setTimers iX5_setTimers oX5_setTimers rfl hok H.1 (eX5_setTimers Sc Γ n (fX5_become_1 o ml ((8 * a1) + a2) ((a4) &&& ((vX5_setOf_2 o ml ((8 * a1) + a2) V) ^^^ (-1))) ((vX5_setOf_2 o ml ((8 * a1) + a2) V) &&& (a4)) V) o ml H hm1 hml ((8 * a1) + a2) (by omega) (((a4) &&& ((vX5_setOf_1 o ml ((8 * a1) + a2) V) ^^^ (-1))) &&& ((vX5_setOf_2 o ml ((8 * a1) + a2) V) ^^^ (-1))) (vX5_grace o ml a1 (fX5_become_1 o ml ((8 * a1) + a2) ((a4) &&& ((vX5_setOf_2 o ml ((8 * a1) + a2) V) ^^^ (-1))) ((vX5_setOf_2 o ml ((8 * a1) + a2) V) &&& (a4)) V))) (Nat.le_of_ble_eq_true rfl) (Nat.le_of_ble_eq_true rfl) (Nat.le_of_ble_eq_true rfl) rfl (fun h hok => ?_)
  refine q_aload_n dX5_excluding_177 rfl ?_
  refine v_getr 9 kX5 (by decide) wPX5_31 dX5_excluding_178 hok H.1 rfl ?_
  refine q_iload dX5_excluding_181 rfl ?_
  refine q_aload_n dX5_excluding_183 rfl ?_
  refine q_iload_n dX5_excluding_184 rfl ?_
  refine v_callV (M' := mX5_grace) [.int (nI a1)] [.int (nI ((8 * a1) + a2)), .ref (o + 8)] kX5 dX5_excluding_185 wPX5_98v wIX5_grace wSX5_grace iX5_grace oX5_grace rfl hok H.1 (eX5_grace Sc Γ n (fX5_setTimers o ml ((8 * a1) + a2) (((a4) &&& ((vX5_setOf_1 o ml ((8 * a1) + a2) V) ^^^ (-1))) &&& ((vX5_setOf_2 o ml ((8 * a1) + a2) V) ^^^ (-1))) (vX5_grace o ml a1 (fX5_become_1 o ml ((8 * a1) + a2) ((a4) &&& ((vX5_setOf_2 o ml ((8 * a1) + a2) V) ^^^ (-1))) ((vX5_setOf_2 o ml ((8 * a1) + a2) V) &&& (a4)) V)) (fX5_become_1 o ml ((8 * a1) + a2) ((a4) &&& ((vX5_setOf_2 o ml ((8 * a1) + a2) V) ^^^ (-1))) ((vX5_setOf_2 o ml ((8 * a1) + a2) V) &&& (a4)) V)) o ml H hm1 hml a1 (by omega)) (Nat.le_of_ble_eq_true rfl) (Nat.le_of_ble_eq_true rfl) (Nat.le_of_ble_eq_true rfl) rfl (fun h hok => ?_)
  refine v_iast (by decide) dX5_excluding_188 hok H.2.2.2.2.2.2.2.2.1 (j := (8 * a1) + a2) (by omega) (fun h hok => ?_)
  refine q_iload_n dX5_excluding_189 rfl ?_
  refine q_iconst (v := nI 2) dX5_excluding_190 rfl ?_
  refine q_icmp_ne (tgt := 216) dX5_excluding_191 (by decide) (fun _ => ?_) (fun q => absurd q (by decide))
  refine q_iload_n dX5_excluding_216 rfl ?_
  refine q_iconst (v := nI 3) dX5_excluding_217 rfl ?_
  refine q_icmp_eq (tgt := 226) dX5_excluding_218 (by decide) (fun q => absurd q (by decide)) (fun _ => ?_)
  refine q_iload_n dX5_excluding_221 rfl ?_
  refine q_iconst (v := nI 5) dX5_excluding_222 rfl ?_
  refine q_icmp_ne (tgt := 239) dX5_excluding_223 (by decide) (fun _ => ?_) (fun q => absurd q (by decide))
  exact q_vret dX5_excluding_239 rfl (hQ _ _ (rfl) (by dsimp only [fX5_excluding_1]; exact hok))
theorem SX5_excluding_1 (o ml : Nat) (a1 : Nat) (a2 : Nat) (a4 : Int32) {V : q_V} {b : Nat} (hS : SB V o b) (hb : b + 2 ≤ 2000000000) : SB (fX5_excluding_1 o ml a1 a2 a4 V) o (b + 2) := by
  dsimp only [fX5_excluding_1]
  exact SB.mo (SB.vs (SX5_setTimers o ml ((8 * a1) + a2) (((a4) &&& ((vX5_setOf_1 o ml ((8 * a1) + a2) V) ^^^ (-1))) &&& ((vX5_setOf_2 o ml ((8 * a1) + a2) V) ^^^ (-1))) (vX5_grace o ml a1 (fX5_become_1 o ml ((8 * a1) + a2) ((a4) &&& ((vX5_setOf_2 o ml ((8 * a1) + a2) V) ^^^ (-1))) ((vX5_setOf_2 o ml ((8 * a1) + a2) V) &&& (a4)) V)) (SX5_become_1 o ml ((8 * a1) + a2) ((a4) &&& ((vX5_setOf_2 o ml ((8 * a1) + a2) V) ^^^ (-1))) ((vX5_setOf_2 o ml ((8 * a1) + a2) V) &&& (a4)) hS)) (by first | exact Or.inr (by decide) | exact Or.inl (by omega))) (by omega)
def fX5_excluding_2 (o ml : Nat) (a1 : Nat) (a2 : Nat) (a4 : Int32) (V : q_V) : q_V := let V251 := fX5_become_1 o ml ((8 * a1) + a2) ((vX5_setOf_1 o ml ((8 * a1) + a2) V) ||| (a4)) ((vX5_setOf_2 o ml ((8 * a1) + a2) V) &&& ((a4) ^^^ (-1))) V; let V252 := fX5_setTimers o ml ((8 * a1) + a2) a4 (vX5_grace o ml a1 V251) V251; let V253 := fX5_ask o ml a1 a2 ((vX5_setOf_1 o ml ((8 * a1) + a2) V) &&& ((a4) ^^^ (-1))) V252; let V254 := fX5_askGroup o ml a1 a2 V253; V254
set_option maxRecDepth 20000 in
set_option maxHeartbeats 4000000 in
theorem eX5_excluding_2 (Sc : q_S) (Γ : Nat → q_K) (n : Nat) (V : q_V) (o ml : Nat) (H : sM Γ o ml) (hm1 : 1 ≤ ml) (hml : ml ≤ 4) (a1 : Nat) (b1 : a1 < 4) (a2 : Nat) (b2 : a2 < 8) (a4 : Int32) (b : Nat) (hb : b + 2 ≤ 2000000000) (hS : SB V o b) : q_fn Sc Γ mX5_excluding [.ref o, .int (nI a1), .int (nI a2), .int (nI 2), .int (a4)] n V none (fX5_excluding_2 o ml a1 a2 a4 V) := by
  refine q_fn.of fun Q h hQ hok => ?_
  show q_A Sc mX5_excluding 0 [.ref o, .int (nI a1), .int (nI a2), .int (nI 2), .int (a4), .retAddr 0, .retAddr 0, .retAddr 0, .retAddr 0, .retAddr 0] [] h n 0 0 Q
  refine q_bipush (v := nI 8) dX5_excluding_0 rfl ?_
  refine q_iload_n dX5_excluding_2 rfl ?_
  refine t_imul_n dX5_excluding_3 ?_
  refine q_iload_n dX5_excluding_4 rfl ?_
  refine t_iadd_n dX5_excluding_5 ?_
  refine t_istore [.ref o, .int (nI a1), .int (nI a2), .int (nI 2), .int (a4), .int (nI ((8 * a1) + a2)), .retAddr 0, .retAddr 0, .retAddr 0, .retAddr 0] (Or.inr ⟨rfl, dX5_excluding_6⟩) (by decide) rfl ?_
  refine q_aload_n dX5_excluding_8 rfl ?_
  refine q_iload dX5_excluding_9 rfl ?_
  refine q_iconst (v := nI 1) dX5_excluding_11 rfl ?_
  refine v_callV (M' := mX5_setOf) [.int (nI ((8 * a1) + a2)), .int (nI 1)] [] kX5 dX5_excluding_12 wPX5_90v wIX5_setOf wSX5_setOf iX5_setOf oX5_setOf rfl hok H.1 (eX5_setOf_1 Sc Γ n V o ml H hm1 hml ((8 * a1) + a2) (by omega)) (Nat.le_of_ble_eq_true rfl) (Nat.le_of_ble_eq_true rfl) (Nat.le_of_ble_eq_true rfl) rfl (fun h hok => ?_)
  refine t_istore [.ref o, .int (nI a1), .int (nI a2), .int (nI 2), .int (a4), .int (nI ((8 * a1) + a2)), .int (vX5_setOf_1 o ml ((8 * a1) + a2) V), .retAddr 0, .retAddr 0, .retAddr 0] (Or.inr ⟨rfl, dX5_excluding_15⟩) (by decide) rfl ?_
  refine q_aload_n dX5_excluding_17 rfl ?_
  refine q_iload dX5_excluding_18 rfl ?_
  refine q_iconst (v := nI 2) dX5_excluding_20 rfl ?_
  refine v_callV (M' := mX5_setOf) [.int (nI ((8 * a1) + a2)), .int (nI 2)] [] kX5 dX5_excluding_21 wPX5_90v wIX5_setOf wSX5_setOf iX5_setOf oX5_setOf rfl hok H.1 (eX5_setOf_2 Sc Γ n V o ml H hm1 hml ((8 * a1) + a2) (by omega)) (Nat.le_of_ble_eq_true rfl) (Nat.le_of_ble_eq_true rfl) (Nat.le_of_ble_eq_true rfl) rfl (fun h hok => ?_)
  refine t_istore [.ref o, .int (nI a1), .int (nI a2), .int (nI 2), .int (a4), .int (nI ((8 * a1) + a2)), .int (vX5_setOf_1 o ml ((8 * a1) + a2) V), .int (vX5_setOf_2 o ml ((8 * a1) + a2) V), .retAddr 0, .retAddr 0] (Or.inr ⟨rfl, dX5_excluding_24⟩) (by decide) rfl ?_
  refine q_iload dX5_excluding_26 rfl ?_
  refine q_iload dX5_excluding_28 rfl ?_
  refine q_iconst (v := -1) dX5_excluding_30 rfl ?_
  refine q_ixor dX5_excluding_31 ?_
  refine q_iand dX5_excluding_32 ?_
  refine q_iload dX5_excluding_33 rfl ?_
  refine q_iconst (v := -1) dX5_excluding_35 rfl ?_
  refine q_ixor dX5_excluding_36 ?_
  refine q_iand dX5_excluding_37 ?_
  refine t_istore [.ref o, .int (nI a1), .int (nI a2), .int (nI 2), .int (a4), .int (nI ((8 * a1) + a2)), .int (vX5_setOf_1 o ml ((8 * a1) + a2) V), .int (vX5_setOf_2 o ml ((8 * a1) + a2) V), .int (((a4) &&& ((vX5_setOf_1 o ml ((8 * a1) + a2) V) ^^^ (-1))) &&& ((vX5_setOf_2 o ml ((8 * a1) + a2) V) ^^^ (-1))), .retAddr 0] (Or.inr ⟨rfl, dX5_excluding_38⟩) (by decide) rfl ?_
  refine q_aload_n dX5_excluding_40 rfl ?_
  refine v_getr 9 kX5 (by decide) wPX5_31 dX5_excluding_41 hok H.1 rfl ?_
  refine q_iload dX5_excluding_44 rfl ?_
  refine v_iald (by decide) dX5_excluding_46 hok H.2.2.2.2.2.2.2.2.1 (j := (8 * a1) + a2) (by omega) ?_
  refine t_istore [.ref o, .int (nI a1), .int (nI a2), .int (nI 2), .int (a4), .int (nI ((8 * a1) + a2)), .int (vX5_setOf_1 o ml ((8 * a1) + a2) V), .int (vX5_setOf_2 o ml ((8 * a1) + a2) V), .int (((a4) &&& ((vX5_setOf_1 o ml ((8 * a1) + a2) V) ^^^ (-1))) &&& ((vX5_setOf_2 o ml ((8 * a1) + a2) V) ^^^ (-1))), .int (V (o + 8) ((8 * a1) + a2))] (Or.inr ⟨rfl, dX5_excluding_47⟩) (by decide) rfl ?_
  refine q_iload_n dX5_excluding_49 rfl ?_
  refine q_if_eq (tgt := 63) dX5_excluding_50 (by decide) (fun q => absurd q (by decide)) (fun _ => ?_)
  refine q_iload_n dX5_excluding_53 rfl ?_
  refine q_iconst (v := nI 4) dX5_excluding_54 rfl ?_
  refine q_icmp_eq (tgt := 63) dX5_excluding_55 (by decide) (fun q => absurd q (by decide)) (fun _ => ?_)
  refine q_iload_n dX5_excluding_58 rfl ?_
  refine q_iconst (v := nI 2) dX5_excluding_59 rfl ?_
  refine q_icmp_ne (tgt := 98) dX5_excluding_60 (by decide) (fun q => absurd q (by decide)) (fun _ => ?_)
  refine q_aload_n dX5_excluding_63 rfl ?_
  refine q_iload dX5_excluding_64 rfl ?_
  refine q_iconst (v := nI 1) dX5_excluding_66 rfl ?_
  refine q_iload dX5_excluding_67 rfl ?_
  refine q_iload dX5_excluding_69 rfl ?_
  refine q_ior dX5_excluding_71 ?_
  refine q_iload dX5_excluding_72 rfl ?_
  refine q_iload dX5_excluding_74 rfl ?_
  refine q_iconst (v := -1) dX5_excluding_76 rfl ?_
  refine q_ixor dX5_excluding_77 ?_
  refine q_iand dX5_excluding_78 ?_
  refine v_callV (M' := mX5_become) [.int (nI ((8 * a1) + a2)), .int (nI 1), .int ((vX5_setOf_1 o ml ((8 * a1) + a2) V) ||| (a4)), .int ((vX5_setOf_2 o ml ((8 * a1) + a2) V) &&& ((a4) ^^^ (-1)))] [] kX5 dX5_excluding_79 wPX5_94v wIX5_become wSX5_become iX5_become oX5_become rfl hok H.1 (eX5_become_1 Sc Γ n V o ml H hm1 hml ((8 * a1) + a2) (by omega) ((vX5_setOf_1 o ml ((8 * a1) + a2) V) ||| (a4)) ((vX5_setOf_2 o ml ((8 * a1) + a2) V) &&& ((a4) ^^^ (-1)))) (Nat.le_of_ble_eq_true rfl) (Nat.le_of_ble_eq_true rfl) (Nat.le_of_ble_eq_true rfl) rfl (fun h hok => ?_)
  refine q_aload_n dX5_excluding_82 rfl ?_
  refine q_iload dX5_excluding_83 rfl ?_
  refine q_iload dX5_excluding_85 rfl ?_
  refine q_aload_n dX5_excluding_87 rfl ?_
  refine q_iload_n dX5_excluding_88 rfl ?_
  refine v_callV (M' := mX5_grace) [.int (nI a1)] [.int (a4), .int (nI ((8 * a1) + a2)), .ref o] kX5 dX5_excluding_89 wPX5_98v wIX5_grace wSX5_grace iX5_grace oX5_grace rfl hok H.1 (eX5_grace Sc Γ n (fX5_become_1 o ml ((8 * a1) + a2) ((vX5_setOf_1 o ml ((8 * a1) + a2) V) ||| (a4)) ((vX5_setOf_2 o ml ((8 * a1) + a2) V) &&& ((a4) ^^^ (-1))) V) o ml H hm1 hml a1 (by omega)) (Nat.le_of_ble_eq_true rfl) (Nat.le_of_ble_eq_true rfl) (Nat.le_of_ble_eq_true rfl) rfl (fun h hok => ?_)
  refine v_callV (M' := mX5_setTimers) [.int (nI ((8 * a1) + a2)), .int (a4), .int (vX5_grace o ml a1 (fX5_become_1 o ml ((8 * a1) + a2) ((vX5_setOf_1 o ml ((8 * a1) + a2) V) ||| (a4)) ((vX5_setOf_2 o ml ((8 * a1) + a2) V) &&& ((a4) ^^^ (-1))) V))] [] kX5 dX5_excluding_92 wPX5_102v wIX5_setTimers wSX5_setTimers iX5_setTimers oX5_setTimers rfl hok H.1 (eX5_setTimers Sc Γ n (fX5_become_1 o ml ((8 * a1) + a2) ((vX5_setOf_1 o ml ((8 * a1) + a2) V) ||| (a4)) ((vX5_setOf_2 o ml ((8 * a1) + a2) V) &&& ((a4) ^^^ (-1))) V) o ml H hm1 hml ((8 * a1) + a2) (by omega) a4 (vX5_grace o ml a1 (fX5_become_1 o ml ((8 * a1) + a2) ((vX5_setOf_1 o ml ((8 * a1) + a2) V) ||| (a4)) ((vX5_setOf_2 o ml ((8 * a1) + a2) V) &&& ((a4) ^^^ (-1))) V))) (Nat.le_of_ble_eq_true rfl) (Nat.le_of_ble_eq_true rfl) (Nat.le_of_ble_eq_true rfl) rfl (fun h hok => ?_)
  refine q_goto (tgt := 189) dX5_excluding_95 (by decide) ?_
  refine q_iload_n dX5_excluding_189 rfl ?_
  refine q_iconst (v := nI 2) dX5_excluding_190 rfl ?_
  refine q_icmp_ne (tgt := 216) dX5_excluding_191 (by decide) (fun q => absurd q (by decide)) (fun _ => ?_)
  refine q_aload_n dX5_excluding_194 rfl ?_
  refine q_iload_n dX5_excluding_195 rfl ?_
  refine q_iload_n dX5_excluding_196 rfl ?_
  refine q_iload dX5_excluding_197 rfl ?_
  refine q_iload dX5_excluding_199 rfl ?_
  refine q_iconst (v := -1) dX5_excluding_201 rfl ?_
  refine q_ixor dX5_excluding_202 ?_
  refine q_iand dX5_excluding_203 ?_
  refine v_callV (M' := mX5_ask) [.int (nI a1), .int (nI a2), .int ((vX5_setOf_1 o ml ((8 * a1) + a2) V) &&& ((a4) ^^^ (-1)))] [] kX5 dX5_excluding_204 wPX5_105v wIX5_ask wSX5_ask iX5_ask oX5_ask rfl hok H.1 (eX5_ask Sc Γ n (fX5_setTimers o ml ((8 * a1) + a2) a4 (vX5_grace o ml a1 (fX5_become_1 o ml ((8 * a1) + a2) ((vX5_setOf_1 o ml ((8 * a1) + a2) V) ||| (a4)) ((vX5_setOf_2 o ml ((8 * a1) + a2) V) &&& ((a4) ^^^ (-1))) V)) (fX5_become_1 o ml ((8 * a1) + a2) ((vX5_setOf_1 o ml ((8 * a1) + a2) V) ||| (a4)) ((vX5_setOf_2 o ml ((8 * a1) + a2) V) &&& ((a4) ^^^ (-1))) V)) o ml H hm1 hml a1 (by omega) a2 (by omega) ((vX5_setOf_1 o ml ((8 * a1) + a2) V) &&& ((a4) ^^^ (-1))) (b) (by omega) (SX5_setTimers o ml ((8 * a1) + a2) a4 (vX5_grace o ml a1 (fX5_become_1 o ml ((8 * a1) + a2) ((vX5_setOf_1 o ml ((8 * a1) + a2) V) ||| (a4)) ((vX5_setOf_2 o ml ((8 * a1) + a2) V) &&& ((a4) ^^^ (-1))) V)) (SX5_become_1 o ml ((8 * a1) + a2) ((vX5_setOf_1 o ml ((8 * a1) + a2) V) ||| (a4)) ((vX5_setOf_2 o ml ((8 * a1) + a2) V) &&& ((a4) ^^^ (-1))) hS))) (Nat.le_of_ble_eq_true rfl) (Nat.le_of_ble_eq_true rfl) (Nat.le_of_ble_eq_true rfl) rfl (fun h hok => ?_)
  refine q_aload_n dX5_excluding_207 rfl ?_
  refine q_iload_n dX5_excluding_208 rfl ?_
  refine q_iload_n dX5_excluding_209 rfl ?_
  refine v_callV (M' := mX5_askGroup) [.int (nI a1), .int (nI a2)] [] kX5 dX5_excluding_210 wPX5_108v wIX5_askGroup wSX5_askGroup iX5_askGroup oX5_askGroup rfl hok H.1 (eX5_askGroup Sc Γ n (fX5_ask o ml a1 a2 ((vX5_setOf_1 o ml ((8 * a1) + a2) V) &&& ((a4) ^^^ (-1))) (fX5_setTimers o ml ((8 * a1) + a2) a4 (vX5_grace o ml a1 (fX5_become_1 o ml ((8 * a1) + a2) ((vX5_setOf_1 o ml ((8 * a1) + a2) V) ||| (a4)) ((vX5_setOf_2 o ml ((8 * a1) + a2) V) &&& ((a4) ^^^ (-1))) V)) (fX5_become_1 o ml ((8 * a1) + a2) ((vX5_setOf_1 o ml ((8 * a1) + a2) V) ||| (a4)) ((vX5_setOf_2 o ml ((8 * a1) + a2) V) &&& ((a4) ^^^ (-1))) V))) o ml H hm1 hml a1 (by omega) a2 (by omega) (b + 1) (by omega) (SX5_ask o ml a1 a2 ((vX5_setOf_1 o ml ((8 * a1) + a2) V) &&& ((a4) ^^^ (-1))) (SX5_setTimers o ml ((8 * a1) + a2) a4 (vX5_grace o ml a1 (fX5_become_1 o ml ((8 * a1) + a2) ((vX5_setOf_1 o ml ((8 * a1) + a2) V) ||| (a4)) ((vX5_setOf_2 o ml ((8 * a1) + a2) V) &&& ((a4) ^^^ (-1))) V)) (SX5_become_1 o ml ((8 * a1) + a2) ((vX5_setOf_1 o ml ((8 * a1) + a2) V) ||| (a4)) ((vX5_setOf_2 o ml ((8 * a1) + a2) V) &&& ((a4) ^^^ (-1))) hS)) (by omega))) (Nat.le_of_ble_eq_true rfl) (Nat.le_of_ble_eq_true rfl) (Nat.le_of_ble_eq_true rfl) rfl (fun h hok => ?_)
  refine q_goto (tgt := 239) dX5_excluding_213 (by decide) ?_
  exact q_vret dX5_excluding_239 rfl (hQ _ _ (rfl) (by dsimp only [fX5_excluding_2]; exact hok))
theorem SX5_excluding_2 (o ml : Nat) (a1 : Nat) (a2 : Nat) (a4 : Int32) {V : q_V} {b : Nat} (hS : SB V o b) (hb : b + 2 ≤ 2000000000) : SB (fX5_excluding_2 o ml a1 a2 a4 V) o (b + 2) := by
  dsimp only [fX5_excluding_2]
  exact SB.mo (SX5_askGroup o ml a1 a2 (SX5_ask o ml a1 a2 ((vX5_setOf_1 o ml ((8 * a1) + a2) V) &&& ((a4) ^^^ (-1))) (SX5_setTimers o ml ((8 * a1) + a2) a4 (vX5_grace o ml a1 (fX5_become_1 o ml ((8 * a1) + a2) ((vX5_setOf_1 o ml ((8 * a1) + a2) V) ||| (a4)) ((vX5_setOf_2 o ml ((8 * a1) + a2) V) &&& ((a4) ^^^ (-1))) V)) (SX5_become_1 o ml ((8 * a1) + a2) ((vX5_setOf_1 o ml ((8 * a1) + a2) V) ||| (a4)) ((vX5_setOf_2 o ml ((8 * a1) + a2) V) &&& ((a4) ^^^ (-1))) hS)) (by omega)) (by omega)) (by omega)
def fX5_excluding_3 (o ml : Nat) (a1 : Nat) (a2 : Nat) (a4 : Int32) (V : q_V) : q_V := let V255 := fX5_become_1 o ml ((8 * a1) + a2) ((a4) &&& ((vX5_setOf_2 o ml ((8 * a1) + a2) V) ^^^ (-1))) ((vX5_setOf_2 o ml ((8 * a1) + a2) V) &&& (a4)) V; let V256 := fX5_setTimers o ml ((8 * a1) + a2) (((a4) &&& ((vX5_setOf_1 o ml ((8 * a1) + a2) V) ^^^ (-1))) &&& ((vX5_setOf_2 o ml ((8 * a1) + a2) V) ^^^ (-1))) (V (o + 8) ((8 * a1) + a2)) V255; let V257 := vset V256 (o + 8) ((8 * a1) + a2) (vX5_grace o ml a1 V256); let V258 := fX5_ask o ml a1 a2 ((a4) &&& ((vX5_setOf_2 o ml ((8 * a1) + a2) V) ^^^ (-1))) V257; V258
set_option maxRecDepth 20000 in
set_option maxHeartbeats 4000000 in
theorem eX5_excluding_3 (Sc : q_S) (Γ : Nat → q_K) (n : Nat) (V : q_V) (o ml : Nat) (H : sM Γ o ml) (hm1 : 1 ≤ ml) (hml : ml ≤ 4) (a1 : Nat) (b1 : a1 < 4) (a2 : Nat) (b2 : a2 < 8) (a4 : Int32) (b : Nat) (hb : b + 2 ≤ 2000000000) (hS : SB V o b) : q_fn Sc Γ mX5_excluding [.ref o, .int (nI a1), .int (nI a2), .int (nI 3), .int (a4)] n V none (fX5_excluding_3 o ml a1 a2 a4 V) := by
  refine q_fn.of fun Q h hQ hok => ?_
  show q_A Sc mX5_excluding 0 [.ref o, .int (nI a1), .int (nI a2), .int (nI 3), .int (a4), .retAddr 0, .retAddr 0, .retAddr 0, .retAddr 0, .retAddr 0] [] h n 0 0 Q
  refine q_bipush (v := nI 8) dX5_excluding_0 rfl ?_
  refine q_iload_n dX5_excluding_2 rfl ?_
  refine t_imul_n dX5_excluding_3 ?_
  refine q_iload_n dX5_excluding_4 rfl ?_
  refine t_iadd_n dX5_excluding_5 ?_
  refine t_istore [.ref o, .int (nI a1), .int (nI a2), .int (nI 3), .int (a4), .int (nI ((8 * a1) + a2)), .retAddr 0, .retAddr 0, .retAddr 0, .retAddr 0] (Or.inr ⟨rfl, dX5_excluding_6⟩) (by decide) rfl ?_
  refine q_aload_n dX5_excluding_8 rfl ?_
  refine q_iload dX5_excluding_9 rfl ?_
  refine q_iconst (v := nI 1) dX5_excluding_11 rfl ?_
  refine v_callV (M' := mX5_setOf) [.int (nI ((8 * a1) + a2)), .int (nI 1)] [] kX5 dX5_excluding_12 wPX5_90v wIX5_setOf wSX5_setOf iX5_setOf oX5_setOf rfl hok H.1 (eX5_setOf_1 Sc Γ n V o ml H hm1 hml ((8 * a1) + a2) (by omega)) (Nat.le_of_ble_eq_true rfl) (Nat.le_of_ble_eq_true rfl) (Nat.le_of_ble_eq_true rfl) rfl (fun h hok => ?_)
  refine t_istore [.ref o, .int (nI a1), .int (nI a2), .int (nI 3), .int (a4), .int (nI ((8 * a1) + a2)), .int (vX5_setOf_1 o ml ((8 * a1) + a2) V), .retAddr 0, .retAddr 0, .retAddr 0] (Or.inr ⟨rfl, dX5_excluding_15⟩) (by decide) rfl ?_
  refine q_aload_n dX5_excluding_17 rfl ?_
  refine q_iload dX5_excluding_18 rfl ?_
  refine q_iconst (v := nI 2) dX5_excluding_20 rfl ?_
  refine v_callV (M' := mX5_setOf) [.int (nI ((8 * a1) + a2)), .int (nI 2)] [] kX5 dX5_excluding_21 wPX5_90v wIX5_setOf wSX5_setOf iX5_setOf oX5_setOf rfl hok H.1 (eX5_setOf_2 Sc Γ n V o ml H hm1 hml ((8 * a1) + a2) (by omega)) (Nat.le_of_ble_eq_true rfl) (Nat.le_of_ble_eq_true rfl) (Nat.le_of_ble_eq_true rfl) rfl (fun h hok => ?_)
  refine t_istore [.ref o, .int (nI a1), .int (nI a2), .int (nI 3), .int (a4), .int (nI ((8 * a1) + a2)), .int (vX5_setOf_1 o ml ((8 * a1) + a2) V), .int (vX5_setOf_2 o ml ((8 * a1) + a2) V), .retAddr 0, .retAddr 0] (Or.inr ⟨rfl, dX5_excluding_24⟩) (by decide) rfl ?_
  refine q_iload dX5_excluding_26 rfl ?_
  refine q_iload dX5_excluding_28 rfl ?_
  refine q_iconst (v := -1) dX5_excluding_30 rfl ?_
  refine q_ixor dX5_excluding_31 ?_
  refine q_iand dX5_excluding_32 ?_
  refine q_iload dX5_excluding_33 rfl ?_
  refine q_iconst (v := -1) dX5_excluding_35 rfl ?_
  refine q_ixor dX5_excluding_36 ?_
  refine q_iand dX5_excluding_37 ?_
  refine t_istore [.ref o, .int (nI a1), .int (nI a2), .int (nI 3), .int (a4), .int (nI ((8 * a1) + a2)), .int (vX5_setOf_1 o ml ((8 * a1) + a2) V), .int (vX5_setOf_2 o ml ((8 * a1) + a2) V), .int (((a4) &&& ((vX5_setOf_1 o ml ((8 * a1) + a2) V) ^^^ (-1))) &&& ((vX5_setOf_2 o ml ((8 * a1) + a2) V) ^^^ (-1))), .retAddr 0] (Or.inr ⟨rfl, dX5_excluding_38⟩) (by decide) rfl ?_
  refine q_aload_n dX5_excluding_40 rfl ?_
  refine v_getr 9 kX5 (by decide) wPX5_31 dX5_excluding_41 hok H.1 rfl ?_
  refine q_iload dX5_excluding_44 rfl ?_
  refine v_iald (by decide) dX5_excluding_46 hok H.2.2.2.2.2.2.2.2.1 (j := (8 * a1) + a2) (by omega) ?_
  refine t_istore [.ref o, .int (nI a1), .int (nI a2), .int (nI 3), .int (a4), .int (nI ((8 * a1) + a2)), .int (vX5_setOf_1 o ml ((8 * a1) + a2) V), .int (vX5_setOf_2 o ml ((8 * a1) + a2) V), .int (((a4) &&& ((vX5_setOf_1 o ml ((8 * a1) + a2) V) ^^^ (-1))) &&& ((vX5_setOf_2 o ml ((8 * a1) + a2) V) ^^^ (-1))), .int (V (o + 8) ((8 * a1) + a2))] (Or.inr ⟨rfl, dX5_excluding_47⟩) (by decide) rfl ?_
  refine q_iload_n dX5_excluding_49 rfl ?_
  refine q_if_eq (tgt := 63) dX5_excluding_50 (by decide) (fun q => absurd q (by decide)) (fun _ => ?_)
  refine q_iload_n dX5_excluding_53 rfl ?_
  refine q_iconst (v := nI 4) dX5_excluding_54 rfl ?_
  refine q_icmp_eq (tgt := 63) dX5_excluding_55 (by decide) (fun q => absurd q (by decide)) (fun _ => ?_)
  refine q_iload_n dX5_excluding_58 rfl ?_
  refine q_iconst (v := nI 2) dX5_excluding_59 rfl ?_
  refine q_icmp_ne (tgt := 98) dX5_excluding_60 (by decide) (fun _ => ?_) (fun q => absurd q (by decide))
  refine q_iload_n dX5_excluding_98 rfl ?_
  refine q_iconst (v := nI 5) dX5_excluding_99 rfl ?_
  refine q_icmp_ne (tgt := 135) dX5_excluding_100 (by decide) (fun _ => ?_) (fun q => absurd q (by decide))
  refine q_aload_n dX5_excluding_135 rfl ?_
  refine q_iload dX5_excluding_136 rfl ?_
  refine q_iconst (v := nI 1) dX5_excluding_138 rfl ?_
  refine q_iload dX5_excluding_139 rfl ?_
  refine q_iload dX5_excluding_141 rfl ?_
  refine q_iconst (v := -1) dX5_excluding_143 rfl ?_
  refine q_ixor dX5_excluding_144 ?_
  refine q_iand dX5_excluding_145 ?_
  refine q_iload dX5_excluding_146 rfl ?_
  refine q_iload dX5_excluding_148 rfl ?_
  refine q_iand dX5_excluding_150 ?_
  refine v_callV (M' := mX5_become) [.int (nI ((8 * a1) + a2)), .int (nI 1), .int ((a4) &&& ((vX5_setOf_2 o ml ((8 * a1) + a2) V) ^^^ (-1))), .int ((vX5_setOf_2 o ml ((8 * a1) + a2) V) &&& (a4))] [] kX5 dX5_excluding_151 wPX5_94v wIX5_become wSX5_become iX5_become oX5_become rfl hok H.1 (eX5_become_1 Sc Γ n V o ml H hm1 hml ((8 * a1) + a2) (by omega) ((a4) &&& ((vX5_setOf_2 o ml ((8 * a1) + a2) V) ^^^ (-1))) ((vX5_setOf_2 o ml ((8 * a1) + a2) V) &&& (a4))) (Nat.le_of_ble_eq_true rfl) (Nat.le_of_ble_eq_true rfl) (Nat.le_of_ble_eq_true rfl) rfl (fun h hok => ?_)
  refine q_aload_n dX5_excluding_154 rfl ?_
  refine q_iload dX5_excluding_155 rfl ?_
  refine q_iload dX5_excluding_157 rfl ?_
  refine q_iload_n dX5_excluding_159 rfl ?_
  refine q_iconst (v := nI 1) dX5_excluding_160 rfl ?_
  refine q_icmp_ne (tgt := 172) dX5_excluding_161 (by decide) (fun _ => ?_) (fun q => absurd q (by decide))
  refine q_iload dX5_excluding_172 rfl ?_
  refine v_callV (M' := mX5_setTimers) [.int (nI ((8 * a1) + a2)), .int (((a4) &&& ((vX5_setOf_1 o ml ((8 * a1) + a2) V) ^^^ (-1))) &&& ((vX5_setOf_2 o ml ((8 * a1) + a2) V) ^^^ (-1))), .int (V (o + 8) ((8 * a1) + a2))] [] kX5 dX5_excluding_174 wPX5_102v wIX5_setTimers wSX5_setTimers iX5_setTimers oX5_setTimers rfl hok H.1 (eX5_setTimers Sc Γ n (fX5_become_1 o ml ((8 * a1) + a2) ((a4) &&& ((vX5_setOf_2 o ml ((8 * a1) + a2) V) ^^^ (-1))) ((vX5_setOf_2 o ml ((8 * a1) + a2) V) &&& (a4)) V) o ml H hm1 hml ((8 * a1) + a2) (by omega) (((a4) &&& ((vX5_setOf_1 o ml ((8 * a1) + a2) V) ^^^ (-1))) &&& ((vX5_setOf_2 o ml ((8 * a1) + a2) V) ^^^ (-1))) (V (o + 8) ((8 * a1) + a2))) (Nat.le_of_ble_eq_true rfl) (Nat.le_of_ble_eq_true rfl) (Nat.le_of_ble_eq_true rfl) rfl (fun h hok => ?_)
  refine q_aload_n dX5_excluding_177 rfl ?_
  refine v_getr 9 kX5 (by decide) wPX5_31 dX5_excluding_178 hok H.1 rfl ?_
  refine q_iload dX5_excluding_181 rfl ?_
  refine q_aload_n dX5_excluding_183 rfl ?_
  refine q_iload_n dX5_excluding_184 rfl ?_
  refine v_callV (M' := mX5_grace) [.int (nI a1)] [.int (nI ((8 * a1) + a2)), .ref (o + 8)] kX5 dX5_excluding_185 wPX5_98v wIX5_grace wSX5_grace iX5_grace oX5_grace rfl hok H.1 (eX5_grace Sc Γ n (fX5_setTimers o ml ((8 * a1) + a2) (((a4) &&& ((vX5_setOf_1 o ml ((8 * a1) + a2) V) ^^^ (-1))) &&& ((vX5_setOf_2 o ml ((8 * a1) + a2) V) ^^^ (-1))) (V (o + 8) ((8 * a1) + a2)) (fX5_become_1 o ml ((8 * a1) + a2) ((a4) &&& ((vX5_setOf_2 o ml ((8 * a1) + a2) V) ^^^ (-1))) ((vX5_setOf_2 o ml ((8 * a1) + a2) V) &&& (a4)) V)) o ml H hm1 hml a1 (by omega)) (Nat.le_of_ble_eq_true rfl) (Nat.le_of_ble_eq_true rfl) (Nat.le_of_ble_eq_true rfl) rfl (fun h hok => ?_)
  refine v_iast (by decide) dX5_excluding_188 hok H.2.2.2.2.2.2.2.2.1 (j := (8 * a1) + a2) (by omega) (fun h hok => ?_)
  refine q_iload_n dX5_excluding_189 rfl ?_
  refine q_iconst (v := nI 2) dX5_excluding_190 rfl ?_
  refine q_icmp_ne (tgt := 216) dX5_excluding_191 (by decide) (fun _ => ?_) (fun q => absurd q (by decide))
  refine q_iload_n dX5_excluding_216 rfl ?_
  refine q_iconst (v := nI 3) dX5_excluding_217 rfl ?_
  refine q_icmp_eq (tgt := 226) dX5_excluding_218 (by decide) (fun _ => ?_) (fun q => absurd q (by decide))
  refine q_aload_n dX5_excluding_226 rfl ?_
  refine q_iload_n dX5_excluding_227 rfl ?_
  refine q_iload_n dX5_excluding_228 rfl ?_
  refine q_iload dX5_excluding_229 rfl ?_
  refine q_iload dX5_excluding_231 rfl ?_
  refine q_iconst (v := -1) dX5_excluding_233 rfl ?_
  refine q_ixor dX5_excluding_234 ?_
  refine q_iand dX5_excluding_235 ?_
  refine v_callV (M' := mX5_ask) [.int (nI a1), .int (nI a2), .int ((a4) &&& ((vX5_setOf_2 o ml ((8 * a1) + a2) V) ^^^ (-1)))] [] kX5 dX5_excluding_236 wPX5_105v wIX5_ask wSX5_ask iX5_ask oX5_ask rfl hok H.1 (eX5_ask Sc Γ n (vset (fX5_setTimers o ml ((8 * a1) + a2) (((a4) &&& ((vX5_setOf_1 o ml ((8 * a1) + a2) V) ^^^ (-1))) &&& ((vX5_setOf_2 o ml ((8 * a1) + a2) V) ^^^ (-1))) (V (o + 8) ((8 * a1) + a2)) (fX5_become_1 o ml ((8 * a1) + a2) ((a4) &&& ((vX5_setOf_2 o ml ((8 * a1) + a2) V) ^^^ (-1))) ((vX5_setOf_2 o ml ((8 * a1) + a2) V) &&& (a4)) V)) (o + 8) ((8 * a1) + a2) (vX5_grace o ml a1 (fX5_setTimers o ml ((8 * a1) + a2) (((a4) &&& ((vX5_setOf_1 o ml ((8 * a1) + a2) V) ^^^ (-1))) &&& ((vX5_setOf_2 o ml ((8 * a1) + a2) V) ^^^ (-1))) (V (o + 8) ((8 * a1) + a2)) (fX5_become_1 o ml ((8 * a1) + a2) ((a4) &&& ((vX5_setOf_2 o ml ((8 * a1) + a2) V) ^^^ (-1))) ((vX5_setOf_2 o ml ((8 * a1) + a2) V) &&& (a4)) V)))) o ml H hm1 hml a1 (by omega) a2 (by omega) ((a4) &&& ((vX5_setOf_2 o ml ((8 * a1) + a2) V) ^^^ (-1))) (b) (by omega) (SB.vs (SX5_setTimers o ml ((8 * a1) + a2) (((a4) &&& ((vX5_setOf_1 o ml ((8 * a1) + a2) V) ^^^ (-1))) &&& ((vX5_setOf_2 o ml ((8 * a1) + a2) V) ^^^ (-1))) (V (o + 8) ((8 * a1) + a2)) (SX5_become_1 o ml ((8 * a1) + a2) ((a4) &&& ((vX5_setOf_2 o ml ((8 * a1) + a2) V) ^^^ (-1))) ((vX5_setOf_2 o ml ((8 * a1) + a2) V) &&& (a4)) hS)) (by first | exact Or.inr (by decide) | exact Or.inl (by omega)))) (Nat.le_of_ble_eq_true rfl) (Nat.le_of_ble_eq_true rfl) (Nat.le_of_ble_eq_true rfl) rfl (fun h hok => ?_)
  exact q_vret dX5_excluding_239 rfl (hQ _ _ (rfl) (by dsimp only [fX5_excluding_3]; exact hok))
theorem SX5_excluding_3 (o ml : Nat) (a1 : Nat) (a2 : Nat) (a4 : Int32) {V : q_V} {b : Nat} (hS : SB V o b) (hb : b + 2 ≤ 2000000000) : SB (fX5_excluding_3 o ml a1 a2 a4 V) o (b + 2) := by
  dsimp only [fX5_excluding_3]
  exact SB.mo (SX5_ask o ml a1 a2 ((a4) &&& ((vX5_setOf_2 o ml ((8 * a1) + a2) V) ^^^ (-1))) (SB.vs (SX5_setTimers o ml ((8 * a1) + a2) (((a4) &&& ((vX5_setOf_1 o ml ((8 * a1) + a2) V) ^^^ (-1))) &&& ((vX5_setOf_2 o ml ((8 * a1) + a2) V) ^^^ (-1))) (V (o + 8) ((8 * a1) + a2)) (SX5_become_1 o ml ((8 * a1) + a2) ((a4) &&& ((vX5_setOf_2 o ml ((8 * a1) + a2) V) ^^^ (-1))) ((vX5_setOf_2 o ml ((8 * a1) + a2) V) &&& (a4)) hS)) (by first | exact Or.inr (by decide) | exact Or.inl (by omega))) (by omega)) (by omega)
def fX5_excluding_4 (o ml : Nat) (a1 : Nat) (a2 : Nat) (a4 : Int32) (V : q_V) : q_V := let V259 := fX5_become_1 o ml ((8 * a1) + a2) ((vX5_setOf_1 o ml ((8 * a1) + a2) V) ||| (a4)) ((vX5_setOf_2 o ml ((8 * a1) + a2) V) &&& ((a4) ^^^ (-1))) V; let V260 := fX5_setTimers o ml ((8 * a1) + a2) a4 (vX5_grace o ml a1 V259) V259; V260
set_option maxRecDepth 20000 in
set_option maxHeartbeats 4000000 in
theorem eX5_excluding_4 (Sc : q_S) (Γ : Nat → q_K) (n : Nat) (V : q_V) (o ml : Nat) (H : sM Γ o ml) (hm1 : 1 ≤ ml) (hml : ml ≤ 4) (a1 : Nat) (b1 : a1 < 4) (a2 : Nat) (b2 : a2 < 8) (a4 : Int32) (b : Nat) (hb : b + 2 ≤ 2000000000) (hS : SB V o b) : q_fn Sc Γ mX5_excluding [.ref o, .int (nI a1), .int (nI a2), .int (nI 4), .int (a4)] n V none (fX5_excluding_4 o ml a1 a2 a4 V) := by
  refine q_fn.of fun Q h hQ hok => ?_
  show q_A Sc mX5_excluding 0 [.ref o, .int (nI a1), .int (nI a2), .int (nI 4), .int (a4), .retAddr 0, .retAddr 0, .retAddr 0, .retAddr 0, .retAddr 0] [] h n 0 0 Q
  refine q_bipush (v := nI 8) dX5_excluding_0 rfl ?_
  refine q_iload_n dX5_excluding_2 rfl ?_
  refine t_imul_n dX5_excluding_3 ?_
  refine q_iload_n dX5_excluding_4 rfl ?_
  refine t_iadd_n dX5_excluding_5 ?_
  refine t_istore [.ref o, .int (nI a1), .int (nI a2), .int (nI 4), .int (a4), .int (nI ((8 * a1) + a2)), .retAddr 0, .retAddr 0, .retAddr 0, .retAddr 0] (Or.inr ⟨rfl, dX5_excluding_6⟩) (by decide) rfl ?_
  refine q_aload_n dX5_excluding_8 rfl ?_
  refine q_iload dX5_excluding_9 rfl ?_
  refine q_iconst (v := nI 1) dX5_excluding_11 rfl ?_
  refine v_callV (M' := mX5_setOf) [.int (nI ((8 * a1) + a2)), .int (nI 1)] [] kX5 dX5_excluding_12 wPX5_90v wIX5_setOf wSX5_setOf iX5_setOf oX5_setOf rfl hok H.1 (eX5_setOf_1 Sc Γ n V o ml H hm1 hml ((8 * a1) + a2) (by omega)) (Nat.le_of_ble_eq_true rfl) (Nat.le_of_ble_eq_true rfl) (Nat.le_of_ble_eq_true rfl) rfl (fun h hok => ?_)
  refine t_istore [.ref o, .int (nI a1), .int (nI a2), .int (nI 4), .int (a4), .int (nI ((8 * a1) + a2)), .int (vX5_setOf_1 o ml ((8 * a1) + a2) V), .retAddr 0, .retAddr 0, .retAddr 0] (Or.inr ⟨rfl, dX5_excluding_15⟩) (by decide) rfl ?_
  refine q_aload_n dX5_excluding_17 rfl ?_
  refine q_iload dX5_excluding_18 rfl ?_
  refine q_iconst (v := nI 2) dX5_excluding_20 rfl ?_
  refine v_callV (M' := mX5_setOf) [.int (nI ((8 * a1) + a2)), .int (nI 2)] [] kX5 dX5_excluding_21 wPX5_90v wIX5_setOf wSX5_setOf iX5_setOf oX5_setOf rfl hok H.1 (eX5_setOf_2 Sc Γ n V o ml H hm1 hml ((8 * a1) + a2) (by omega)) (Nat.le_of_ble_eq_true rfl) (Nat.le_of_ble_eq_true rfl) (Nat.le_of_ble_eq_true rfl) rfl (fun h hok => ?_)
  refine t_istore [.ref o, .int (nI a1), .int (nI a2), .int (nI 4), .int (a4), .int (nI ((8 * a1) + a2)), .int (vX5_setOf_1 o ml ((8 * a1) + a2) V), .int (vX5_setOf_2 o ml ((8 * a1) + a2) V), .retAddr 0, .retAddr 0] (Or.inr ⟨rfl, dX5_excluding_24⟩) (by decide) rfl ?_
  refine q_iload dX5_excluding_26 rfl ?_
  refine q_iload dX5_excluding_28 rfl ?_
  refine q_iconst (v := -1) dX5_excluding_30 rfl ?_
  refine q_ixor dX5_excluding_31 ?_
  refine q_iand dX5_excluding_32 ?_
  refine q_iload dX5_excluding_33 rfl ?_
  refine q_iconst (v := -1) dX5_excluding_35 rfl ?_
  refine q_ixor dX5_excluding_36 ?_
  refine q_iand dX5_excluding_37 ?_
  refine t_istore [.ref o, .int (nI a1), .int (nI a2), .int (nI 4), .int (a4), .int (nI ((8 * a1) + a2)), .int (vX5_setOf_1 o ml ((8 * a1) + a2) V), .int (vX5_setOf_2 o ml ((8 * a1) + a2) V), .int (((a4) &&& ((vX5_setOf_1 o ml ((8 * a1) + a2) V) ^^^ (-1))) &&& ((vX5_setOf_2 o ml ((8 * a1) + a2) V) ^^^ (-1))), .retAddr 0] (Or.inr ⟨rfl, dX5_excluding_38⟩) (by decide) rfl ?_
  refine q_aload_n dX5_excluding_40 rfl ?_
  refine v_getr 9 kX5 (by decide) wPX5_31 dX5_excluding_41 hok H.1 rfl ?_
  refine q_iload dX5_excluding_44 rfl ?_
  refine v_iald (by decide) dX5_excluding_46 hok H.2.2.2.2.2.2.2.2.1 (j := (8 * a1) + a2) (by omega) ?_
  refine t_istore [.ref o, .int (nI a1), .int (nI a2), .int (nI 4), .int (a4), .int (nI ((8 * a1) + a2)), .int (vX5_setOf_1 o ml ((8 * a1) + a2) V), .int (vX5_setOf_2 o ml ((8 * a1) + a2) V), .int (((a4) &&& ((vX5_setOf_1 o ml ((8 * a1) + a2) V) ^^^ (-1))) &&& ((vX5_setOf_2 o ml ((8 * a1) + a2) V) ^^^ (-1))), .int (V (o + 8) ((8 * a1) + a2))] (Or.inr ⟨rfl, dX5_excluding_47⟩) (by decide) rfl ?_
  refine q_iload_n dX5_excluding_49 rfl ?_
  refine q_if_eq (tgt := 63) dX5_excluding_50 (by decide) (fun q => absurd q (by decide)) (fun _ => ?_)
  refine q_iload_n dX5_excluding_53 rfl ?_
  refine q_iconst (v := nI 4) dX5_excluding_54 rfl ?_
  refine q_icmp_eq (tgt := 63) dX5_excluding_55 (by decide) (fun _ => ?_) (fun q => absurd q (by decide))
  refine q_aload_n dX5_excluding_63 rfl ?_
  refine q_iload dX5_excluding_64 rfl ?_
  refine q_iconst (v := nI 1) dX5_excluding_66 rfl ?_
  refine q_iload dX5_excluding_67 rfl ?_
  refine q_iload dX5_excluding_69 rfl ?_
  refine q_ior dX5_excluding_71 ?_
  refine q_iload dX5_excluding_72 rfl ?_
  refine q_iload dX5_excluding_74 rfl ?_
  refine q_iconst (v := -1) dX5_excluding_76 rfl ?_
  refine q_ixor dX5_excluding_77 ?_
  refine q_iand dX5_excluding_78 ?_
  refine v_callV (M' := mX5_become) [.int (nI ((8 * a1) + a2)), .int (nI 1), .int ((vX5_setOf_1 o ml ((8 * a1) + a2) V) ||| (a4)), .int ((vX5_setOf_2 o ml ((8 * a1) + a2) V) &&& ((a4) ^^^ (-1)))] [] kX5 dX5_excluding_79 wPX5_94v wIX5_become wSX5_become iX5_become oX5_become rfl hok H.1 (eX5_become_1 Sc Γ n V o ml H hm1 hml ((8 * a1) + a2) (by omega) ((vX5_setOf_1 o ml ((8 * a1) + a2) V) ||| (a4)) ((vX5_setOf_2 o ml ((8 * a1) + a2) V) &&& ((a4) ^^^ (-1)))) (Nat.le_of_ble_eq_true rfl) (Nat.le_of_ble_eq_true rfl) (Nat.le_of_ble_eq_true rfl) rfl (fun h hok => ?_)
  refine q_aload_n dX5_excluding_82 rfl ?_
  refine q_iload dX5_excluding_83 rfl ?_
  refine q_iload dX5_excluding_85 rfl ?_
  refine q_aload_n dX5_excluding_87 rfl ?_
  refine q_iload_n dX5_excluding_88 rfl ?_
  refine v_callV (M' := mX5_grace) [.int (nI a1)] [.int (a4), .int (nI ((8 * a1) + a2)), .ref o] kX5 dX5_excluding_89 wPX5_98v wIX5_grace wSX5_grace iX5_grace oX5_grace rfl hok H.1 (eX5_grace Sc Γ n (fX5_become_1 o ml ((8 * a1) + a2) ((vX5_setOf_1 o ml ((8 * a1) + a2) V) ||| (a4)) ((vX5_setOf_2 o ml ((8 * a1) + a2) V) &&& ((a4) ^^^ (-1))) V) o ml H hm1 hml a1 (by omega)) (Nat.le_of_ble_eq_true rfl) (Nat.le_of_ble_eq_true rfl) (Nat.le_of_ble_eq_true rfl) rfl (fun h hok => ?_)
  refine v_callV (M' := mX5_setTimers) [.int (nI ((8 * a1) + a2)), .int (a4), .int (vX5_grace o ml a1 (fX5_become_1 o ml ((8 * a1) + a2) ((vX5_setOf_1 o ml ((8 * a1) + a2) V) ||| (a4)) ((vX5_setOf_2 o ml ((8 * a1) + a2) V) &&& ((a4) ^^^ (-1))) V))] [] kX5 dX5_excluding_92 wPX5_102v wIX5_setTimers wSX5_setTimers iX5_setTimers oX5_setTimers rfl hok H.1 (eX5_setTimers Sc Γ n (fX5_become_1 o ml ((8 * a1) + a2) ((vX5_setOf_1 o ml ((8 * a1) + a2) V) ||| (a4)) ((vX5_setOf_2 o ml ((8 * a1) + a2) V) &&& ((a4) ^^^ (-1))) V) o ml H hm1 hml ((8 * a1) + a2) (by omega) a4 (vX5_grace o ml a1 (fX5_become_1 o ml ((8 * a1) + a2) ((vX5_setOf_1 o ml ((8 * a1) + a2) V) ||| (a4)) ((vX5_setOf_2 o ml ((8 * a1) + a2) V) &&& ((a4) ^^^ (-1))) V))) (Nat.le_of_ble_eq_true rfl) (Nat.le_of_ble_eq_true rfl) (Nat.le_of_ble_eq_true rfl) rfl (fun h hok => ?_)
  refine q_goto (tgt := 189) dX5_excluding_95 (by decide) ?_
  refine q_iload_n dX5_excluding_189 rfl ?_
  refine q_iconst (v := nI 2) dX5_excluding_190 rfl ?_
  refine q_icmp_ne (tgt := 216) dX5_excluding_191 (by decide) (fun _ => ?_) (fun q => absurd q (by decide))
  refine q_iload_n dX5_excluding_216 rfl ?_
  refine q_iconst (v := nI 3) dX5_excluding_217 rfl ?_
  refine q_icmp_eq (tgt := 226) dX5_excluding_218 (by decide) (fun q => absurd q (by decide)) (fun _ => ?_)
  refine q_iload_n dX5_excluding_221 rfl ?_
  refine q_iconst (v := nI 5) dX5_excluding_222 rfl ?_
  refine q_icmp_ne (tgt := 239) dX5_excluding_223 (by decide) (fun _ => ?_) (fun q => absurd q (by decide))
  exact q_vret dX5_excluding_239 rfl (hQ _ _ (rfl) (by dsimp only [fX5_excluding_4]; exact hok))
theorem SX5_excluding_4 (o ml : Nat) (a1 : Nat) (a2 : Nat) (a4 : Int32) {V : q_V} {b : Nat} (hS : SB V o b) (hb : b + 2 ≤ 2000000000) : SB (fX5_excluding_4 o ml a1 a2 a4 V) o (b + 2) := by
  dsimp only [fX5_excluding_4]
  exact SB.mo (SX5_setTimers o ml ((8 * a1) + a2) a4 (vX5_grace o ml a1 (fX5_become_1 o ml ((8 * a1) + a2) ((vX5_setOf_1 o ml ((8 * a1) + a2) V) ||| (a4)) ((vX5_setOf_2 o ml ((8 * a1) + a2) V) &&& ((a4) ^^^ (-1))) V)) (SX5_become_1 o ml ((8 * a1) + a2) ((vX5_setOf_1 o ml ((8 * a1) + a2) V) ||| (a4)) ((vX5_setOf_2 o ml ((8 * a1) + a2) V) &&& ((a4) ^^^ (-1))) hS)) (by omega)
def fX5_excluding_5 (o ml : Nat) (a1 : Nat) (a2 : Nat) (a4 : Int32) (V : q_V) : q_V := let V261 := fX5_become_1 o ml ((8 * a1) + a2) ((vX5_setOf_1 o ml ((8 * a1) + a2) V) ||| ((a4) &&& ((vX5_setOf_2 o ml ((8 * a1) + a2) V) ^^^ (-1)))) (vX5_setOf_2 o ml ((8 * a1) + a2) V) V; let V262 := fX5_setTimers o ml ((8 * a1) + a2) (((a4) &&& ((vX5_setOf_1 o ml ((8 * a1) + a2) V) ^^^ (-1))) &&& ((vX5_setOf_2 o ml ((8 * a1) + a2) V) ^^^ (-1))) (V (o + 8) ((8 * a1) + a2)) V261; let V263 := fX5_ask o ml a1 a2 ((a4) &&& ((vX5_setOf_2 o ml ((8 * a1) + a2) V) ^^^ (-1))) V262; V263
set_option maxRecDepth 20000 in
set_option maxHeartbeats 4000000 in
theorem eX5_excluding_5 (Sc : q_S) (Γ : Nat → q_K) (n : Nat) (V : q_V) (o ml : Nat) (H : sM Γ o ml) (hm1 : 1 ≤ ml) (hml : ml ≤ 4) (a1 : Nat) (b1 : a1 < 4) (a2 : Nat) (b2 : a2 < 8) (a4 : Int32) (b : Nat) (hb : b + 2 ≤ 2000000000) (hS : SB V o b) : q_fn Sc Γ mX5_excluding [.ref o, .int (nI a1), .int (nI a2), .int (nI 5), .int (a4)] n V none (fX5_excluding_5 o ml a1 a2 a4 V) := by
  refine q_fn.of fun Q h hQ hok => ?_
  show q_A Sc mX5_excluding 0 [.ref o, .int (nI a1), .int (nI a2), .int (nI 5), .int (a4), .retAddr 0, .retAddr 0, .retAddr 0, .retAddr 0, .retAddr 0] [] h n 0 0 Q
  refine q_bipush (v := nI 8) dX5_excluding_0 rfl ?_
  refine q_iload_n dX5_excluding_2 rfl ?_
  refine t_imul_n dX5_excluding_3 ?_
  refine q_iload_n dX5_excluding_4 rfl ?_
  refine t_iadd_n dX5_excluding_5 ?_
  refine t_istore [.ref o, .int (nI a1), .int (nI a2), .int (nI 5), .int (a4), .int (nI ((8 * a1) + a2)), .retAddr 0, .retAddr 0, .retAddr 0, .retAddr 0] (Or.inr ⟨rfl, dX5_excluding_6⟩) (by decide) rfl ?_
  refine q_aload_n dX5_excluding_8 rfl ?_
  refine q_iload dX5_excluding_9 rfl ?_
  refine q_iconst (v := nI 1) dX5_excluding_11 rfl ?_
  refine v_callV (M' := mX5_setOf) [.int (nI ((8 * a1) + a2)), .int (nI 1)] [] kX5 dX5_excluding_12 wPX5_90v wIX5_setOf wSX5_setOf iX5_setOf oX5_setOf rfl hok H.1 (eX5_setOf_1 Sc Γ n V o ml H hm1 hml ((8 * a1) + a2) (by omega)) (Nat.le_of_ble_eq_true rfl) (Nat.le_of_ble_eq_true rfl) (Nat.le_of_ble_eq_true rfl) rfl (fun h hok => ?_)
  refine t_istore [.ref o, .int (nI a1), .int (nI a2), .int (nI 5), .int (a4), .int (nI ((8 * a1) + a2)), .int (vX5_setOf_1 o ml ((8 * a1) + a2) V), .retAddr 0, .retAddr 0, .retAddr 0] (Or.inr ⟨rfl, dX5_excluding_15⟩) (by decide) rfl ?_
  refine q_aload_n dX5_excluding_17 rfl ?_
  refine q_iload dX5_excluding_18 rfl ?_
  refine q_iconst (v := nI 2) dX5_excluding_20 rfl ?_
  refine v_callV (M' := mX5_setOf) [.int (nI ((8 * a1) + a2)), .int (nI 2)] [] kX5 dX5_excluding_21 wPX5_90v wIX5_setOf wSX5_setOf iX5_setOf oX5_setOf rfl hok H.1 (eX5_setOf_2 Sc Γ n V o ml H hm1 hml ((8 * a1) + a2) (by omega)) (Nat.le_of_ble_eq_true rfl) (Nat.le_of_ble_eq_true rfl) (Nat.le_of_ble_eq_true rfl) rfl (fun h hok => ?_)
  refine t_istore [.ref o, .int (nI a1), .int (nI a2), .int (nI 5), .int (a4), .int (nI ((8 * a1) + a2)), .int (vX5_setOf_1 o ml ((8 * a1) + a2) V), .int (vX5_setOf_2 o ml ((8 * a1) + a2) V), .retAddr 0, .retAddr 0] (Or.inr ⟨rfl, dX5_excluding_24⟩) (by decide) rfl ?_
  refine q_iload dX5_excluding_26 rfl ?_
  refine q_iload dX5_excluding_28 rfl ?_
  refine q_iconst (v := -1) dX5_excluding_30 rfl ?_
  refine q_ixor dX5_excluding_31 ?_
  refine q_iand dX5_excluding_32 ?_
  refine q_iload dX5_excluding_33 rfl ?_
  refine q_iconst (v := -1) dX5_excluding_35 rfl ?_
  refine q_ixor dX5_excluding_36 ?_
  refine q_iand dX5_excluding_37 ?_
  refine t_istore [.ref o, .int (nI a1), .int (nI a2), .int (nI 5), .int (a4), .int (nI ((8 * a1) + a2)), .int (vX5_setOf_1 o ml ((8 * a1) + a2) V), .int (vX5_setOf_2 o ml ((8 * a1) + a2) V), .int (((a4) &&& ((vX5_setOf_1 o ml ((8 * a1) + a2) V) ^^^ (-1))) &&& ((vX5_setOf_2 o ml ((8 * a1) + a2) V) ^^^ (-1))), .retAddr 0] (Or.inr ⟨rfl, dX5_excluding_38⟩) (by decide) rfl ?_
  refine q_aload_n dX5_excluding_40 rfl ?_
  refine v_getr 9 kX5 (by decide) wPX5_31 dX5_excluding_41 hok H.1 rfl ?_
  refine q_iload dX5_excluding_44 rfl ?_
  refine v_iald (by decide) dX5_excluding_46 hok H.2.2.2.2.2.2.2.2.1 (j := (8 * a1) + a2) (by omega) ?_
  refine t_istore [.ref o, .int (nI a1), .int (nI a2), .int (nI 5), .int (a4), .int (nI ((8 * a1) + a2)), .int (vX5_setOf_1 o ml ((8 * a1) + a2) V), .int (vX5_setOf_2 o ml ((8 * a1) + a2) V), .int (((a4) &&& ((vX5_setOf_1 o ml ((8 * a1) + a2) V) ^^^ (-1))) &&& ((vX5_setOf_2 o ml ((8 * a1) + a2) V) ^^^ (-1))), .int (V (o + 8) ((8 * a1) + a2))] (Or.inr ⟨rfl, dX5_excluding_47⟩) (by decide) rfl ?_
  refine q_iload_n dX5_excluding_49 rfl ?_
  refine q_if_eq (tgt := 63) dX5_excluding_50 (by decide) (fun q => absurd q (by decide)) (fun _ => ?_)
  refine q_iload_n dX5_excluding_53 rfl ?_
  refine q_iconst (v := nI 4) dX5_excluding_54 rfl ?_
  refine q_icmp_eq (tgt := 63) dX5_excluding_55 (by decide) (fun q => absurd q (by decide)) (fun _ => ?_)
  refine q_iload_n dX5_excluding_58 rfl ?_
  refine q_iconst (v := nI 2) dX5_excluding_59 rfl ?_
  refine q_icmp_ne (tgt := 98) dX5_excluding_60 (by decide) (fun _ => ?_) (fun q => absurd q (by decide))
  refine q_iload_n dX5_excluding_98 rfl ?_
  refine q_iconst (v := nI 5) dX5_excluding_99 rfl ?_
  refine q_icmp_ne (tgt := 135) dX5_excluding_100 (by decide) (fun q => absurd q (by decide)) (fun _ => ?_)
  refine q_aload_n dX5_excluding_103 rfl ?_
  refine q_iload dX5_excluding_104 rfl ?_
  refine q_iconst (v := nI 1) dX5_excluding_106 rfl ?_
  refine q_iload dX5_excluding_107 rfl ?_
  refine q_iload dX5_excluding_109 rfl ?_
  refine q_iload dX5_excluding_111 rfl ?_
  refine q_iconst (v := -1) dX5_excluding_113 rfl ?_
  refine q_ixor dX5_excluding_114 ?_
  refine q_iand dX5_excluding_115 ?_
  refine q_ior dX5_excluding_116 ?_
  refine q_iload dX5_excluding_117 rfl ?_
  refine v_callV (M' := mX5_become) [.int (nI ((8 * a1) + a2)), .int (nI 1), .int ((vX5_setOf_1 o ml ((8 * a1) + a2) V) ||| ((a4) &&& ((vX5_setOf_2 o ml ((8 * a1) + a2) V) ^^^ (-1)))), .int (vX5_setOf_2 o ml ((8 * a1) + a2) V)] [] kX5 dX5_excluding_119 wPX5_94v wIX5_become wSX5_become iX5_become oX5_become rfl hok H.1 (eX5_become_1 Sc Γ n V o ml H hm1 hml ((8 * a1) + a2) (by omega) ((vX5_setOf_1 o ml ((8 * a1) + a2) V) ||| ((a4) &&& ((vX5_setOf_2 o ml ((8 * a1) + a2) V) ^^^ (-1)))) (vX5_setOf_2 o ml ((8 * a1) + a2) V)) (Nat.le_of_ble_eq_true rfl) (Nat.le_of_ble_eq_true rfl) (Nat.le_of_ble_eq_true rfl) rfl (fun h hok => ?_)
  refine q_aload_n dX5_excluding_122 rfl ?_
  refine q_iload dX5_excluding_123 rfl ?_
  refine q_iload dX5_excluding_125 rfl ?_
  refine q_iload dX5_excluding_127 rfl ?_
  refine v_callV (M' := mX5_setTimers) [.int (nI ((8 * a1) + a2)), .int (((a4) &&& ((vX5_setOf_1 o ml ((8 * a1) + a2) V) ^^^ (-1))) &&& ((vX5_setOf_2 o ml ((8 * a1) + a2) V) ^^^ (-1))), .int (V (o + 8) ((8 * a1) + a2))] [] kX5 dX5_excluding_129 wPX5_102v wIX5_setTimers wSX5_setTimers iX5_setTimers oX5_setTimers rfl hok H.1 (eX5_setTimers Sc Γ n (fX5_become_1 o ml ((8 * a1) + a2) ((vX5_setOf_1 o ml ((8 * a1) + a2) V) ||| ((a4) &&& ((vX5_setOf_2 o ml ((8 * a1) + a2) V) ^^^ (-1)))) (vX5_setOf_2 o ml ((8 * a1) + a2) V) V) o ml H hm1 hml ((8 * a1) + a2) (by omega) (((a4) &&& ((vX5_setOf_1 o ml ((8 * a1) + a2) V) ^^^ (-1))) &&& ((vX5_setOf_2 o ml ((8 * a1) + a2) V) ^^^ (-1))) (V (o + 8) ((8 * a1) + a2))) (Nat.le_of_ble_eq_true rfl) (Nat.le_of_ble_eq_true rfl) (Nat.le_of_ble_eq_true rfl) rfl (fun h hok => ?_)
  refine q_goto (tgt := 189) dX5_excluding_132 (by decide) ?_
  refine q_iload_n dX5_excluding_189 rfl ?_
  refine q_iconst (v := nI 2) dX5_excluding_190 rfl ?_
  refine q_icmp_ne (tgt := 216) dX5_excluding_191 (by decide) (fun _ => ?_) (fun q => absurd q (by decide))
  refine q_iload_n dX5_excluding_216 rfl ?_
  refine q_iconst (v := nI 3) dX5_excluding_217 rfl ?_
  refine q_icmp_eq (tgt := 226) dX5_excluding_218 (by decide) (fun q => absurd q (by decide)) (fun _ => ?_)
  refine q_iload_n dX5_excluding_221 rfl ?_
  refine q_iconst (v := nI 5) dX5_excluding_222 rfl ?_
  refine q_icmp_ne (tgt := 239) dX5_excluding_223 (by decide) (fun q => absurd q (by decide)) (fun _ => ?_)
  refine q_aload_n dX5_excluding_226 rfl ?_
  refine q_iload_n dX5_excluding_227 rfl ?_
  refine q_iload_n dX5_excluding_228 rfl ?_
  refine q_iload dX5_excluding_229 rfl ?_
  refine q_iload dX5_excluding_231 rfl ?_
  refine q_iconst (v := -1) dX5_excluding_233 rfl ?_
  refine q_ixor dX5_excluding_234 ?_
  refine q_iand dX5_excluding_235 ?_
  refine v_callV (M' := mX5_ask) [.int (nI a1), .int (nI a2), .int ((a4) &&& ((vX5_setOf_2 o ml ((8 * a1) + a2) V) ^^^ (-1)))] [] kX5 dX5_excluding_236 wPX5_105v wIX5_ask wSX5_ask iX5_ask oX5_ask rfl hok H.1 (eX5_ask Sc Γ n (fX5_setTimers o ml ((8 * a1) + a2) (((a4) &&& ((vX5_setOf_1 o ml ((8 * a1) + a2) V) ^^^ (-1))) &&& ((vX5_setOf_2 o ml ((8 * a1) + a2) V) ^^^ (-1))) (V (o + 8) ((8 * a1) + a2)) (fX5_become_1 o ml ((8 * a1) + a2) ((vX5_setOf_1 o ml ((8 * a1) + a2) V) ||| ((a4) &&& ((vX5_setOf_2 o ml ((8 * a1) + a2) V) ^^^ (-1)))) (vX5_setOf_2 o ml ((8 * a1) + a2) V) V)) o ml H hm1 hml a1 (by omega) a2 (by omega) ((a4) &&& ((vX5_setOf_2 o ml ((8 * a1) + a2) V) ^^^ (-1))) (b) (by omega) (SX5_setTimers o ml ((8 * a1) + a2) (((a4) &&& ((vX5_setOf_1 o ml ((8 * a1) + a2) V) ^^^ (-1))) &&& ((vX5_setOf_2 o ml ((8 * a1) + a2) V) ^^^ (-1))) (V (o + 8) ((8 * a1) + a2)) (SX5_become_1 o ml ((8 * a1) + a2) ((vX5_setOf_1 o ml ((8 * a1) + a2) V) ||| ((a4) &&& ((vX5_setOf_2 o ml ((8 * a1) + a2) V) ^^^ (-1)))) (vX5_setOf_2 o ml ((8 * a1) + a2) V) hS))) (Nat.le_of_ble_eq_true rfl) (Nat.le_of_ble_eq_true rfl) (Nat.le_of_ble_eq_true rfl) rfl (fun h hok => ?_)
  exact q_vret dX5_excluding_239 rfl (hQ _ _ (rfl) (by dsimp only [fX5_excluding_5]; exact hok))
theorem SX5_excluding_5 (o ml : Nat) (a1 : Nat) (a2 : Nat) (a4 : Int32) {V : q_V} {b : Nat} (hS : SB V o b) (hb : b + 2 ≤ 2000000000) : SB (fX5_excluding_5 o ml a1 a2 a4 V) o (b + 2) := by
  dsimp only [fX5_excluding_5]
  exact SB.mo (SX5_ask o ml a1 a2 ((a4) &&& ((vX5_setOf_2 o ml ((8 * a1) + a2) V) ^^^ (-1))) (SX5_setTimers o ml ((8 * a1) + a2) (((a4) &&& ((vX5_setOf_1 o ml ((8 * a1) + a2) V) ^^^ (-1))) &&& ((vX5_setOf_2 o ml ((8 * a1) + a2) V) ^^^ (-1))) (V (o + 8) ((8 * a1) + a2)) (SX5_become_1 o ml ((8 * a1) + a2) ((vX5_setOf_1 o ml ((8 * a1) + a2) V) ||| ((a4) &&& ((vX5_setOf_2 o ml ((8 * a1) + a2) V) ^^^ (-1)))) (vX5_setOf_2 o ml ((8 * a1) + a2) V) hS)) (by omega)) (by omega)
def fX5_reported_0 (o ml : Nat) (a1 : Nat) (a2 : Nat) (a4 : Int32) (V : q_V) : q_V := if (V (o + 7) ((8 * a1) + a2)) = (nI 1) then (let V266 := fX5_excluding_0 o ml a1 a2 a4 V; V266) else (let V265 := fX5_including_0 o ml a1 a2 a4 V; V265)
def vX5_reported_0 (o ml : Nat) (a1 : Nat) (a2 : Nat) (a4 : Int32) (V : q_V) : Int32 := if (V (o + 7) ((8 * a1) + a2)) = (nI 1) then (let V266 := fX5_excluding_0 o ml a1 a2 a4 V; ((V266 o 15) - (V o 15))) else (let V265 := fX5_including_0 o ml a1 a2 a4 V; ((V265 o 15) - (V o 15)))
set_option maxRecDepth 20000 in
set_option maxHeartbeats 4000000 in
theorem eX5_reported_0 (Sc : q_S) (Γ : Nat → q_K) (n : Nat) (V : q_V) (o ml : Nat) (H : sM Γ o ml) (hm1 : 1 ≤ ml) (hml : ml ≤ 4) (a1 : Nat) (b1 : a1 < 4) (a2 : Nat) (b2 : a2 < 8) (a4 : Int32) (b : Nat) (hb : b + 2 ≤ 2000000000) (hS : SB V o b) : q_fn Sc Γ mX5_reported [.ref o, .int (nI a1), .int (nI a2), .int (nI 0), .int (a4)] n V (some (.int (vX5_reported_0 o ml a1 a2 a4 V))) (fX5_reported_0 o ml a1 a2 a4 V) := by
  refine q_fn.of fun Q h hQ hok => ?_
  show q_A Sc mX5_reported 0 [.ref o, .int (nI a1), .int (nI a2), .int (nI 0), .int (a4), .retAddr 0] [] h n 0 0 Q
  refine q_aload_n dX5_reported_0 rfl ?_
  refine v_geti 15 kX5 (by decide) wPX5_72 dX5_reported_1 hok H.1 rfl ?_
  refine t_istore [.ref o, .int (nI a1), .int (nI a2), .int (nI 0), .int (a4), .int (V o 15)] (Or.inr ⟨rfl, dX5_reported_4⟩) (by decide) rfl ?_
  refine q_aload_n dX5_reported_6 rfl ?_
  refine v_getr 8 kX5 (by decide) wPX5_28 dX5_reported_7 hok H.1 rfl ?_
  refine q_bipush (v := nI 8) dX5_reported_10 rfl ?_
  refine q_iload_n dX5_reported_12 rfl ?_
  refine t_imul_n dX5_reported_13 ?_
  refine q_iload_n dX5_reported_14 rfl ?_
  refine t_iadd_n dX5_reported_15 ?_
  refine v_iald (by decide) dX5_reported_16 hok H.2.2.2.2.2.2.2.1 (j := (8 * a1) + a2) (by omega) ?_
  refine q_iconst (v := nI 1) dX5_reported_17 rfl ?_
  refine q_icmp_ne (tgt := 33) dX5_reported_18 (by decide) (fun c264 => ?_) (fun c264 => ?_)
  ·
    refine q_aload_n dX5_reported_33 rfl ?_
    refine q_iload_n dX5_reported_34 rfl ?_
    refine q_iload_n dX5_reported_35 rfl ?_
    refine q_iload_n dX5_reported_36 rfl ?_
    refine q_iload dX5_reported_37 rfl ?_
    refine v_callV (M' := mX5_including) [.int (nI a1), .int (nI a2), .int (nI 0), .int (a4)] [] kX5 dX5_reported_39 wPX5_114v wIX5_including wSX5_including iX5_including oX5_including rfl hok H.1 (eX5_including_0 Sc Γ n V o ml H hm1 hml a1 (by omega) a2 (by omega) a4 (b) (by omega) hS) (Nat.le_of_ble_eq_true rfl) (Nat.le_of_ble_eq_true rfl) (Nat.le_of_ble_eq_true rfl) rfl (fun h hok => ?_)
    refine q_aload_n dX5_reported_42 rfl ?_
    refine v_geti 15 kX5 (by decide) wPX5_72 dX5_reported_43 hok H.1 rfl ?_
    refine q_iload dX5_reported_46 rfl ?_
    refine q_isub dX5_reported_48 ?_
    exact q_iret dX5_reported_49 rfl (rfl) (hQ _ _ (by dsimp only [vX5_reported_0]; rw [if_neg c264]) (by dsimp only [fX5_reported_0]; rw [if_neg c264]; exact hok))
  ·
    refine q_aload_n dX5_reported_21 rfl ?_
    refine q_iload_n dX5_reported_22 rfl ?_
    refine q_iload_n dX5_reported_23 rfl ?_
    refine q_iload_n dX5_reported_24 rfl ?_
    refine q_iload dX5_reported_25 rfl ?_
    refine v_callV (M' := mX5_excluding) [.int (nI a1), .int (nI a2), .int (nI 0), .int (a4)] [] kX5 dX5_reported_27 wPX5_111v wIX5_excluding wSX5_excluding iX5_excluding oX5_excluding rfl hok H.1 (eX5_excluding_0 Sc Γ n V o ml H hm1 hml a1 (by omega) a2 (by omega) a4 (b) (by omega) hS) (Nat.le_of_ble_eq_true rfl) (Nat.le_of_ble_eq_true rfl) (Nat.le_of_ble_eq_true rfl) rfl (fun h hok => ?_)
    refine q_goto (tgt := 42) dX5_reported_30 (by decide) ?_
    refine q_aload_n dX5_reported_42 rfl ?_
    refine v_geti 15 kX5 (by decide) wPX5_72 dX5_reported_43 hok H.1 rfl ?_
    refine q_iload dX5_reported_46 rfl ?_
    refine q_isub dX5_reported_48 ?_
    exact q_iret dX5_reported_49 rfl (rfl) (hQ _ _ (by dsimp only [vX5_reported_0]; rw [if_pos c264]) (by dsimp only [fX5_reported_0]; rw [if_pos c264]; exact hok))
theorem SX5_reported_0 (o ml : Nat) (a1 : Nat) (a2 : Nat) (a4 : Int32) {V : q_V} {b : Nat} (hS : SB V o b) (hb : b + 2 ≤ 2000000000) : SB (fX5_reported_0 o ml a1 a2 a4 V) o (b + 2) := by
  dsimp only [fX5_reported_0]
  split
  ·
    exact SB.mo (SX5_excluding_0 o ml a1 a2 a4 hS (by omega)) (by omega)
  ·
    exact SB.mo (SX5_including_0 o ml a1 a2 a4 hS (by omega)) (by omega)
def fX5_reported_1 (o ml : Nat) (a1 : Nat) (a2 : Nat) (a4 : Int32) (V : q_V) : q_V := if (V (o + 7) ((8 * a1) + a2)) = (nI 1) then (let V269 := fX5_excluding_1 o ml a1 a2 a4 V; V269) else (let V268 := fX5_including_1 o ml a1 a2 a4 V; V268)
def vX5_reported_1 (o ml : Nat) (a1 : Nat) (a2 : Nat) (a4 : Int32) (V : q_V) : Int32 := if (V (o + 7) ((8 * a1) + a2)) = (nI 1) then (let V269 := fX5_excluding_1 o ml a1 a2 a4 V; ((V269 o 15) - (V o 15))) else (let V268 := fX5_including_1 o ml a1 a2 a4 V; ((V268 o 15) - (V o 15)))
set_option maxRecDepth 20000 in
set_option maxHeartbeats 4000000 in
theorem eX5_reported_1 (Sc : q_S) (Γ : Nat → q_K) (n : Nat) (V : q_V) (o ml : Nat) (H : sM Γ o ml) (hm1 : 1 ≤ ml) (hml : ml ≤ 4) (a1 : Nat) (b1 : a1 < 4) (a2 : Nat) (b2 : a2 < 8) (a4 : Int32) (b : Nat) (hb : b + 2 ≤ 2000000000) (hS : SB V o b) : q_fn Sc Γ mX5_reported [.ref o, .int (nI a1), .int (nI a2), .int (nI 1), .int (a4)] n V (some (.int (vX5_reported_1 o ml a1 a2 a4 V))) (fX5_reported_1 o ml a1 a2 a4 V) := by
  refine q_fn.of fun Q h hQ hok => ?_
  show q_A Sc mX5_reported 0 [.ref o, .int (nI a1), .int (nI a2), .int (nI 1), .int (a4), .retAddr 0] [] h n 0 0 Q
  refine q_aload_n dX5_reported_0 rfl ?_
  refine v_geti 15 kX5 (by decide) wPX5_72 dX5_reported_1 hok H.1 rfl ?_
  refine t_istore [.ref o, .int (nI a1), .int (nI a2), .int (nI 1), .int (a4), .int (V o 15)] (Or.inr ⟨rfl, dX5_reported_4⟩) (by decide) rfl ?_
  refine q_aload_n dX5_reported_6 rfl ?_
  refine v_getr 8 kX5 (by decide) wPX5_28 dX5_reported_7 hok H.1 rfl ?_
  refine q_bipush (v := nI 8) dX5_reported_10 rfl ?_
  refine q_iload_n dX5_reported_12 rfl ?_
  refine t_imul_n dX5_reported_13 ?_
  refine q_iload_n dX5_reported_14 rfl ?_
  refine t_iadd_n dX5_reported_15 ?_
  refine v_iald (by decide) dX5_reported_16 hok H.2.2.2.2.2.2.2.1 (j := (8 * a1) + a2) (by omega) ?_
  refine q_iconst (v := nI 1) dX5_reported_17 rfl ?_
  refine q_icmp_ne (tgt := 33) dX5_reported_18 (by decide) (fun c267 => ?_) (fun c267 => ?_)
  ·
    refine q_aload_n dX5_reported_33 rfl ?_
    refine q_iload_n dX5_reported_34 rfl ?_
    refine q_iload_n dX5_reported_35 rfl ?_
    refine q_iload_n dX5_reported_36 rfl ?_
    refine q_iload dX5_reported_37 rfl ?_
    refine v_callV (M' := mX5_including) [.int (nI a1), .int (nI a2), .int (nI 1), .int (a4)] [] kX5 dX5_reported_39 wPX5_114v wIX5_including wSX5_including iX5_including oX5_including rfl hok H.1 (eX5_including_1 Sc Γ n V o ml H hm1 hml a1 (by omega) a2 (by omega) a4 (b) (by omega) hS) (Nat.le_of_ble_eq_true rfl) (Nat.le_of_ble_eq_true rfl) (Nat.le_of_ble_eq_true rfl) rfl (fun h hok => ?_)
    refine q_aload_n dX5_reported_42 rfl ?_
    refine v_geti 15 kX5 (by decide) wPX5_72 dX5_reported_43 hok H.1 rfl ?_
    refine q_iload dX5_reported_46 rfl ?_
    refine q_isub dX5_reported_48 ?_
    exact q_iret dX5_reported_49 rfl (rfl) (hQ _ _ (by dsimp only [vX5_reported_1]; rw [if_neg c267]) (by dsimp only [fX5_reported_1]; rw [if_neg c267]; exact hok))
  ·
    refine q_aload_n dX5_reported_21 rfl ?_
    refine q_iload_n dX5_reported_22 rfl ?_
    refine q_iload_n dX5_reported_23 rfl ?_
    refine q_iload_n dX5_reported_24 rfl ?_
    refine q_iload dX5_reported_25 rfl ?_
    refine v_callV (M' := mX5_excluding) [.int (nI a1), .int (nI a2), .int (nI 1), .int (a4)] [] kX5 dX5_reported_27 wPX5_111v wIX5_excluding wSX5_excluding iX5_excluding oX5_excluding rfl hok H.1 (eX5_excluding_1 Sc Γ n V o ml H hm1 hml a1 (by omega) a2 (by omega) a4 (b) (by omega) hS) (Nat.le_of_ble_eq_true rfl) (Nat.le_of_ble_eq_true rfl) (Nat.le_of_ble_eq_true rfl) rfl (fun h hok => ?_)
    refine q_goto (tgt := 42) dX5_reported_30 (by decide) ?_
    refine q_aload_n dX5_reported_42 rfl ?_
    refine v_geti 15 kX5 (by decide) wPX5_72 dX5_reported_43 hok H.1 rfl ?_
    refine q_iload dX5_reported_46 rfl ?_
    refine q_isub dX5_reported_48 ?_
    exact q_iret dX5_reported_49 rfl (rfl) (hQ _ _ (by dsimp only [vX5_reported_1]; rw [if_pos c267]) (by dsimp only [fX5_reported_1]; rw [if_pos c267]; exact hok))
theorem SX5_reported_1 (o ml : Nat) (a1 : Nat) (a2 : Nat) (a4 : Int32) {V : q_V} {b : Nat} (hS : SB V o b) (hb : b + 2 ≤ 2000000000) : SB (fX5_reported_1 o ml a1 a2 a4 V) o (b + 2) := by
  dsimp only [fX5_reported_1]
  split
  ·
    exact SB.mo (SX5_excluding_1 o ml a1 a2 a4 hS (by omega)) (by omega)
  ·
    exact SB.mo (SX5_including_1 o ml a1 a2 a4 hS (by omega)) (by omega)
def fX5_reported_2 (o ml : Nat) (a1 : Nat) (a2 : Nat) (a4 : Int32) (V : q_V) : q_V := if (V (o + 7) ((8 * a1) + a2)) = (nI 1) then (let V272 := fX5_excluding_2 o ml a1 a2 a4 V; V272) else (let V271 := fX5_including_2 o ml a1 a2 a4 V; V271)
def vX5_reported_2 (o ml : Nat) (a1 : Nat) (a2 : Nat) (a4 : Int32) (V : q_V) : Int32 := if (V (o + 7) ((8 * a1) + a2)) = (nI 1) then (let V272 := fX5_excluding_2 o ml a1 a2 a4 V; ((V272 o 15) - (V o 15))) else (let V271 := fX5_including_2 o ml a1 a2 a4 V; ((V271 o 15) - (V o 15)))
set_option maxRecDepth 20000 in
set_option maxHeartbeats 4000000 in
theorem eX5_reported_2 (Sc : q_S) (Γ : Nat → q_K) (n : Nat) (V : q_V) (o ml : Nat) (H : sM Γ o ml) (hm1 : 1 ≤ ml) (hml : ml ≤ 4) (a1 : Nat) (b1 : a1 < 4) (a2 : Nat) (b2 : a2 < 8) (a4 : Int32) (b : Nat) (hb : b + 2 ≤ 2000000000) (hS : SB V o b) : q_fn Sc Γ mX5_reported [.ref o, .int (nI a1), .int (nI a2), .int (nI 2), .int (a4)] n V (some (.int (vX5_reported_2 o ml a1 a2 a4 V))) (fX5_reported_2 o ml a1 a2 a4 V) := by
  refine q_fn.of fun Q h hQ hok => ?_
  show q_A Sc mX5_reported 0 [.ref o, .int (nI a1), .int (nI a2), .int (nI 2), .int (a4), .retAddr 0] [] h n 0 0 Q
  refine q_aload_n dX5_reported_0 rfl ?_
  refine v_geti 15 kX5 (by decide) wPX5_72 dX5_reported_1 hok H.1 rfl ?_
  refine t_istore [.ref o, .int (nI a1), .int (nI a2), .int (nI 2), .int (a4), .int (V o 15)] (Or.inr ⟨rfl, dX5_reported_4⟩) (by decide) rfl ?_
  refine q_aload_n dX5_reported_6 rfl ?_
  refine v_getr 8 kX5 (by decide) wPX5_28 dX5_reported_7 hok H.1 rfl ?_
  refine q_bipush (v := nI 8) dX5_reported_10 rfl ?_
  refine q_iload_n dX5_reported_12 rfl ?_
  refine t_imul_n dX5_reported_13 ?_
  refine q_iload_n dX5_reported_14 rfl ?_
  refine t_iadd_n dX5_reported_15 ?_
  refine v_iald (by decide) dX5_reported_16 hok H.2.2.2.2.2.2.2.1 (j := (8 * a1) + a2) (by omega) ?_
  refine q_iconst (v := nI 1) dX5_reported_17 rfl ?_
  refine q_icmp_ne (tgt := 33) dX5_reported_18 (by decide) (fun c270 => ?_) (fun c270 => ?_)
  ·
    refine q_aload_n dX5_reported_33 rfl ?_
    refine q_iload_n dX5_reported_34 rfl ?_
    refine q_iload_n dX5_reported_35 rfl ?_
    refine q_iload_n dX5_reported_36 rfl ?_
    refine q_iload dX5_reported_37 rfl ?_
    refine v_callV (M' := mX5_including) [.int (nI a1), .int (nI a2), .int (nI 2), .int (a4)] [] kX5 dX5_reported_39 wPX5_114v wIX5_including wSX5_including iX5_including oX5_including rfl hok H.1 (eX5_including_2 Sc Γ n V o ml H hm1 hml a1 (by omega) a2 (by omega) a4 (b) (by omega) hS) (Nat.le_of_ble_eq_true rfl) (Nat.le_of_ble_eq_true rfl) (Nat.le_of_ble_eq_true rfl) rfl (fun h hok => ?_)
    refine q_aload_n dX5_reported_42 rfl ?_
    refine v_geti 15 kX5 (by decide) wPX5_72 dX5_reported_43 hok H.1 rfl ?_
    refine q_iload dX5_reported_46 rfl ?_
    refine q_isub dX5_reported_48 ?_
    exact q_iret dX5_reported_49 rfl (rfl) (hQ _ _ (by dsimp only [vX5_reported_2]; rw [if_neg c270]) (by dsimp only [fX5_reported_2]; rw [if_neg c270]; exact hok))
  ·
    refine q_aload_n dX5_reported_21 rfl ?_
    refine q_iload_n dX5_reported_22 rfl ?_
    refine q_iload_n dX5_reported_23 rfl ?_
    refine q_iload_n dX5_reported_24 rfl ?_
    refine q_iload dX5_reported_25 rfl ?_
    refine v_callV (M' := mX5_excluding) [.int (nI a1), .int (nI a2), .int (nI 2), .int (a4)] [] kX5 dX5_reported_27 wPX5_111v wIX5_excluding wSX5_excluding iX5_excluding oX5_excluding rfl hok H.1 (eX5_excluding_2 Sc Γ n V o ml H hm1 hml a1 (by omega) a2 (by omega) a4 (b) (by omega) hS) (Nat.le_of_ble_eq_true rfl) (Nat.le_of_ble_eq_true rfl) (Nat.le_of_ble_eq_true rfl) rfl (fun h hok => ?_)
    refine q_goto (tgt := 42) dX5_reported_30 (by decide) ?_
    refine q_aload_n dX5_reported_42 rfl ?_
    refine v_geti 15 kX5 (by decide) wPX5_72 dX5_reported_43 hok H.1 rfl ?_
    refine q_iload dX5_reported_46 rfl ?_
    refine q_isub dX5_reported_48 ?_
    exact q_iret dX5_reported_49 rfl (rfl) (hQ _ _ (by dsimp only [vX5_reported_2]; rw [if_pos c270]) (by dsimp only [fX5_reported_2]; rw [if_pos c270]; exact hok))
theorem SX5_reported_2 (o ml : Nat) (a1 : Nat) (a2 : Nat) (a4 : Int32) {V : q_V} {b : Nat} (hS : SB V o b) (hb : b + 2 ≤ 2000000000) : SB (fX5_reported_2 o ml a1 a2 a4 V) o (b + 2) := by
  dsimp only [fX5_reported_2]
  split
  ·
    exact SB.mo (SX5_excluding_2 o ml a1 a2 a4 hS (by omega)) (by omega)
  ·
    exact SB.mo (SX5_including_2 o ml a1 a2 a4 hS (by omega)) (by omega)
def fX5_reported_3 (o ml : Nat) (a1 : Nat) (a2 : Nat) (a4 : Int32) (V : q_V) : q_V := if (V (o + 7) ((8 * a1) + a2)) = (nI 1) then (let V275 := fX5_excluding_3 o ml a1 a2 a4 V; V275) else (let V274 := fX5_including_3 o ml a1 a2 a4 V; V274)
def vX5_reported_3 (o ml : Nat) (a1 : Nat) (a2 : Nat) (a4 : Int32) (V : q_V) : Int32 := if (V (o + 7) ((8 * a1) + a2)) = (nI 1) then (let V275 := fX5_excluding_3 o ml a1 a2 a4 V; ((V275 o 15) - (V o 15))) else (let V274 := fX5_including_3 o ml a1 a2 a4 V; ((V274 o 15) - (V o 15)))
set_option maxRecDepth 20000 in
set_option maxHeartbeats 4000000 in
theorem eX5_reported_3 (Sc : q_S) (Γ : Nat → q_K) (n : Nat) (V : q_V) (o ml : Nat) (H : sM Γ o ml) (hm1 : 1 ≤ ml) (hml : ml ≤ 4) (a1 : Nat) (b1 : a1 < 4) (a2 : Nat) (b2 : a2 < 8) (a4 : Int32) (b : Nat) (hb : b + 2 ≤ 2000000000) (hS : SB V o b) : q_fn Sc Γ mX5_reported [.ref o, .int (nI a1), .int (nI a2), .int (nI 3), .int (a4)] n V (some (.int (vX5_reported_3 o ml a1 a2 a4 V))) (fX5_reported_3 o ml a1 a2 a4 V) := by
  refine q_fn.of fun Q h hQ hok => ?_
  show q_A Sc mX5_reported 0 [.ref o, .int (nI a1), .int (nI a2), .int (nI 3), .int (a4), .retAddr 0] [] h n 0 0 Q
  refine q_aload_n dX5_reported_0 rfl ?_
  refine v_geti 15 kX5 (by decide) wPX5_72 dX5_reported_1 hok H.1 rfl ?_
  refine t_istore [.ref o, .int (nI a1), .int (nI a2), .int (nI 3), .int (a4), .int (V o 15)] (Or.inr ⟨rfl, dX5_reported_4⟩) (by decide) rfl ?_
  refine q_aload_n dX5_reported_6 rfl ?_
  refine v_getr 8 kX5 (by decide) wPX5_28 dX5_reported_7 hok H.1 rfl ?_
  refine q_bipush (v := nI 8) dX5_reported_10 rfl ?_
  refine q_iload_n dX5_reported_12 rfl ?_
  refine t_imul_n dX5_reported_13 ?_
  refine q_iload_n dX5_reported_14 rfl ?_
  refine t_iadd_n dX5_reported_15 ?_
  refine v_iald (by decide) dX5_reported_16 hok H.2.2.2.2.2.2.2.1 (j := (8 * a1) + a2) (by omega) ?_
  refine q_iconst (v := nI 1) dX5_reported_17 rfl ?_
  refine q_icmp_ne (tgt := 33) dX5_reported_18 (by decide) (fun c273 => ?_) (fun c273 => ?_)
  ·
    refine q_aload_n dX5_reported_33 rfl ?_
    refine q_iload_n dX5_reported_34 rfl ?_
    refine q_iload_n dX5_reported_35 rfl ?_
    refine q_iload_n dX5_reported_36 rfl ?_
    refine q_iload dX5_reported_37 rfl ?_
    refine v_callV (M' := mX5_including) [.int (nI a1), .int (nI a2), .int (nI 3), .int (a4)] [] kX5 dX5_reported_39 wPX5_114v wIX5_including wSX5_including iX5_including oX5_including rfl hok H.1 (eX5_including_3 Sc Γ n V o ml H hm1 hml a1 (by omega) a2 (by omega) a4 (b) (by omega) hS) (Nat.le_of_ble_eq_true rfl) (Nat.le_of_ble_eq_true rfl) (Nat.le_of_ble_eq_true rfl) rfl (fun h hok => ?_)
    refine q_aload_n dX5_reported_42 rfl ?_
    refine v_geti 15 kX5 (by decide) wPX5_72 dX5_reported_43 hok H.1 rfl ?_
    refine q_iload dX5_reported_46 rfl ?_
    refine q_isub dX5_reported_48 ?_
    exact q_iret dX5_reported_49 rfl (rfl) (hQ _ _ (by dsimp only [vX5_reported_3]; rw [if_neg c273]) (by dsimp only [fX5_reported_3]; rw [if_neg c273]; exact hok))
  ·
    refine q_aload_n dX5_reported_21 rfl ?_
    refine q_iload_n dX5_reported_22 rfl ?_
    refine q_iload_n dX5_reported_23 rfl ?_
    refine q_iload_n dX5_reported_24 rfl ?_
    refine q_iload dX5_reported_25 rfl ?_
    refine v_callV (M' := mX5_excluding) [.int (nI a1), .int (nI a2), .int (nI 3), .int (a4)] [] kX5 dX5_reported_27 wPX5_111v wIX5_excluding wSX5_excluding iX5_excluding oX5_excluding rfl hok H.1 (eX5_excluding_3 Sc Γ n V o ml H hm1 hml a1 (by omega) a2 (by omega) a4 (b) (by omega) hS) (Nat.le_of_ble_eq_true rfl) (Nat.le_of_ble_eq_true rfl) (Nat.le_of_ble_eq_true rfl) rfl (fun h hok => ?_)
    refine q_goto (tgt := 42) dX5_reported_30 (by decide) ?_
    refine q_aload_n dX5_reported_42 rfl ?_
    refine v_geti 15 kX5 (by decide) wPX5_72 dX5_reported_43 hok H.1 rfl ?_
    refine q_iload dX5_reported_46 rfl ?_
    refine q_isub dX5_reported_48 ?_
    exact q_iret dX5_reported_49 rfl (rfl) (hQ _ _ (by dsimp only [vX5_reported_3]; rw [if_pos c273]) (by dsimp only [fX5_reported_3]; rw [if_pos c273]; exact hok))
theorem SX5_reported_3 (o ml : Nat) (a1 : Nat) (a2 : Nat) (a4 : Int32) {V : q_V} {b : Nat} (hS : SB V o b) (hb : b + 2 ≤ 2000000000) : SB (fX5_reported_3 o ml a1 a2 a4 V) o (b + 2) := by
  dsimp only [fX5_reported_3]
  split
  ·
    exact SB.mo (SX5_excluding_3 o ml a1 a2 a4 hS (by omega)) (by omega)
  ·
    exact SB.mo (SX5_including_3 o ml a1 a2 a4 hS (by omega)) (by omega)
def fX5_reported_4 (o ml : Nat) (a1 : Nat) (a2 : Nat) (a4 : Int32) (V : q_V) : q_V := if (V (o + 7) ((8 * a1) + a2)) = (nI 1) then (let V278 := fX5_excluding_4 o ml a1 a2 a4 V; V278) else (let V277 := fX5_including_4 o ml a1 a2 a4 V; V277)
def vX5_reported_4 (o ml : Nat) (a1 : Nat) (a2 : Nat) (a4 : Int32) (V : q_V) : Int32 := if (V (o + 7) ((8 * a1) + a2)) = (nI 1) then (let V278 := fX5_excluding_4 o ml a1 a2 a4 V; ((V278 o 15) - (V o 15))) else (let V277 := fX5_including_4 o ml a1 a2 a4 V; ((V277 o 15) - (V o 15)))
set_option maxRecDepth 20000 in
set_option maxHeartbeats 4000000 in
theorem eX5_reported_4 (Sc : q_S) (Γ : Nat → q_K) (n : Nat) (V : q_V) (o ml : Nat) (H : sM Γ o ml) (hm1 : 1 ≤ ml) (hml : ml ≤ 4) (a1 : Nat) (b1 : a1 < 4) (a2 : Nat) (b2 : a2 < 8) (a4 : Int32) (b : Nat) (hb : b + 2 ≤ 2000000000) (hS : SB V o b) : q_fn Sc Γ mX5_reported [.ref o, .int (nI a1), .int (nI a2), .int (nI 4), .int (a4)] n V (some (.int (vX5_reported_4 o ml a1 a2 a4 V))) (fX5_reported_4 o ml a1 a2 a4 V) := by
  refine q_fn.of fun Q h hQ hok => ?_
  show q_A Sc mX5_reported 0 [.ref o, .int (nI a1), .int (nI a2), .int (nI 4), .int (a4), .retAddr 0] [] h n 0 0 Q
  refine q_aload_n dX5_reported_0 rfl ?_
  refine v_geti 15 kX5 (by decide) wPX5_72 dX5_reported_1 hok H.1 rfl ?_
  refine t_istore [.ref o, .int (nI a1), .int (nI a2), .int (nI 4), .int (a4), .int (V o 15)] (Or.inr ⟨rfl, dX5_reported_4⟩) (by decide) rfl ?_
  refine q_aload_n dX5_reported_6 rfl ?_
  refine v_getr 8 kX5 (by decide) wPX5_28 dX5_reported_7 hok H.1 rfl ?_
  refine q_bipush (v := nI 8) dX5_reported_10 rfl ?_
  refine q_iload_n dX5_reported_12 rfl ?_
  refine t_imul_n dX5_reported_13 ?_
  refine q_iload_n dX5_reported_14 rfl ?_
  refine t_iadd_n dX5_reported_15 ?_
  refine v_iald (by decide) dX5_reported_16 hok H.2.2.2.2.2.2.2.1 (j := (8 * a1) + a2) (by omega) ?_
  refine q_iconst (v := nI 1) dX5_reported_17 rfl ?_
  refine q_icmp_ne (tgt := 33) dX5_reported_18 (by decide) (fun c276 => ?_) (fun c276 => ?_)
  ·
    refine q_aload_n dX5_reported_33 rfl ?_
    refine q_iload_n dX5_reported_34 rfl ?_
    refine q_iload_n dX5_reported_35 rfl ?_
    refine q_iload_n dX5_reported_36 rfl ?_
    refine q_iload dX5_reported_37 rfl ?_
    refine v_callV (M' := mX5_including) [.int (nI a1), .int (nI a2), .int (nI 4), .int (a4)] [] kX5 dX5_reported_39 wPX5_114v wIX5_including wSX5_including iX5_including oX5_including rfl hok H.1 (eX5_including_4 Sc Γ n V o ml H hm1 hml a1 (by omega) a2 (by omega) a4 (b) (by omega) hS) (Nat.le_of_ble_eq_true rfl) (Nat.le_of_ble_eq_true rfl) (Nat.le_of_ble_eq_true rfl) rfl (fun h hok => ?_)
    refine q_aload_n dX5_reported_42 rfl ?_
    refine v_geti 15 kX5 (by decide) wPX5_72 dX5_reported_43 hok H.1 rfl ?_
    refine q_iload dX5_reported_46 rfl ?_
    refine q_isub dX5_reported_48 ?_
    exact q_iret dX5_reported_49 rfl (rfl) (hQ _ _ (by dsimp only [vX5_reported_4]; rw [if_neg c276]) (by dsimp only [fX5_reported_4]; rw [if_neg c276]; exact hok))
  ·
    refine q_aload_n dX5_reported_21 rfl ?_
    refine q_iload_n dX5_reported_22 rfl ?_
    refine q_iload_n dX5_reported_23 rfl ?_
    refine q_iload_n dX5_reported_24 rfl ?_
    refine q_iload dX5_reported_25 rfl ?_
    refine v_callV (M' := mX5_excluding) [.int (nI a1), .int (nI a2), .int (nI 4), .int (a4)] [] kX5 dX5_reported_27 wPX5_111v wIX5_excluding wSX5_excluding iX5_excluding oX5_excluding rfl hok H.1 (eX5_excluding_4 Sc Γ n V o ml H hm1 hml a1 (by omega) a2 (by omega) a4 (b) (by omega) hS) (Nat.le_of_ble_eq_true rfl) (Nat.le_of_ble_eq_true rfl) (Nat.le_of_ble_eq_true rfl) rfl (fun h hok => ?_)
    refine q_goto (tgt := 42) dX5_reported_30 (by decide) ?_
    refine q_aload_n dX5_reported_42 rfl ?_
    refine v_geti 15 kX5 (by decide) wPX5_72 dX5_reported_43 hok H.1 rfl ?_
    refine q_iload dX5_reported_46 rfl ?_
    refine q_isub dX5_reported_48 ?_
    exact q_iret dX5_reported_49 rfl (rfl) (hQ _ _ (by dsimp only [vX5_reported_4]; rw [if_pos c276]) (by dsimp only [fX5_reported_4]; rw [if_pos c276]; exact hok))
theorem SX5_reported_4 (o ml : Nat) (a1 : Nat) (a2 : Nat) (a4 : Int32) {V : q_V} {b : Nat} (hS : SB V o b) (hb : b + 2 ≤ 2000000000) : SB (fX5_reported_4 o ml a1 a2 a4 V) o (b + 2) := by
  dsimp only [fX5_reported_4]
  split
  ·
    exact SB.mo (SX5_excluding_4 o ml a1 a2 a4 hS (by omega)) (by omega)
  ·
    exact SB.mo (SX5_including_4 o ml a1 a2 a4 hS (by omega)) (by omega)
def fX5_reported_5 (o ml : Nat) (a1 : Nat) (a2 : Nat) (a4 : Int32) (V : q_V) : q_V := if (V (o + 7) ((8 * a1) + a2)) = (nI 1) then (let V281 := fX5_excluding_5 o ml a1 a2 a4 V; V281) else (let V280 := fX5_including_5 o ml a1 a2 a4 V; V280)
def vX5_reported_5 (o ml : Nat) (a1 : Nat) (a2 : Nat) (a4 : Int32) (V : q_V) : Int32 := if (V (o + 7) ((8 * a1) + a2)) = (nI 1) then (let V281 := fX5_excluding_5 o ml a1 a2 a4 V; ((V281 o 15) - (V o 15))) else (let V280 := fX5_including_5 o ml a1 a2 a4 V; ((V280 o 15) - (V o 15)))
set_option maxRecDepth 20000 in
set_option maxHeartbeats 4000000 in
theorem eX5_reported_5 (Sc : q_S) (Γ : Nat → q_K) (n : Nat) (V : q_V) (o ml : Nat) (H : sM Γ o ml) (hm1 : 1 ≤ ml) (hml : ml ≤ 4) (a1 : Nat) (b1 : a1 < 4) (a2 : Nat) (b2 : a2 < 8) (a4 : Int32) (b : Nat) (hb : b + 2 ≤ 2000000000) (hS : SB V o b) : q_fn Sc Γ mX5_reported [.ref o, .int (nI a1), .int (nI a2), .int (nI 5), .int (a4)] n V (some (.int (vX5_reported_5 o ml a1 a2 a4 V))) (fX5_reported_5 o ml a1 a2 a4 V) := by
  refine q_fn.of fun Q h hQ hok => ?_
  show q_A Sc mX5_reported 0 [.ref o, .int (nI a1), .int (nI a2), .int (nI 5), .int (a4), .retAddr 0] [] h n 0 0 Q
  refine q_aload_n dX5_reported_0 rfl ?_
  refine v_geti 15 kX5 (by decide) wPX5_72 dX5_reported_1 hok H.1 rfl ?_
  refine t_istore [.ref o, .int (nI a1), .int (nI a2), .int (nI 5), .int (a4), .int (V o 15)] (Or.inr ⟨rfl, dX5_reported_4⟩) (by decide) rfl ?_
  refine q_aload_n dX5_reported_6 rfl ?_
  refine v_getr 8 kX5 (by decide) wPX5_28 dX5_reported_7 hok H.1 rfl ?_
  refine q_bipush (v := nI 8) dX5_reported_10 rfl ?_
  refine q_iload_n dX5_reported_12 rfl ?_
  refine t_imul_n dX5_reported_13 ?_
  refine q_iload_n dX5_reported_14 rfl ?_
  refine t_iadd_n dX5_reported_15 ?_
  refine v_iald (by decide) dX5_reported_16 hok H.2.2.2.2.2.2.2.1 (j := (8 * a1) + a2) (by omega) ?_
  refine q_iconst (v := nI 1) dX5_reported_17 rfl ?_
  refine q_icmp_ne (tgt := 33) dX5_reported_18 (by decide) (fun c279 => ?_) (fun c279 => ?_)
  ·
    refine q_aload_n dX5_reported_33 rfl ?_
    refine q_iload_n dX5_reported_34 rfl ?_
    refine q_iload_n dX5_reported_35 rfl ?_
    refine q_iload_n dX5_reported_36 rfl ?_
    refine q_iload dX5_reported_37 rfl ?_
    refine v_callV (M' := mX5_including) [.int (nI a1), .int (nI a2), .int (nI 5), .int (a4)] [] kX5 dX5_reported_39 wPX5_114v wIX5_including wSX5_including iX5_including oX5_including rfl hok H.1 (eX5_including_5 Sc Γ n V o ml H hm1 hml a1 (by omega) a2 (by omega) a4 (b) (by omega) hS) (Nat.le_of_ble_eq_true rfl) (Nat.le_of_ble_eq_true rfl) (Nat.le_of_ble_eq_true rfl) rfl (fun h hok => ?_)
    refine q_aload_n dX5_reported_42 rfl ?_
    refine v_geti 15 kX5 (by decide) wPX5_72 dX5_reported_43 hok H.1 rfl ?_
    refine q_iload dX5_reported_46 rfl ?_
    refine q_isub dX5_reported_48 ?_
    exact q_iret dX5_reported_49 rfl (rfl) (hQ _ _ (by dsimp only [vX5_reported_5]; rw [if_neg c279]) (by dsimp only [fX5_reported_5]; rw [if_neg c279]; exact hok))
  ·
    refine q_aload_n dX5_reported_21 rfl ?_
    refine q_iload_n dX5_reported_22 rfl ?_
    refine q_iload_n dX5_reported_23 rfl ?_
    refine q_iload_n dX5_reported_24 rfl ?_
    refine q_iload dX5_reported_25 rfl ?_
    refine v_callV (M' := mX5_excluding) [.int (nI a1), .int (nI a2), .int (nI 5), .int (a4)] [] kX5 dX5_reported_27 wPX5_111v wIX5_excluding wSX5_excluding iX5_excluding oX5_excluding rfl hok H.1 (eX5_excluding_5 Sc Γ n V o ml H hm1 hml a1 (by omega) a2 (by omega) a4 (b) (by omega) hS) (Nat.le_of_ble_eq_true rfl) (Nat.le_of_ble_eq_true rfl) (Nat.le_of_ble_eq_true rfl) rfl (fun h hok => ?_)
    refine q_goto (tgt := 42) dX5_reported_30 (by decide) ?_
    refine q_aload_n dX5_reported_42 rfl ?_
    refine v_geti 15 kX5 (by decide) wPX5_72 dX5_reported_43 hok H.1 rfl ?_
    refine q_iload dX5_reported_46 rfl ?_
    refine q_isub dX5_reported_48 ?_
    exact q_iret dX5_reported_49 rfl (rfl) (hQ _ _ (by dsimp only [vX5_reported_5]; rw [if_pos c279]) (by dsimp only [fX5_reported_5]; rw [if_pos c279]; exact hok))
theorem SX5_reported_5 (o ml : Nat) (a1 : Nat) (a2 : Nat) (a4 : Int32) {V : q_V} {b : Nat} (hS : SB V o b) (hb : b + 2 ≤ 2000000000) : SB (fX5_reported_5 o ml a1 a2 a4 V) o (b + 2) := by
  dsimp only [fX5_reported_5]
  split
  ·
    exact SB.mo (SX5_excluding_5 o ml a1 a2 a4 hS (by omega)) (by omega)
  ·
    exact SB.mo (SX5_including_5 o ml a1 a2 a4 hS (by omega)) (by omega)
