def fX5_tickRecord (o ml : Nat) (a1 : Nat) (V : q_V) : q_V := if (V (o + 8) a1) = (nI 1) then (if (V (o + 8) a1) ≤ 0 then (let V317 := vset V (o + 8) a1 (nI 0); let B318 := fun (k318 : Nat) (s318 : Int32 × q_V) => let g318a := s318.1; let W318 := s318.2; if (W318 (o + 10) ((16 * a1) + k318)) = (nI 1) then (if (W318 (o + 10) ((16 * a1) + k318)) ≤ 0 then (let V325 := vset W318 (o + 10) ((16 * a1) + k318) (nI 0); ((g318a) + ((nI 1) <<< ((nI k318) &&& 31)), V325)) else (let V326 := vset W318 (o + 10) ((16 * a1) + k318) ((W318 (o + 10) ((16 * a1) + k318)) - (nI 1)); ((g318a) + ((nI 1) <<< ((nI k318) &&& 31)), V326))) else (if (W318 (o + 10) ((16 * a1) + k318)) ≤ 0 then (let V322 := vset W318 (o + 10) ((16 * a1) + k318) (nI 0); (g318a, V322)) else (let V323 := vset W318 (o + 10) ((16 * a1) + k318) ((W318 (o + 10) ((16 * a1) + k318)) - (nI 1)); (g318a, V323))); let T318 := lp B318 16 0 (nI 0, V317); let V327 := T318.2; if (V327 (o + 7) a1) = (-1) then (V327) else (if (V327 (o + 7) a1) = (nI 1) then (let V332 := fX5_become_0 o ml a1 ((vX5_setOf_1 o ml a1 V327) &&& ((T318.1) ^^^ (-1))) (nI 0) V327; V332) else (let V331 := fX5_become_0 o ml a1 ((vX5_setOf_1 o ml a1 V327) &&& ((T318.1) ^^^ (-1))) (nI 0) V327; V331))) else (let V333 := vset V (o + 8) a1 ((V (o + 8) a1) - (nI 1)); let B334 := fun (k334 : Nat) (s334 : Int32 × q_V) => let g334a := s334.1; let W334 := s334.2; if (W334 (o + 10) ((16 * a1) + k334)) = (nI 1) then (if (W334 (o + 10) ((16 * a1) + k334)) ≤ 0 then (let V341 := vset W334 (o + 10) ((16 * a1) + k334) (nI 0); ((g334a) + ((nI 1) <<< ((nI k334) &&& 31)), V341)) else (let V342 := vset W334 (o + 10) ((16 * a1) + k334) ((W334 (o + 10) ((16 * a1) + k334)) - (nI 1)); ((g334a) + ((nI 1) <<< ((nI k334) &&& 31)), V342))) else (if (W334 (o + 10) ((16 * a1) + k334)) ≤ 0 then (let V338 := vset W334 (o + 10) ((16 * a1) + k334) (nI 0); (g334a, V338)) else (let V339 := vset W334 (o + 10) ((16 * a1) + k334) ((W334 (o + 10) ((16 * a1) + k334)) - (nI 1)); (g334a, V339))); let T334 := lp B334 16 0 (nI 0, V333); let V343 := T334.2; if (V343 (o + 7) a1) = (-1) then (V343) else (if (V343 (o + 7) a1) = (nI 1) then (let V348 := fX5_become_0 o ml a1 ((vX5_setOf_1 o ml a1 V343) &&& ((T334.1) ^^^ (-1))) (nI 0) V343; V348) else (let V347 := fX5_become_0 o ml a1 ((vX5_setOf_1 o ml a1 V343) &&& ((T334.1) ^^^ (-1))) (nI 0) V343; V347)))) else (if (V (o + 8) a1) ≤ 0 then (let V284 := vset V (o + 8) a1 (nI 0); let B285 := fun (k285 : Nat) (s285 : Int32 × q_V) => let g285a := s285.1; let W285 := s285.2; if (W285 (o + 10) ((16 * a1) + k285)) = (nI 1) then (if (W285 (o + 10) ((16 * a1) + k285)) ≤ 0 then (let V292 := vset W285 (o + 10) ((16 * a1) + k285) (nI 0); ((g285a) + ((nI 1) <<< ((nI k285) &&& 31)), V292)) else (let V293 := vset W285 (o + 10) ((16 * a1) + k285) ((W285 (o + 10) ((16 * a1) + k285)) - (nI 1)); ((g285a) + ((nI 1) <<< ((nI k285) &&& 31)), V293))) else (if (W285 (o + 10) ((16 * a1) + k285)) ≤ 0 then (let V289 := vset W285 (o + 10) ((16 * a1) + k285) (nI 0); (g285a, V289)) else (let V290 := vset W285 (o + 10) ((16 * a1) + k285) ((W285 (o + 10) ((16 * a1) + k285)) - (nI 1)); (g285a, V290))); let T285 := lp B285 16 0 (nI 0, V284); let V294 := T285.2; if (V294 (o + 7) a1) = (-1) then (V294) else (if (V294 (o + 7) a1) = (nI 1) then (let V299 := fX5_become_1 o ml a1 ((vX5_setOf_1 o ml a1 V294) &&& ((T285.1) ^^^ (-1))) ((vX5_setOf_2 o ml a1 V294) ||| (T285.1)) V294; V299) else (let V298 := fX5_become_0 o ml a1 ((vX5_setOf_1 o ml a1 V294) &&& ((T285.1) ^^^ (-1))) (nI 0) V294; V298))) else (let V300 := vset V (o + 8) a1 ((V (o + 8) a1) - (nI 1)); let B301 := fun (k301 : Nat) (s301 : Int32 × q_V) => let g301a := s301.1; let W301 := s301.2; if (W301 (o + 10) ((16 * a1) + k301)) = (nI 1) then (if (W301 (o + 10) ((16 * a1) + k301)) ≤ 0 then (let V308 := vset W301 (o + 10) ((16 * a1) + k301) (nI 0); ((g301a) + ((nI 1) <<< ((nI k301) &&& 31)), V308)) else (let V309 := vset W301 (o + 10) ((16 * a1) + k301) ((W301 (o + 10) ((16 * a1) + k301)) - (nI 1)); ((g301a) + ((nI 1) <<< ((nI k301) &&& 31)), V309))) else (if (W301 (o + 10) ((16 * a1) + k301)) ≤ 0 then (let V305 := vset W301 (o + 10) ((16 * a1) + k301) (nI 0); (g301a, V305)) else (let V306 := vset W301 (o + 10) ((16 * a1) + k301) ((W301 (o + 10) ((16 * a1) + k301)) - (nI 1)); (g301a, V306))); let T301 := lp B301 16 0 (nI 0, V300); let V310 := T301.2; if (V310 (o + 7) a1) = (-1) then (V310) else (if (V310 (o + 7) a1) = (nI 1) then (let V315 := fX5_become_1 o ml a1 ((vX5_setOf_1 o ml a1 V310) &&& ((T301.1) ^^^ (-1))) ((vX5_setOf_2 o ml a1 V310) ||| (T301.1)) V310; V315) else (let V314 := fX5_become_0 o ml a1 ((vX5_setOf_1 o ml a1 V310) &&& ((T301.1) ^^^ (-1))) (nI 0) V310; V314))))
set_option maxRecDepth 20000 in
set_option maxHeartbeats 4000000 in
theorem eX5_tickRecord (Sc : q_S) (Γ : Nat → q_K) (n : Nat) (V : q_V) (o ml : Nat) (H : sM Γ o ml) (hm1 : 1 ≤ ml) (hml : ml ≤ 4) (a1 : Nat) (b1 : a1 < 32) : q_fn Sc Γ mX5_tickRecord [.ref o, .int (nI a1)] n V none (fX5_tickRecord o ml a1 V) := by
  refine q_fn.of fun Q h hQ hok => ?_
  show q_A Sc mX5_tickRecord 0 [.ref o, .int (nI a1), .retAddr 0, .retAddr 0, .retAddr 0, .retAddr 0] [] h n 0 0 Q
  refine q_aload_n dX5_tickRecord_0 rfl ?_
  refine v_getr 9 kX5 (by decide) wPX5_31 dX5_tickRecord_1 hok H.1 rfl ?_
  refine q_iload_n dX5_tickRecord_4 rfl ?_
  refine v_iald (by decide) dX5_tickRecord_5 hok H.2.2.2.2.2.2.2.2.1 (j := a1) (by omega) ?_
  refine q_iconst (v := nI 1) dX5_tickRecord_6 rfl ?_
  refine q_icmp_ne (tgt := 14) dX5_tickRecord_7 (by decide) (fun c282 => ?_) (fun c282 => ?_)
  ·
    refine q_iconst (v := nI 0) dX5_tickRecord_14 rfl ?_
    refine t_istore [.ref o, .int (nI a1), .int (nI 0), .retAddr 0, .retAddr 0, .retAddr 0] (Or.inl ⟨2, rfl, rfl, dX5_tickRecord_15⟩) (by decide) rfl ?_
    refine q_aload_n dX5_tickRecord_16 rfl ?_
    refine v_getr 9 kX5 (by decide) wPX5_31 dX5_tickRecord_17 hok H.1 rfl ?_
    refine q_iload_n dX5_tickRecord_20 rfl ?_
    refine q_aload_n dX5_tickRecord_21 rfl ?_
    refine v_getr 9 kX5 (by decide) wPX5_31 dX5_tickRecord_22 hok H.1 rfl ?_
    refine q_iload_n dX5_tickRecord_25 rfl ?_
    refine v_iald (by decide) dX5_tickRecord_26 hok H.2.2.2.2.2.2.2.2.1 (j := a1) (by omega) ?_
    refine q_if_le (tgt := 41) dX5_tickRecord_27 (by decide) (fun c283 => ?_) (fun c283 => ?_)
    ·
      refine q_iconst (v := nI 0) dX5_tickRecord_41 rfl ?_
      refine v_iast (by decide) dX5_tickRecord_42 hok H.2.2.2.2.2.2.2.2.1 (j := a1) (by omega) (fun h hok => ?_)
      refine q_iconst (v := nI 0) dX5_tickRecord_43 rfl ?_
      refine t_istore [.ref o, .int (nI a1), .int (nI 0), .int (nI 0), .retAddr 0, .retAddr 0] (Or.inl ⟨3, rfl, rfl, dX5_tickRecord_44⟩) (by decide) rfl ?_
      refine q_iconst (v := nI 0) dX5_tickRecord_45 rfl ?_
      refine t_istore [.ref o, .int (nI a1), .int (nI 0), .int (nI 0), .int (nI 0), .retAddr 0] (Or.inr ⟨rfl, dX5_tickRecord_46⟩) (by decide) rfl ?_
      obtain ⟨B285, hB285⟩ : ∃ B_ : Nat → (Int32 × q_V) → (Int32 × q_V), B_ = (fun (k285 : Nat) (s285 : Int32 × q_V) => let g285a := s285.1; let W285 := s285.2; if (W285 (o + 10) ((16 * a1) + k285)) = (nI 1) then (if (W285 (o + 10) ((16 * a1) + k285)) ≤ 0 then (((g285a) + ((nI 1) <<< ((nI k285) &&& 31)), (vset W285 (o + 10) ((16 * a1) + k285) (nI 0)))) else (((g285a) + ((nI 1) <<< ((nI k285) &&& 31)), (vset W285 (o + 10) ((16 * a1) + k285) ((W285 (o + 10) ((16 * a1) + k285)) - (nI 1)))))) else (if (W285 (o + 10) ((16 * a1) + k285)) ≤ 0 then ((g285a, (vset W285 (o + 10) ((16 * a1) + k285) (nI 0)))) else ((g285a, (vset W285 (o + 10) ((16 * a1) + k285) ((W285 (o + 10) ((16 * a1) + k285)) - (nI 1))))))) := ⟨_, rfl⟩
      have hl285 : ∀ (d285 k285 : Nat) (g285a : Int32) (W285 : q_V) (h : q_H), k285 + d285 = 16 → lp B285 d285 k285 (g285a, W285) = (lp B285 16 0 (nI 0, (vset V (o + 8) a1 (nI 0)))) → q_ok (gX Γ W285) h → q_A Sc mX5_tickRecord 48 [.ref o, .int (nI a1), .int (nI 0), .int (g285a), .int (nI k285), .retAddr 0] [] h n 0 0 Q := by
        intro d285
        induction d285 with
        | zero =>
          intro k285 g285a W285 h e285 hT285 hok
          obtain ⟨hq2850, hq2851⟩ : g285a = ((lp B285 16 0 (nI 0, (vset V (o + 8) a1 (nI 0)))).1) ∧ W285 = ((lp B285 16 0 (nI 0, (vset V (o + 8) a1 (nI 0)))).2) := ⟨congrArg (fun q => q.1) hT285, congrArg (fun q => q.2) hT285⟩
          subst hq2850
          subst hq2851
          refine q_iload dX5_tickRecord_48 rfl ?_
          refine q_bipush (v := nI 16) dX5_tickRecord_50 rfl ?_
          refine t_icmp_ge_n (tgt := 117) (by omega) (by omega) dX5_tickRecord_52 (by decide) (fun c295 => ?_) (fun c295 => ?_)
          rotate_left
          · exact absurd c295 (by omega)
          refine q_aload_n dX5_tickRecord_117 rfl ?_
          refine v_getr 8 kX5 (by decide) wPX5_28 dX5_tickRecord_118 hok H.1 rfl ?_
          refine q_iload_n dX5_tickRecord_121 rfl ?_
          refine v_iald (by decide) dX5_tickRecord_122 hok H.2.2.2.2.2.2.2.1 (j := a1) (by omega) ?_
          refine q_iconst (v := -1) dX5_tickRecord_123 rfl ?_
          refine q_icmp_ne (tgt := 128) dX5_tickRecord_124 (by decide) (fun c296 => ?_) (fun c296 => ?_)
          ·
            refine q_aload_n dX5_tickRecord_128 rfl ?_
            refine q_iload_n dX5_tickRecord_129 rfl ?_
            refine q_iconst (v := nI 1) dX5_tickRecord_130 rfl ?_
            refine v_callV (M' := mX5_setOf) [.int (nI a1), .int (nI 1)] [] kX5 dX5_tickRecord_131 wPX5_90v wIX5_setOf wSX5_setOf iX5_setOf oX5_setOf rfl hok H.1 (eX5_setOf_1 Sc Γ n ((lp B285 16 0 (nI 0, (vset V (o + 8) a1 (nI 0)))).2) o ml H hm1 hml a1 (by omega)) (Nat.le_of_ble_eq_true rfl) (Nat.le_of_ble_eq_true rfl) (Nat.le_of_ble_eq_true rfl) rfl (fun h hok => ?_)
            refine t_istore [.ref o, .int (nI a1), .int (nI 0), .int ((lp B285 16 0 (nI 0, (vset V (o + 8) a1 (nI 0)))).1), .int (vX5_setOf_1 o ml a1 ((lp B285 16 0 (nI 0, (vset V (o + 8) a1 (nI 0)))).2)), .retAddr 0] (Or.inr ⟨rfl, dX5_tickRecord_134⟩) (by decide) rfl ?_
            refine q_aload_n dX5_tickRecord_136 rfl ?_
            refine q_iload_n dX5_tickRecord_137 rfl ?_
            refine q_iconst (v := nI 2) dX5_tickRecord_138 rfl ?_
            refine v_callV (M' := mX5_setOf) [.int (nI a1), .int (nI 2)] [] kX5 dX5_tickRecord_139 wPX5_90v wIX5_setOf wSX5_setOf iX5_setOf oX5_setOf rfl hok H.1 (eX5_setOf_2 Sc Γ n ((lp B285 16 0 (nI 0, (vset V (o + 8) a1 (nI 0)))).2) o ml H hm1 hml a1 (by omega)) (Nat.le_of_ble_eq_true rfl) (Nat.le_of_ble_eq_true rfl) (Nat.le_of_ble_eq_true rfl) rfl (fun h hok => ?_)
            refine t_istore [.ref o, .int (nI a1), .int (nI 0), .int ((lp B285 16 0 (nI 0, (vset V (o + 8) a1 (nI 0)))).1), .int (vX5_setOf_1 o ml a1 ((lp B285 16 0 (nI 0, (vset V (o + 8) a1 (nI 0)))).2)), .int (vX5_setOf_2 o ml a1 ((lp B285 16 0 (nI 0, (vset V (o + 8) a1 (nI 0)))).2))] (Or.inr ⟨rfl, dX5_tickRecord_142⟩) (by decide) rfl ?_
            refine q_aload_n dX5_tickRecord_144 rfl ?_
            refine v_getr 8 kX5 (by decide) wPX5_28 dX5_tickRecord_145 hok H.1 rfl ?_
            refine q_iload_n dX5_tickRecord_148 rfl ?_
            refine v_iald (by decide) dX5_tickRecord_149 hok H.2.2.2.2.2.2.2.1 (j := a1) (by omega) ?_
            refine q_iconst (v := nI 1) dX5_tickRecord_150 rfl ?_
            refine q_icmp_ne (tgt := 177) dX5_tickRecord_151 (by decide) (fun c297 => ?_) (fun c297 => ?_)
            ·
              refine q_aload_n dX5_tickRecord_177 rfl ?_
              refine q_iload_n dX5_tickRecord_178 rfl ?_
              refine q_iconst (v := nI 0) dX5_tickRecord_179 rfl ?_
              refine q_iload dX5_tickRecord_180 rfl ?_
              refine q_iload_n dX5_tickRecord_182 rfl ?_
              refine q_iconst (v := -1) dX5_tickRecord_183 rfl ?_
              refine q_ixor dX5_tickRecord_184 ?_
              refine q_iand dX5_tickRecord_185 ?_
              refine q_iconst (v := nI 0) dX5_tickRecord_186 rfl ?_
              refine v_callV (M' := mX5_become) [.int (nI a1), .int (nI 0), .int ((vX5_setOf_1 o ml a1 ((lp B285 16 0 (nI 0, (vset V (o + 8) a1 (nI 0)))).2)) &&& (((lp B285 16 0 (nI 0, (vset V (o + 8) a1 (nI 0)))).1) ^^^ (-1))), .int (nI 0)] [] kX5 dX5_tickRecord_187 wPX5_94v wIX5_become wSX5_become iX5_become oX5_become rfl hok H.1 (eX5_become_0 Sc Γ n ((lp B285 16 0 (nI 0, (vset V (o + 8) a1 (nI 0)))).2) o ml H hm1 hml a1 (by omega) ((vX5_setOf_1 o ml a1 ((lp B285 16 0 (nI 0, (vset V (o + 8) a1 (nI 0)))).2)) &&& (((lp B285 16 0 (nI 0, (vset V (o + 8) a1 (nI 0)))).1) ^^^ (-1))) (nI 0)) (Nat.le_of_ble_eq_true rfl) (Nat.le_of_ble_eq_true rfl) (Nat.le_of_ble_eq_true rfl) rfl (fun h hok => ?_)
              exact q_vret dX5_tickRecord_190 rfl (hQ _ _ (rfl) (by subst hB285; dsimp only [fX5_tickRecord]; rw [if_neg c282, if_pos c283, if_neg c296, if_neg c297]; exact hok))
            ·
              refine q_iload_n dX5_tickRecord_154 rfl ?_
              refine q_if_ne (tgt := 177) dX5_tickRecord_155 (by decide) (fun q => absurd q (by decide)) (fun _ => ?_)
              refine q_aload_n dX5_tickRecord_158 rfl ?_
              refine q_iload_n dX5_tickRecord_159 rfl ?_
              refine q_iconst (v := nI 1) dX5_tickRecord_160 rfl ?_
              refine q_iload dX5_tickRecord_161 rfl ?_
              refine q_iload_n dX5_tickRecord_163 rfl ?_
              refine q_iconst (v := -1) dX5_tickRecord_164 rfl ?_
              refine q_ixor dX5_tickRecord_165 ?_
              refine q_iand dX5_tickRecord_166 ?_
              refine q_iload dX5_tickRecord_167 rfl ?_
              refine q_iload_n dX5_tickRecord_169 rfl ?_
              refine q_ior dX5_tickRecord_170 ?_
              refine v_callV (M' := mX5_become) [.int (nI a1), .int (nI 1), .int ((vX5_setOf_1 o ml a1 ((lp B285 16 0 (nI 0, (vset V (o + 8) a1 (nI 0)))).2)) &&& (((lp B285 16 0 (nI 0, (vset V (o + 8) a1 (nI 0)))).1) ^^^ (-1))), .int ((vX5_setOf_2 o ml a1 ((lp B285 16 0 (nI 0, (vset V (o + 8) a1 (nI 0)))).2)) ||| ((lp B285 16 0 (nI 0, (vset V (o + 8) a1 (nI 0)))).1))] [] kX5 dX5_tickRecord_171 wPX5_94v wIX5_become wSX5_become iX5_become oX5_become rfl hok H.1 (eX5_become_1 Sc Γ n ((lp B285 16 0 (nI 0, (vset V (o + 8) a1 (nI 0)))).2) o ml H hm1 hml a1 (by omega) ((vX5_setOf_1 o ml a1 ((lp B285 16 0 (nI 0, (vset V (o + 8) a1 (nI 0)))).2)) &&& (((lp B285 16 0 (nI 0, (vset V (o + 8) a1 (nI 0)))).1) ^^^ (-1))) ((vX5_setOf_2 o ml a1 ((lp B285 16 0 (nI 0, (vset V (o + 8) a1 (nI 0)))).2)) ||| ((lp B285 16 0 (nI 0, (vset V (o + 8) a1 (nI 0)))).1))) (Nat.le_of_ble_eq_true rfl) (Nat.le_of_ble_eq_true rfl) (Nat.le_of_ble_eq_true rfl) rfl (fun h hok => ?_)
              refine q_goto (tgt := 190) dX5_tickRecord_174 (by decide) ?_
              exact q_vret dX5_tickRecord_190 rfl (hQ _ _ (rfl) (by subst hB285; dsimp only [fX5_tickRecord]; rw [if_neg c282, if_pos c283, if_neg c296, if_pos c297]; exact hok))
          ·
            exact q_vret dX5_tickRecord_127 rfl (hQ _ _ (rfl) (by subst hB285; dsimp only [fX5_tickRecord]; rw [if_neg c282, if_pos c283, if_pos c296]; exact hok))
        | succ d285 ih285 =>
          intro k285 g285a W285 h e285 hT285 hok
          refine q_iload dX5_tickRecord_48 rfl ?_
          refine q_bipush (v := nI 16) dX5_tickRecord_50 rfl ?_
          refine t_icmp_ge_n (tgt := 117) (by omega) (by omega) dX5_tickRecord_52 (by decide) (fun c286 => ?_) (fun c286 => ?_)
          · exact absurd c286 (by omega)
          refine q_aload_n dX5_tickRecord_55 rfl ?_
          refine v_getr 11 kX5 (by decide) wPX5_37 dX5_tickRecord_56 hok H.1 rfl ?_
          refine q_bipush (v := nI 16) dX5_tickRecord_59 rfl ?_
          refine q_iload_n dX5_tickRecord_61 rfl ?_
          refine t_imul_n dX5_tickRecord_62 ?_
          refine q_iload dX5_tickRecord_63 rfl ?_
          refine t_iadd_n dX5_tickRecord_65 ?_
          refine v_iald (by decide) dX5_tickRecord_66 hok H.2.2.2.2.2.2.2.2.2.2.1 (j := (16 * a1) + k285) (by omega) ?_
          refine t_istore [.ref o, .int (nI a1), .int (nI 0), .int (g285a), .int (nI k285), .int (W285 (o + 10) ((16 * a1) + k285))] (Or.inr ⟨rfl, dX5_tickRecord_67⟩) (by decide) rfl ?_
          refine q_iload dX5_tickRecord_69 rfl ?_
          refine q_iconst (v := nI 1) dX5_tickRecord_71 rfl ?_
          refine q_icmp_ne (tgt := 84) dX5_tickRecord_72 (by decide) (fun c287 => ?_) (fun c287 => ?_)
          ·
            refine q_iload_n dX5_tickRecord_84 rfl ?_
            refine t_istore [.ref o, .int (nI a1), .int (nI 0), .int (g285a), .int (nI k285), .int (W285 (o + 10) ((16 * a1) + k285))] (Or.inl ⟨3, rfl, rfl, dX5_tickRecord_85⟩) (by decide) rfl ?_
            refine q_aload_n dX5_tickRecord_86 rfl ?_
            refine v_getr 11 kX5 (by decide) wPX5_37 dX5_tickRecord_87 hok H.1 rfl ?_
            refine q_bipush (v := nI 16) dX5_tickRecord_90 rfl ?_
            refine q_iload_n dX5_tickRecord_92 rfl ?_
            refine t_imul_n dX5_tickRecord_93 ?_
            refine q_iload dX5_tickRecord_94 rfl ?_
            refine t_iadd_n dX5_tickRecord_96 ?_
            refine q_iload dX5_tickRecord_97 rfl ?_
            refine q_if_le (tgt := 109) dX5_tickRecord_99 (by decide) (fun c288 => ?_) (fun c288 => ?_)
            ·
              refine q_iconst (v := nI 0) dX5_tickRecord_109 rfl ?_
              refine v_iast (by decide) dX5_tickRecord_110 hok H.2.2.2.2.2.2.2.2.2.2.1 (j := (16 * a1) + k285) (by omega) (fun h hok => ?_)
              refine t_iinc_n [.ref o, .int (nI a1), .int (nI 0), .int (g285a), .int (nI (k285 + 1)), .int (W285 (o + 10) ((16 * a1) + k285))] dX5_tickRecord_111 rfl (by decide) rfl ?_
              refine q_goto (tgt := 48) dX5_tickRecord_114 (by decide) ?_
              refine q_weak [.ref o, .int (nI a1), .int (nI 0), .int (g285a), .int (nI (k285 + 1)), .retAddr 0] ⟨Or.inl rfl, Or.inl rfl, Or.inl rfl, Or.inl rfl, Or.inl rfl, Or.inr ⟨0, rfl⟩, trivial⟩ ?_
              exact ih285 (k285 + 1) g285a ((vset W285 (o + 10) ((16 * a1) + k285) (nI 0))) h (by omega) ((congrArg (lp B285 d285 (k285 + 1)) (show (g285a, (vset W285 (o + 10) ((16 * a1) + k285) (nI 0))) = B285 k285 (g285a, W285) from by rw [hB285]; dsimp only; rw [if_neg c287, if_pos c288])).trans hT285) hok
            ·
              refine q_iload dX5_tickRecord_102 rfl ?_
              refine q_iconst (v := nI 1) dX5_tickRecord_104 rfl ?_
              refine q_isub dX5_tickRecord_105 ?_
              refine q_goto (tgt := 110) dX5_tickRecord_106 (by decide) ?_
              refine v_iast (by decide) dX5_tickRecord_110 hok H.2.2.2.2.2.2.2.2.2.2.1 (j := (16 * a1) + k285) (by omega) (fun h hok => ?_)
              refine t_iinc_n [.ref o, .int (nI a1), .int (nI 0), .int (g285a), .int (nI (k285 + 1)), .int (W285 (o + 10) ((16 * a1) + k285))] dX5_tickRecord_111 rfl (by decide) rfl ?_
              refine q_goto (tgt := 48) dX5_tickRecord_114 (by decide) ?_
              refine q_weak [.ref o, .int (nI a1), .int (nI 0), .int (g285a), .int (nI (k285 + 1)), .retAddr 0] ⟨Or.inl rfl, Or.inl rfl, Or.inl rfl, Or.inl rfl, Or.inl rfl, Or.inr ⟨0, rfl⟩, trivial⟩ ?_
              exact ih285 (k285 + 1) g285a ((vset W285 (o + 10) ((16 * a1) + k285) ((W285 (o + 10) ((16 * a1) + k285)) - (nI 1)))) h (by omega) ((congrArg (lp B285 d285 (k285 + 1)) (show (g285a, (vset W285 (o + 10) ((16 * a1) + k285) ((W285 (o + 10) ((16 * a1) + k285)) - (nI 1)))) = B285 k285 (g285a, W285) from by rw [hB285]; dsimp only; rw [if_neg c287, if_neg c288])).trans hT285) hok
          ·
            refine q_iload_n dX5_tickRecord_75 rfl ?_
            refine q_iconst (v := nI 1) dX5_tickRecord_76 rfl ?_
            refine q_iload dX5_tickRecord_77 rfl ?_
            refine q_ishl dX5_tickRecord_79 ?_
            refine q_iadd dX5_tickRecord_80 ?_
            refine q_goto (tgt := 85) dX5_tickRecord_81 (by decide) ?_
            refine t_istore [.ref o, .int (nI a1), .int (nI 0), .int ((g285a) + ((nI 1) <<< ((nI k285) &&& 31))), .int (nI k285), .int (W285 (o + 10) ((16 * a1) + k285))] (Or.inl ⟨3, rfl, rfl, dX5_tickRecord_85⟩) (by decide) rfl ?_
            refine q_aload_n dX5_tickRecord_86 rfl ?_
            refine v_getr 11 kX5 (by decide) wPX5_37 dX5_tickRecord_87 hok H.1 rfl ?_
            refine q_bipush (v := nI 16) dX5_tickRecord_90 rfl ?_
            refine q_iload_n dX5_tickRecord_92 rfl ?_
            refine t_imul_n dX5_tickRecord_93 ?_
            refine q_iload dX5_tickRecord_94 rfl ?_
            refine t_iadd_n dX5_tickRecord_96 ?_
            refine q_iload dX5_tickRecord_97 rfl ?_
            refine q_if_le (tgt := 109) dX5_tickRecord_99 (by decide) (fun c291 => ?_) (fun c291 => ?_)
            ·
              refine q_iconst (v := nI 0) dX5_tickRecord_109 rfl ?_
              refine v_iast (by decide) dX5_tickRecord_110 hok H.2.2.2.2.2.2.2.2.2.2.1 (j := (16 * a1) + k285) (by omega) (fun h hok => ?_)
              refine t_iinc_n [.ref o, .int (nI a1), .int (nI 0), .int ((g285a) + ((nI 1) <<< ((nI k285) &&& 31))), .int (nI (k285 + 1)), .int (W285 (o + 10) ((16 * a1) + k285))] dX5_tickRecord_111 rfl (by decide) rfl ?_
              refine q_goto (tgt := 48) dX5_tickRecord_114 (by decide) ?_
              refine q_weak [.ref o, .int (nI a1), .int (nI 0), .int ((g285a) + ((nI 1) <<< ((nI k285) &&& 31))), .int (nI (k285 + 1)), .retAddr 0] ⟨Or.inl rfl, Or.inl rfl, Or.inl rfl, Or.inl rfl, Or.inl rfl, Or.inr ⟨0, rfl⟩, trivial⟩ ?_
              exact ih285 (k285 + 1) ((g285a) + ((nI 1) <<< ((nI k285) &&& 31))) ((vset W285 (o + 10) ((16 * a1) + k285) (nI 0))) h (by omega) ((congrArg (lp B285 d285 (k285 + 1)) (show ((g285a) + ((nI 1) <<< ((nI k285) &&& 31)), (vset W285 (o + 10) ((16 * a1) + k285) (nI 0))) = B285 k285 (g285a, W285) from by rw [hB285]; dsimp only; rw [if_pos c287, if_pos c291])).trans hT285) hok
            ·
              refine q_iload dX5_tickRecord_102 rfl ?_
              refine q_iconst (v := nI 1) dX5_tickRecord_104 rfl ?_
              refine q_isub dX5_tickRecord_105 ?_
              refine q_goto (tgt := 110) dX5_tickRecord_106 (by decide) ?_
              refine v_iast (by decide) dX5_tickRecord_110 hok H.2.2.2.2.2.2.2.2.2.2.1 (j := (16 * a1) + k285) (by omega) (fun h hok => ?_)
              refine t_iinc_n [.ref o, .int (nI a1), .int (nI 0), .int ((g285a) + ((nI 1) <<< ((nI k285) &&& 31))), .int (nI (k285 + 1)), .int (W285 (o + 10) ((16 * a1) + k285))] dX5_tickRecord_111 rfl (by decide) rfl ?_
              refine q_goto (tgt := 48) dX5_tickRecord_114 (by decide) ?_
              refine q_weak [.ref o, .int (nI a1), .int (nI 0), .int ((g285a) + ((nI 1) <<< ((nI k285) &&& 31))), .int (nI (k285 + 1)), .retAddr 0] ⟨Or.inl rfl, Or.inl rfl, Or.inl rfl, Or.inl rfl, Or.inl rfl, Or.inr ⟨0, rfl⟩, trivial⟩ ?_
              exact ih285 (k285 + 1) ((g285a) + ((nI 1) <<< ((nI k285) &&& 31))) ((vset W285 (o + 10) ((16 * a1) + k285) ((W285 (o + 10) ((16 * a1) + k285)) - (nI 1)))) h (by omega) ((congrArg (lp B285 d285 (k285 + 1)) (show ((g285a) + ((nI 1) <<< ((nI k285) &&& 31)), (vset W285 (o + 10) ((16 * a1) + k285) ((W285 (o + 10) ((16 * a1) + k285)) - (nI 1)))) = B285 k285 (g285a, W285) from by rw [hB285]; dsimp only; rw [if_pos c287, if_neg c291])).trans hT285) hok
      exact hl285 16 0 (nI 0) ((vset V (o + 8) a1 (nI 0))) h (by omega) rfl hok
    ·
      refine q_aload_n dX5_tickRecord_30 rfl ?_
      refine v_getr 9 kX5 (by decide) wPX5_31 dX5_tickRecord_31 hok H.1 rfl ?_
      refine q_iload_n dX5_tickRecord_34 rfl ?_
      refine v_iald (by decide) dX5_tickRecord_35 hok H.2.2.2.2.2.2.2.2.1 (j := a1) (by omega) ?_
      refine q_iconst (v := nI 1) dX5_tickRecord_36 rfl ?_
      refine q_isub dX5_tickRecord_37 ?_
      refine q_goto (tgt := 42) dX5_tickRecord_38 (by decide) ?_
      refine v_iast (by decide) dX5_tickRecord_42 hok H.2.2.2.2.2.2.2.2.1 (j := a1) (by omega) (fun h hok => ?_)
      refine q_iconst (v := nI 0) dX5_tickRecord_43 rfl ?_
      refine t_istore [.ref o, .int (nI a1), .int (nI 0), .int (nI 0), .retAddr 0, .retAddr 0] (Or.inl ⟨3, rfl, rfl, dX5_tickRecord_44⟩) (by decide) rfl ?_
      refine q_iconst (v := nI 0) dX5_tickRecord_45 rfl ?_
      refine t_istore [.ref o, .int (nI a1), .int (nI 0), .int (nI 0), .int (nI 0), .retAddr 0] (Or.inr ⟨rfl, dX5_tickRecord_46⟩) (by decide) rfl ?_
      obtain ⟨B301, hB301⟩ : ∃ B_ : Nat → (Int32 × q_V) → (Int32 × q_V), B_ = (fun (k301 : Nat) (s301 : Int32 × q_V) => let g301a := s301.1; let W301 := s301.2; if (W301 (o + 10) ((16 * a1) + k301)) = (nI 1) then (if (W301 (o + 10) ((16 * a1) + k301)) ≤ 0 then (((g301a) + ((nI 1) <<< ((nI k301) &&& 31)), (vset W301 (o + 10) ((16 * a1) + k301) (nI 0)))) else (((g301a) + ((nI 1) <<< ((nI k301) &&& 31)), (vset W301 (o + 10) ((16 * a1) + k301) ((W301 (o + 10) ((16 * a1) + k301)) - (nI 1)))))) else (if (W301 (o + 10) ((16 * a1) + k301)) ≤ 0 then ((g301a, (vset W301 (o + 10) ((16 * a1) + k301) (nI 0)))) else ((g301a, (vset W301 (o + 10) ((16 * a1) + k301) ((W301 (o + 10) ((16 * a1) + k301)) - (nI 1))))))) := ⟨_, rfl⟩
      have hl301 : ∀ (d301 k301 : Nat) (g301a : Int32) (W301 : q_V) (h : q_H), k301 + d301 = 16 → lp B301 d301 k301 (g301a, W301) = (lp B301 16 0 (nI 0, (vset V (o + 8) a1 ((V (o + 8) a1) - (nI 1))))) → q_ok (gX Γ W301) h → q_A Sc mX5_tickRecord 48 [.ref o, .int (nI a1), .int (nI 0), .int (g301a), .int (nI k301), .retAddr 0] [] h n 0 0 Q := by
        intro d301
        induction d301 with
        | zero =>
          intro k301 g301a W301 h e301 hT301 hok
          obtain ⟨hq3010, hq3011⟩ : g301a = ((lp B301 16 0 (nI 0, (vset V (o + 8) a1 ((V (o + 8) a1) - (nI 1))))).1) ∧ W301 = ((lp B301 16 0 (nI 0, (vset V (o + 8) a1 ((V (o + 8) a1) - (nI 1))))).2) := ⟨congrArg (fun q => q.1) hT301, congrArg (fun q => q.2) hT301⟩
          subst hq3010
          subst hq3011
          refine q_iload dX5_tickRecord_48 rfl ?_
          refine q_bipush (v := nI 16) dX5_tickRecord_50 rfl ?_
          refine t_icmp_ge_n (tgt := 117) (by omega) (by omega) dX5_tickRecord_52 (by decide) (fun c311 => ?_) (fun c311 => ?_)
          rotate_left
          · exact absurd c311 (by omega)
          refine q_aload_n dX5_tickRecord_117 rfl ?_
          refine v_getr 8 kX5 (by decide) wPX5_28 dX5_tickRecord_118 hok H.1 rfl ?_
          refine q_iload_n dX5_tickRecord_121 rfl ?_
          refine v_iald (by decide) dX5_tickRecord_122 hok H.2.2.2.2.2.2.2.1 (j := a1) (by omega) ?_
          refine q_iconst (v := -1) dX5_tickRecord_123 rfl ?_
          refine q_icmp_ne (tgt := 128) dX5_tickRecord_124 (by decide) (fun c312 => ?_) (fun c312 => ?_)
          ·
            refine q_aload_n dX5_tickRecord_128 rfl ?_
            refine q_iload_n dX5_tickRecord_129 rfl ?_
            refine q_iconst (v := nI 1) dX5_tickRecord_130 rfl ?_
            refine v_callV (M' := mX5_setOf) [.int (nI a1), .int (nI 1)] [] kX5 dX5_tickRecord_131 wPX5_90v wIX5_setOf wSX5_setOf iX5_setOf oX5_setOf rfl hok H.1 (eX5_setOf_1 Sc Γ n ((lp B301 16 0 (nI 0, (vset V (o + 8) a1 ((V (o + 8) a1) - (nI 1))))).2) o ml H hm1 hml a1 (by omega)) (Nat.le_of_ble_eq_true rfl) (Nat.le_of_ble_eq_true rfl) (Nat.le_of_ble_eq_true rfl) rfl (fun h hok => ?_)
            refine t_istore [.ref o, .int (nI a1), .int (nI 0), .int ((lp B301 16 0 (nI 0, (vset V (o + 8) a1 ((V (o + 8) a1) - (nI 1))))).1), .int (vX5_setOf_1 o ml a1 ((lp B301 16 0 (nI 0, (vset V (o + 8) a1 ((V (o + 8) a1) - (nI 1))))).2)), .retAddr 0] (Or.inr ⟨rfl, dX5_tickRecord_134⟩) (by decide) rfl ?_
            refine q_aload_n dX5_tickRecord_136 rfl ?_
            refine q_iload_n dX5_tickRecord_137 rfl ?_
            refine q_iconst (v := nI 2) dX5_tickRecord_138 rfl ?_
            refine v_callV (M' := mX5_setOf) [.int (nI a1), .int (nI 2)] [] kX5 dX5_tickRecord_139 wPX5_90v wIX5_setOf wSX5_setOf iX5_setOf oX5_setOf rfl hok H.1 (eX5_setOf_2 Sc Γ n ((lp B301 16 0 (nI 0, (vset V (o + 8) a1 ((V (o + 8) a1) - (nI 1))))).2) o ml H hm1 hml a1 (by omega)) (Nat.le_of_ble_eq_true rfl) (Nat.le_of_ble_eq_true rfl) (Nat.le_of_ble_eq_true rfl) rfl (fun h hok => ?_)
            refine t_istore [.ref o, .int (nI a1), .int (nI 0), .int ((lp B301 16 0 (nI 0, (vset V (o + 8) a1 ((V (o + 8) a1) - (nI 1))))).1), .int (vX5_setOf_1 o ml a1 ((lp B301 16 0 (nI 0, (vset V (o + 8) a1 ((V (o + 8) a1) - (nI 1))))).2)), .int (vX5_setOf_2 o ml a1 ((lp B301 16 0 (nI 0, (vset V (o + 8) a1 ((V (o + 8) a1) - (nI 1))))).2))] (Or.inr ⟨rfl, dX5_tickRecord_142⟩) (by decide) rfl ?_
            refine q_aload_n dX5_tickRecord_144 rfl ?_
            refine v_getr 8 kX5 (by decide) wPX5_28 dX5_tickRecord_145 hok H.1 rfl ?_
            refine q_iload_n dX5_tickRecord_148 rfl ?_
            refine v_iald (by decide) dX5_tickRecord_149 hok H.2.2.2.2.2.2.2.1 (j := a1) (by omega) ?_
            refine q_iconst (v := nI 1) dX5_tickRecord_150 rfl ?_
            refine q_icmp_ne (tgt := 177) dX5_tickRecord_151 (by decide) (fun c313 => ?_) (fun c313 => ?_)
            ·
              refine q_aload_n dX5_tickRecord_177 rfl ?_
              refine q_iload_n dX5_tickRecord_178 rfl ?_
              refine q_iconst (v := nI 0) dX5_tickRecord_179 rfl ?_
              refine q_iload dX5_tickRecord_180 rfl ?_
              refine q_iload_n dX5_tickRecord_182 rfl ?_
              refine q_iconst (v := -1) dX5_tickRecord_183 rfl ?_
              refine q_ixor dX5_tickRecord_184 ?_
              refine q_iand dX5_tickRecord_185 ?_
              refine q_iconst (v := nI 0) dX5_tickRecord_186 rfl ?_
              refine v_callV (M' := mX5_become) [.int (nI a1), .int (nI 0), .int ((vX5_setOf_1 o ml a1 ((lp B301 16 0 (nI 0, (vset V (o + 8) a1 ((V (o + 8) a1) - (nI 1))))).2)) &&& (((lp B301 16 0 (nI 0, (vset V (o + 8) a1 ((V (o + 8) a1) - (nI 1))))).1) ^^^ (-1))), .int (nI 0)] [] kX5 dX5_tickRecord_187 wPX5_94v wIX5_become wSX5_become iX5_become oX5_become rfl hok H.1 (eX5_become_0 Sc Γ n ((lp B301 16 0 (nI 0, (vset V (o + 8) a1 ((V (o + 8) a1) - (nI 1))))).2) o ml H hm1 hml a1 (by omega) ((vX5_setOf_1 o ml a1 ((lp B301 16 0 (nI 0, (vset V (o + 8) a1 ((V (o + 8) a1) - (nI 1))))).2)) &&& (((lp B301 16 0 (nI 0, (vset V (o + 8) a1 ((V (o + 8) a1) - (nI 1))))).1) ^^^ (-1))) (nI 0)) (Nat.le_of_ble_eq_true rfl) (Nat.le_of_ble_eq_true rfl) (Nat.le_of_ble_eq_true rfl) rfl (fun h hok => ?_)
              exact q_vret dX5_tickRecord_190 rfl (hQ _ _ (rfl) (by subst hB301; dsimp only [fX5_tickRecord]; rw [if_neg c282, if_neg c283, if_neg c312, if_neg c313]; exact hok))
            ·
              refine q_iload_n dX5_tickRecord_154 rfl ?_
              refine q_if_ne (tgt := 177) dX5_tickRecord_155 (by decide) (fun q => absurd q (by decide)) (fun _ => ?_)
              refine q_aload_n dX5_tickRecord_158 rfl ?_
              refine q_iload_n dX5_tickRecord_159 rfl ?_
              refine q_iconst (v := nI 1) dX5_tickRecord_160 rfl ?_
              refine q_iload dX5_tickRecord_161 rfl ?_
              refine q_iload_n dX5_tickRecord_163 rfl ?_
              refine q_iconst (v := -1) dX5_tickRecord_164 rfl ?_
              refine q_ixor dX5_tickRecord_165 ?_
              refine q_iand dX5_tickRecord_166 ?_
              refine q_iload dX5_tickRecord_167 rfl ?_
              refine q_iload_n dX5_tickRecord_169 rfl ?_
              refine q_ior dX5_tickRecord_170 ?_
              refine v_callV (M' := mX5_become) [.int (nI a1), .int (nI 1), .int ((vX5_setOf_1 o ml a1 ((lp B301 16 0 (nI 0, (vset V (o + 8) a1 ((V (o + 8) a1) - (nI 1))))).2)) &&& (((lp B301 16 0 (nI 0, (vset V (o + 8) a1 ((V (o + 8) a1) - (nI 1))))).1) ^^^ (-1))), .int ((vX5_setOf_2 o ml a1 ((lp B301 16 0 (nI 0, (vset V (o + 8) a1 ((V (o + 8) a1) - (nI 1))))).2)) ||| ((lp B301 16 0 (nI 0, (vset V (o + 8) a1 ((V (o + 8) a1) - (nI 1))))).1))] [] kX5 dX5_tickRecord_171 wPX5_94v wIX5_become wSX5_become iX5_become oX5_become rfl hok H.1 (eX5_become_1 Sc Γ n ((lp B301 16 0 (nI 0, (vset V (o + 8) a1 ((V (o + 8) a1) - (nI 1))))).2) o ml H hm1 hml a1 (by omega) ((vX5_setOf_1 o ml a1 ((lp B301 16 0 (nI 0, (vset V (o + 8) a1 ((V (o + 8) a1) - (nI 1))))).2)) &&& (((lp B301 16 0 (nI 0, (vset V (o + 8) a1 ((V (o + 8) a1) - (nI 1))))).1) ^^^ (-1))) ((vX5_setOf_2 o ml a1 ((lp B301 16 0 (nI 0, (vset V (o + 8) a1 ((V (o + 8) a1) - (nI 1))))).2)) ||| ((lp B301 16 0 (nI 0, (vset V (o + 8) a1 ((V (o + 8) a1) - (nI 1))))).1))) (Nat.le_of_ble_eq_true rfl) (Nat.le_of_ble_eq_true rfl) (Nat.le_of_ble_eq_true rfl) rfl (fun h hok => ?_)
              refine q_goto (tgt := 190) dX5_tickRecord_174 (by decide) ?_
              exact q_vret dX5_tickRecord_190 rfl (hQ _ _ (rfl) (by subst hB301; dsimp only [fX5_tickRecord]; rw [if_neg c282, if_neg c283, if_neg c312, if_pos c313]; exact hok))
          ·
            exact q_vret dX5_tickRecord_127 rfl (hQ _ _ (rfl) (by subst hB301; dsimp only [fX5_tickRecord]; rw [if_neg c282, if_neg c283, if_pos c312]; exact hok))
        | succ d301 ih301 =>
          intro k301 g301a W301 h e301 hT301 hok
          refine q_iload dX5_tickRecord_48 rfl ?_
          refine q_bipush (v := nI 16) dX5_tickRecord_50 rfl ?_
          refine t_icmp_ge_n (tgt := 117) (by omega) (by omega) dX5_tickRecord_52 (by decide) (fun c302 => ?_) (fun c302 => ?_)
          · exact absurd c302 (by omega)
          refine q_aload_n dX5_tickRecord_55 rfl ?_
          refine v_getr 11 kX5 (by decide) wPX5_37 dX5_tickRecord_56 hok H.1 rfl ?_
          refine q_bipush (v := nI 16) dX5_tickRecord_59 rfl ?_
          refine q_iload_n dX5_tickRecord_61 rfl ?_
          refine t_imul_n dX5_tickRecord_62 ?_
          refine q_iload dX5_tickRecord_63 rfl ?_
          refine t_iadd_n dX5_tickRecord_65 ?_
          refine v_iald (by decide) dX5_tickRecord_66 hok H.2.2.2.2.2.2.2.2.2.2.1 (j := (16 * a1) + k301) (by omega) ?_
          refine t_istore [.ref o, .int (nI a1), .int (nI 0), .int (g301a), .int (nI k301), .int (W301 (o + 10) ((16 * a1) + k301))] (Or.inr ⟨rfl, dX5_tickRecord_67⟩) (by decide) rfl ?_
          refine q_iload dX5_tickRecord_69 rfl ?_
          refine q_iconst (v := nI 1) dX5_tickRecord_71 rfl ?_
          refine q_icmp_ne (tgt := 84) dX5_tickRecord_72 (by decide) (fun c303 => ?_) (fun c303 => ?_)
          ·
            refine q_iload_n dX5_tickRecord_84 rfl ?_
            refine t_istore [.ref o, .int (nI a1), .int (nI 0), .int (g301a), .int (nI k301), .int (W301 (o + 10) ((16 * a1) + k301))] (Or.inl ⟨3, rfl, rfl, dX5_tickRecord_85⟩) (by decide) rfl ?_
            refine q_aload_n dX5_tickRecord_86 rfl ?_
            refine v_getr 11 kX5 (by decide) wPX5_37 dX5_tickRecord_87 hok H.1 rfl ?_
            refine q_bipush (v := nI 16) dX5_tickRecord_90 rfl ?_
            refine q_iload_n dX5_tickRecord_92 rfl ?_
            refine t_imul_n dX5_tickRecord_93 ?_
            refine q_iload dX5_tickRecord_94 rfl ?_
            refine t_iadd_n dX5_tickRecord_96 ?_
            refine q_iload dX5_tickRecord_97 rfl ?_
            refine q_if_le (tgt := 109) dX5_tickRecord_99 (by decide) (fun c304 => ?_) (fun c304 => ?_)
            ·
              refine q_iconst (v := nI 0) dX5_tickRecord_109 rfl ?_
              refine v_iast (by decide) dX5_tickRecord_110 hok H.2.2.2.2.2.2.2.2.2.2.1 (j := (16 * a1) + k301) (by omega) (fun h hok => ?_)
              refine t_iinc_n [.ref o, .int (nI a1), .int (nI 0), .int (g301a), .int (nI (k301 + 1)), .int (W301 (o + 10) ((16 * a1) + k301))] dX5_tickRecord_111 rfl (by decide) rfl ?_
              refine q_goto (tgt := 48) dX5_tickRecord_114 (by decide) ?_
              refine q_weak [.ref o, .int (nI a1), .int (nI 0), .int (g301a), .int (nI (k301 + 1)), .retAddr 0] ⟨Or.inl rfl, Or.inl rfl, Or.inl rfl, Or.inl rfl, Or.inl rfl, Or.inr ⟨0, rfl⟩, trivial⟩ ?_
              exact ih301 (k301 + 1) g301a ((vset W301 (o + 10) ((16 * a1) + k301) (nI 0))) h (by omega) ((congrArg (lp B301 d301 (k301 + 1)) (show (g301a, (vset W301 (o + 10) ((16 * a1) + k301) (nI 0))) = B301 k301 (g301a, W301) from by rw [hB301]; dsimp only; rw [if_neg c303, if_pos c304])).trans hT301) hok
            ·
              refine q_iload dX5_tickRecord_102 rfl ?_
              refine q_iconst (v := nI 1) dX5_tickRecord_104 rfl ?_
              refine q_isub dX5_tickRecord_105 ?_
              refine q_goto (tgt := 110) dX5_tickRecord_106 (by decide) ?_
              refine v_iast (by decide) dX5_tickRecord_110 hok H.2.2.2.2.2.2.2.2.2.2.1 (j := (16 * a1) + k301) (by omega) (fun h hok => ?_)
              refine t_iinc_n [.ref o, .int (nI a1), .int (nI 0), .int (g301a), .int (nI (k301 + 1)), .int (W301 (o + 10) ((16 * a1) + k301))] dX5_tickRecord_111 rfl (by decide) rfl ?_
              refine q_goto (tgt := 48) dX5_tickRecord_114 (by decide) ?_
              refine q_weak [.ref o, .int (nI a1), .int (nI 0), .int (g301a), .int (nI (k301 + 1)), .retAddr 0] ⟨Or.inl rfl, Or.inl rfl, Or.inl rfl, Or.inl rfl, Or.inl rfl, Or.inr ⟨0, rfl⟩, trivial⟩ ?_
              exact ih301 (k301 + 1) g301a ((vset W301 (o + 10) ((16 * a1) + k301) ((W301 (o + 10) ((16 * a1) + k301)) - (nI 1)))) h (by omega) ((congrArg (lp B301 d301 (k301 + 1)) (show (g301a, (vset W301 (o + 10) ((16 * a1) + k301) ((W301 (o + 10) ((16 * a1) + k301)) - (nI 1)))) = B301 k301 (g301a, W301) from by rw [hB301]; dsimp only; rw [if_neg c303, if_neg c304])).trans hT301) hok
          ·
            refine q_iload_n dX5_tickRecord_75 rfl ?_
            refine q_iconst (v := nI 1) dX5_tickRecord_76 rfl ?_
            refine q_iload dX5_tickRecord_77 rfl ?_
            refine q_ishl dX5_tickRecord_79 ?_
            refine q_iadd dX5_tickRecord_80 ?_
            refine q_goto (tgt := 85) dX5_tickRecord_81 (by decide) ?_
            refine t_istore [.ref o, .int (nI a1), .int (nI 0), .int ((g301a) + ((nI 1) <<< ((nI k301) &&& 31))), .int (nI k301), .int (W301 (o + 10) ((16 * a1) + k301))] (Or.inl ⟨3, rfl, rfl, dX5_tickRecord_85⟩) (by decide) rfl ?_
            refine q_aload_n dX5_tickRecord_86 rfl ?_
            refine v_getr 11 kX5 (by decide) wPX5_37 dX5_tickRecord_87 hok H.1 rfl ?_
            refine q_bipush (v := nI 16) dX5_tickRecord_90 rfl ?_
            refine q_iload_n dX5_tickRecord_92 rfl ?_
            refine t_imul_n dX5_tickRecord_93 ?_
            refine q_iload dX5_tickRecord_94 rfl ?_
            refine t_iadd_n dX5_tickRecord_96 ?_
            refine q_iload dX5_tickRecord_97 rfl ?_
            refine q_if_le (tgt := 109) dX5_tickRecord_99 (by decide) (fun c307 => ?_) (fun c307 => ?_)
            ·
              refine q_iconst (v := nI 0) dX5_tickRecord_109 rfl ?_
              refine v_iast (by decide) dX5_tickRecord_110 hok H.2.2.2.2.2.2.2.2.2.2.1 (j := (16 * a1) + k301) (by omega) (fun h hok => ?_)
              refine t_iinc_n [.ref o, .int (nI a1), .int (nI 0), .int ((g301a) + ((nI 1) <<< ((nI k301) &&& 31))), .int (nI (k301 + 1)), .int (W301 (o + 10) ((16 * a1) + k301))] dX5_tickRecord_111 rfl (by decide) rfl ?_
              refine q_goto (tgt := 48) dX5_tickRecord_114 (by decide) ?_
              refine q_weak [.ref o, .int (nI a1), .int (nI 0), .int ((g301a) + ((nI 1) <<< ((nI k301) &&& 31))), .int (nI (k301 + 1)), .retAddr 0] ⟨Or.inl rfl, Or.inl rfl, Or.inl rfl, Or.inl rfl, Or.inl rfl, Or.inr ⟨0, rfl⟩, trivial⟩ ?_
              exact ih301 (k301 + 1) ((g301a) + ((nI 1) <<< ((nI k301) &&& 31))) ((vset W301 (o + 10) ((16 * a1) + k301) (nI 0))) h (by omega) ((congrArg (lp B301 d301 (k301 + 1)) (show ((g301a) + ((nI 1) <<< ((nI k301) &&& 31)), (vset W301 (o + 10) ((16 * a1) + k301) (nI 0))) = B301 k301 (g301a, W301) from by rw [hB301]; dsimp only; rw [if_pos c303, if_pos c307])).trans hT301) hok
            ·
              refine q_iload dX5_tickRecord_102 rfl ?_
              refine q_iconst (v := nI 1) dX5_tickRecord_104 rfl ?_
              refine q_isub dX5_tickRecord_105 ?_
              refine q_goto (tgt := 110) dX5_tickRecord_106 (by decide) ?_
              refine v_iast (by decide) dX5_tickRecord_110 hok H.2.2.2.2.2.2.2.2.2.2.1 (j := (16 * a1) + k301) (by omega) (fun h hok => ?_)
              refine t_iinc_n [.ref o, .int (nI a1), .int (nI 0), .int ((g301a) + ((nI 1) <<< ((nI k301) &&& 31))), .int (nI (k301 + 1)), .int (W301 (o + 10) ((16 * a1) + k301))] dX5_tickRecord_111 rfl (by decide) rfl ?_
              refine q_goto (tgt := 48) dX5_tickRecord_114 (by decide) ?_
              refine q_weak [.ref o, .int (nI a1), .int (nI 0), .int ((g301a) + ((nI 1) <<< ((nI k301) &&& 31))), .int (nI (k301 + 1)), .retAddr 0] ⟨Or.inl rfl, Or.inl rfl, Or.inl rfl, Or.inl rfl, Or.inl rfl, Or.inr ⟨0, rfl⟩, trivial⟩ ?_
              exact ih301 (k301 + 1) ((g301a) + ((nI 1) <<< ((nI k301) &&& 31))) ((vset W301 (o + 10) ((16 * a1) + k301) ((W301 (o + 10) ((16 * a1) + k301)) - (nI 1)))) h (by omega) ((congrArg (lp B301 d301 (k301 + 1)) (show ((g301a) + ((nI 1) <<< ((nI k301) &&& 31)), (vset W301 (o + 10) ((16 * a1) + k301) ((W301 (o + 10) ((16 * a1) + k301)) - (nI 1)))) = B301 k301 (g301a, W301) from by rw [hB301]; dsimp only; rw [if_pos c303, if_neg c307])).trans hT301) hok
      exact hl301 16 0 (nI 0) ((vset V (o + 8) a1 ((V (o + 8) a1) - (nI 1)))) h (by omega) rfl hok
  ·
    refine q_iconst (v := nI 1) dX5_tickRecord_10 rfl ?_
    refine q_goto (tgt := 15) dX5_tickRecord_11 (by decide) ?_
    refine t_istore [.ref o, .int (nI a1), .int (nI 1), .retAddr 0, .retAddr 0, .retAddr 0] (Or.inl ⟨2, rfl, rfl, dX5_tickRecord_15⟩) (by decide) rfl ?_
    refine q_aload_n dX5_tickRecord_16 rfl ?_
    refine v_getr 9 kX5 (by decide) wPX5_31 dX5_tickRecord_17 hok H.1 rfl ?_
    refine q_iload_n dX5_tickRecord_20 rfl ?_
    refine q_aload_n dX5_tickRecord_21 rfl ?_
    refine v_getr 9 kX5 (by decide) wPX5_31 dX5_tickRecord_22 hok H.1 rfl ?_
    refine q_iload_n dX5_tickRecord_25 rfl ?_
    refine v_iald (by decide) dX5_tickRecord_26 hok H.2.2.2.2.2.2.2.2.1 (j := a1) (by omega) ?_
    refine q_if_le (tgt := 41) dX5_tickRecord_27 (by decide) (fun c316 => ?_) (fun c316 => ?_)
    ·
      refine q_iconst (v := nI 0) dX5_tickRecord_41 rfl ?_
      refine v_iast (by decide) dX5_tickRecord_42 hok H.2.2.2.2.2.2.2.2.1 (j := a1) (by omega) (fun h hok => ?_)
      refine q_iconst (v := nI 0) dX5_tickRecord_43 rfl ?_
      refine t_istore [.ref o, .int (nI a1), .int (nI 1), .int (nI 0), .retAddr 0, .retAddr 0] (Or.inl ⟨3, rfl, rfl, dX5_tickRecord_44⟩) (by decide) rfl ?_
      refine q_iconst (v := nI 0) dX5_tickRecord_45 rfl ?_
      refine t_istore [.ref o, .int (nI a1), .int (nI 1), .int (nI 0), .int (nI 0), .retAddr 0] (Or.inr ⟨rfl, dX5_tickRecord_46⟩) (by decide) rfl ?_
      obtain ⟨B318, hB318⟩ : ∃ B_ : Nat → (Int32 × q_V) → (Int32 × q_V), B_ = (fun (k318 : Nat) (s318 : Int32 × q_V) => let g318a := s318.1; let W318 := s318.2; if (W318 (o + 10) ((16 * a1) + k318)) = (nI 1) then (if (W318 (o + 10) ((16 * a1) + k318)) ≤ 0 then (((g318a) + ((nI 1) <<< ((nI k318) &&& 31)), (vset W318 (o + 10) ((16 * a1) + k318) (nI 0)))) else (((g318a) + ((nI 1) <<< ((nI k318) &&& 31)), (vset W318 (o + 10) ((16 * a1) + k318) ((W318 (o + 10) ((16 * a1) + k318)) - (nI 1)))))) else (if (W318 (o + 10) ((16 * a1) + k318)) ≤ 0 then ((g318a, (vset W318 (o + 10) ((16 * a1) + k318) (nI 0)))) else ((g318a, (vset W318 (o + 10) ((16 * a1) + k318) ((W318 (o + 10) ((16 * a1) + k318)) - (nI 1))))))) := ⟨_, rfl⟩
      have hl318 : ∀ (d318 k318 : Nat) (g318a : Int32) (W318 : q_V) (h : q_H), k318 + d318 = 16 → lp B318 d318 k318 (g318a, W318) = (lp B318 16 0 (nI 0, (vset V (o + 8) a1 (nI 0)))) → q_ok (gX Γ W318) h → q_A Sc mX5_tickRecord 48 [.ref o, .int (nI a1), .int (nI 1), .int (g318a), .int (nI k318), .retAddr 0] [] h n 0 0 Q := by
        intro d318
        induction d318 with
        | zero =>
          intro k318 g318a W318 h e318 hT318 hok
          obtain ⟨hq3180, hq3181⟩ : g318a = ((lp B318 16 0 (nI 0, (vset V (o + 8) a1 (nI 0)))).1) ∧ W318 = ((lp B318 16 0 (nI 0, (vset V (o + 8) a1 (nI 0)))).2) := ⟨congrArg (fun q => q.1) hT318, congrArg (fun q => q.2) hT318⟩
          subst hq3180
          subst hq3181
          refine q_iload dX5_tickRecord_48 rfl ?_
          refine q_bipush (v := nI 16) dX5_tickRecord_50 rfl ?_
          refine t_icmp_ge_n (tgt := 117) (by omega) (by omega) dX5_tickRecord_52 (by decide) (fun c328 => ?_) (fun c328 => ?_)
          rotate_left
          · exact absurd c328 (by omega)
          refine q_aload_n dX5_tickRecord_117 rfl ?_
          refine v_getr 8 kX5 (by decide) wPX5_28 dX5_tickRecord_118 hok H.1 rfl ?_
          refine q_iload_n dX5_tickRecord_121 rfl ?_
          refine v_iald (by decide) dX5_tickRecord_122 hok H.2.2.2.2.2.2.2.1 (j := a1) (by omega) ?_
          refine q_iconst (v := -1) dX5_tickRecord_123 rfl ?_
          refine q_icmp_ne (tgt := 128) dX5_tickRecord_124 (by decide) (fun c329 => ?_) (fun c329 => ?_)
          ·
            refine q_aload_n dX5_tickRecord_128 rfl ?_
            refine q_iload_n dX5_tickRecord_129 rfl ?_
            refine q_iconst (v := nI 1) dX5_tickRecord_130 rfl ?_
            refine v_callV (M' := mX5_setOf) [.int (nI a1), .int (nI 1)] [] kX5 dX5_tickRecord_131 wPX5_90v wIX5_setOf wSX5_setOf iX5_setOf oX5_setOf rfl hok H.1 (eX5_setOf_1 Sc Γ n ((lp B318 16 0 (nI 0, (vset V (o + 8) a1 (nI 0)))).2) o ml H hm1 hml a1 (by omega)) (Nat.le_of_ble_eq_true rfl) (Nat.le_of_ble_eq_true rfl) (Nat.le_of_ble_eq_true rfl) rfl (fun h hok => ?_)
            refine t_istore [.ref o, .int (nI a1), .int (nI 1), .int ((lp B318 16 0 (nI 0, (vset V (o + 8) a1 (nI 0)))).1), .int (vX5_setOf_1 o ml a1 ((lp B318 16 0 (nI 0, (vset V (o + 8) a1 (nI 0)))).2)), .retAddr 0] (Or.inr ⟨rfl, dX5_tickRecord_134⟩) (by decide) rfl ?_
            refine q_aload_n dX5_tickRecord_136 rfl ?_
            refine q_iload_n dX5_tickRecord_137 rfl ?_
            refine q_iconst (v := nI 2) dX5_tickRecord_138 rfl ?_
            refine v_callV (M' := mX5_setOf) [.int (nI a1), .int (nI 2)] [] kX5 dX5_tickRecord_139 wPX5_90v wIX5_setOf wSX5_setOf iX5_setOf oX5_setOf rfl hok H.1 (eX5_setOf_2 Sc Γ n ((lp B318 16 0 (nI 0, (vset V (o + 8) a1 (nI 0)))).2) o ml H hm1 hml a1 (by omega)) (Nat.le_of_ble_eq_true rfl) (Nat.le_of_ble_eq_true rfl) (Nat.le_of_ble_eq_true rfl) rfl (fun h hok => ?_)
            refine t_istore [.ref o, .int (nI a1), .int (nI 1), .int ((lp B318 16 0 (nI 0, (vset V (o + 8) a1 (nI 0)))).1), .int (vX5_setOf_1 o ml a1 ((lp B318 16 0 (nI 0, (vset V (o + 8) a1 (nI 0)))).2)), .int (vX5_setOf_2 o ml a1 ((lp B318 16 0 (nI 0, (vset V (o + 8) a1 (nI 0)))).2))] (Or.inr ⟨rfl, dX5_tickRecord_142⟩) (by decide) rfl ?_
            refine q_aload_n dX5_tickRecord_144 rfl ?_
            refine v_getr 8 kX5 (by decide) wPX5_28 dX5_tickRecord_145 hok H.1 rfl ?_
            refine q_iload_n dX5_tickRecord_148 rfl ?_
            refine v_iald (by decide) dX5_tickRecord_149 hok H.2.2.2.2.2.2.2.1 (j := a1) (by omega) ?_
            refine q_iconst (v := nI 1) dX5_tickRecord_150 rfl ?_
            refine q_icmp_ne (tgt := 177) dX5_tickRecord_151 (by decide) (fun c330 => ?_) (fun c330 => ?_)
            ·
              refine q_aload_n dX5_tickRecord_177 rfl ?_
              refine q_iload_n dX5_tickRecord_178 rfl ?_
              refine q_iconst (v := nI 0) dX5_tickRecord_179 rfl ?_
              refine q_iload dX5_tickRecord_180 rfl ?_
              refine q_iload_n dX5_tickRecord_182 rfl ?_
              refine q_iconst (v := -1) dX5_tickRecord_183 rfl ?_
              refine q_ixor dX5_tickRecord_184 ?_
              refine q_iand dX5_tickRecord_185 ?_
              refine q_iconst (v := nI 0) dX5_tickRecord_186 rfl ?_
              refine v_callV (M' := mX5_become) [.int (nI a1), .int (nI 0), .int ((vX5_setOf_1 o ml a1 ((lp B318 16 0 (nI 0, (vset V (o + 8) a1 (nI 0)))).2)) &&& (((lp B318 16 0 (nI 0, (vset V (o + 8) a1 (nI 0)))).1) ^^^ (-1))), .int (nI 0)] [] kX5 dX5_tickRecord_187 wPX5_94v wIX5_become wSX5_become iX5_become oX5_become rfl hok H.1 (eX5_become_0 Sc Γ n ((lp B318 16 0 (nI 0, (vset V (o + 8) a1 (nI 0)))).2) o ml H hm1 hml a1 (by omega) ((vX5_setOf_1 o ml a1 ((lp B318 16 0 (nI 0, (vset V (o + 8) a1 (nI 0)))).2)) &&& (((lp B318 16 0 (nI 0, (vset V (o + 8) a1 (nI 0)))).1) ^^^ (-1))) (nI 0)) (Nat.le_of_ble_eq_true rfl) (Nat.le_of_ble_eq_true rfl) (Nat.le_of_ble_eq_true rfl) rfl (fun h hok => ?_)
              exact q_vret dX5_tickRecord_190 rfl (hQ _ _ (rfl) (by subst hB318; dsimp only [fX5_tickRecord]; rw [if_pos c282, if_pos c316, if_neg c329, if_neg c330]; exact hok))
            ·
              refine q_iload_n dX5_tickRecord_154 rfl ?_
              refine q_if_ne (tgt := 177) dX5_tickRecord_155 (by decide) (fun _ => ?_) (fun q => absurd q (by decide))
              refine q_aload_n dX5_tickRecord_177 rfl ?_
              refine q_iload_n dX5_tickRecord_178 rfl ?_
              refine q_iconst (v := nI 0) dX5_tickRecord_179 rfl ?_
              refine q_iload dX5_tickRecord_180 rfl ?_
              refine q_iload_n dX5_tickRecord_182 rfl ?_
              refine q_iconst (v := -1) dX5_tickRecord_183 rfl ?_
              refine q_ixor dX5_tickRecord_184 ?_
              refine q_iand dX5_tickRecord_185 ?_
              refine q_iconst (v := nI 0) dX5_tickRecord_186 rfl ?_
              refine v_callV (M' := mX5_become) [.int (nI a1), .int (nI 0), .int ((vX5_setOf_1 o ml a1 ((lp B318 16 0 (nI 0, (vset V (o + 8) a1 (nI 0)))).2)) &&& (((lp B318 16 0 (nI 0, (vset V (o + 8) a1 (nI 0)))).1) ^^^ (-1))), .int (nI 0)] [] kX5 dX5_tickRecord_187 wPX5_94v wIX5_become wSX5_become iX5_become oX5_become rfl hok H.1 (eX5_become_0 Sc Γ n ((lp B318 16 0 (nI 0, (vset V (o + 8) a1 (nI 0)))).2) o ml H hm1 hml a1 (by omega) ((vX5_setOf_1 o ml a1 ((lp B318 16 0 (nI 0, (vset V (o + 8) a1 (nI 0)))).2)) &&& (((lp B318 16 0 (nI 0, (vset V (o + 8) a1 (nI 0)))).1) ^^^ (-1))) (nI 0)) (Nat.le_of_ble_eq_true rfl) (Nat.le_of_ble_eq_true rfl) (Nat.le_of_ble_eq_true rfl) rfl (fun h hok => ?_)
              exact q_vret dX5_tickRecord_190 rfl (hQ _ _ (rfl) (by subst hB318; dsimp only [fX5_tickRecord]; rw [if_pos c282, if_pos c316, if_neg c329, if_pos c330]; exact hok))
          ·
            exact q_vret dX5_tickRecord_127 rfl (hQ _ _ (rfl) (by subst hB318; dsimp only [fX5_tickRecord]; rw [if_pos c282, if_pos c316, if_pos c329]; exact hok))
        | succ d318 ih318 =>
          intro k318 g318a W318 h e318 hT318 hok
          refine q_iload dX5_tickRecord_48 rfl ?_
          refine q_bipush (v := nI 16) dX5_tickRecord_50 rfl ?_
          refine t_icmp_ge_n (tgt := 117) (by omega) (by omega) dX5_tickRecord_52 (by decide) (fun c319 => ?_) (fun c319 => ?_)
          · exact absurd c319 (by omega)
          refine q_aload_n dX5_tickRecord_55 rfl ?_
          refine v_getr 11 kX5 (by decide) wPX5_37 dX5_tickRecord_56 hok H.1 rfl ?_
          refine q_bipush (v := nI 16) dX5_tickRecord_59 rfl ?_
          refine q_iload_n dX5_tickRecord_61 rfl ?_
          refine t_imul_n dX5_tickRecord_62 ?_
          refine q_iload dX5_tickRecord_63 rfl ?_
          refine t_iadd_n dX5_tickRecord_65 ?_
          refine v_iald (by decide) dX5_tickRecord_66 hok H.2.2.2.2.2.2.2.2.2.2.1 (j := (16 * a1) + k318) (by omega) ?_
          refine t_istore [.ref o, .int (nI a1), .int (nI 1), .int (g318a), .int (nI k318), .int (W318 (o + 10) ((16 * a1) + k318))] (Or.inr ⟨rfl, dX5_tickRecord_67⟩) (by decide) rfl ?_
          refine q_iload dX5_tickRecord_69 rfl ?_
          refine q_iconst (v := nI 1) dX5_tickRecord_71 rfl ?_
          refine q_icmp_ne (tgt := 84) dX5_tickRecord_72 (by decide) (fun c320 => ?_) (fun c320 => ?_)
          ·
            refine q_iload_n dX5_tickRecord_84 rfl ?_
            refine t_istore [.ref o, .int (nI a1), .int (nI 1), .int (g318a), .int (nI k318), .int (W318 (o + 10) ((16 * a1) + k318))] (Or.inl ⟨3, rfl, rfl, dX5_tickRecord_85⟩) (by decide) rfl ?_
            refine q_aload_n dX5_tickRecord_86 rfl ?_
            refine v_getr 11 kX5 (by decide) wPX5_37 dX5_tickRecord_87 hok H.1 rfl ?_
            refine q_bipush (v := nI 16) dX5_tickRecord_90 rfl ?_
            refine q_iload_n dX5_tickRecord_92 rfl ?_
            refine t_imul_n dX5_tickRecord_93 ?_
            refine q_iload dX5_tickRecord_94 rfl ?_
            refine t_iadd_n dX5_tickRecord_96 ?_
            refine q_iload dX5_tickRecord_97 rfl ?_
            refine q_if_le (tgt := 109) dX5_tickRecord_99 (by decide) (fun c321 => ?_) (fun c321 => ?_)
            ·
              refine q_iconst (v := nI 0) dX5_tickRecord_109 rfl ?_
              refine v_iast (by decide) dX5_tickRecord_110 hok H.2.2.2.2.2.2.2.2.2.2.1 (j := (16 * a1) + k318) (by omega) (fun h hok => ?_)
              refine t_iinc_n [.ref o, .int (nI a1), .int (nI 1), .int (g318a), .int (nI (k318 + 1)), .int (W318 (o + 10) ((16 * a1) + k318))] dX5_tickRecord_111 rfl (by decide) rfl ?_
              refine q_goto (tgt := 48) dX5_tickRecord_114 (by decide) ?_
              refine q_weak [.ref o, .int (nI a1), .int (nI 1), .int (g318a), .int (nI (k318 + 1)), .retAddr 0] ⟨Or.inl rfl, Or.inl rfl, Or.inl rfl, Or.inl rfl, Or.inl rfl, Or.inr ⟨0, rfl⟩, trivial⟩ ?_
              exact ih318 (k318 + 1) g318a ((vset W318 (o + 10) ((16 * a1) + k318) (nI 0))) h (by omega) ((congrArg (lp B318 d318 (k318 + 1)) (show (g318a, (vset W318 (o + 10) ((16 * a1) + k318) (nI 0))) = B318 k318 (g318a, W318) from by rw [hB318]; dsimp only; rw [if_neg c320, if_pos c321])).trans hT318) hok
            ·
              refine q_iload dX5_tickRecord_102 rfl ?_
              refine q_iconst (v := nI 1) dX5_tickRecord_104 rfl ?_
              refine q_isub dX5_tickRecord_105 ?_
              refine q_goto (tgt := 110) dX5_tickRecord_106 (by decide) ?_
              refine v_iast (by decide) dX5_tickRecord_110 hok H.2.2.2.2.2.2.2.2.2.2.1 (j := (16 * a1) + k318) (by omega) (fun h hok => ?_)
              refine t_iinc_n [.ref o, .int (nI a1), .int (nI 1), .int (g318a), .int (nI (k318 + 1)), .int (W318 (o + 10) ((16 * a1) + k318))] dX5_tickRecord_111 rfl (by decide) rfl ?_
              refine q_goto (tgt := 48) dX5_tickRecord_114 (by decide) ?_
              refine q_weak [.ref o, .int (nI a1), .int (nI 1), .int (g318a), .int (nI (k318 + 1)), .retAddr 0] ⟨Or.inl rfl, Or.inl rfl, Or.inl rfl, Or.inl rfl, Or.inl rfl, Or.inr ⟨0, rfl⟩, trivial⟩ ?_
              exact ih318 (k318 + 1) g318a ((vset W318 (o + 10) ((16 * a1) + k318) ((W318 (o + 10) ((16 * a1) + k318)) - (nI 1)))) h (by omega) ((congrArg (lp B318 d318 (k318 + 1)) (show (g318a, (vset W318 (o + 10) ((16 * a1) + k318) ((W318 (o + 10) ((16 * a1) + k318)) - (nI 1)))) = B318 k318 (g318a, W318) from by rw [hB318]; dsimp only; rw [if_neg c320, if_neg c321])).trans hT318) hok
          ·
            refine q_iload_n dX5_tickRecord_75 rfl ?_
            refine q_iconst (v := nI 1) dX5_tickRecord_76 rfl ?_
            refine q_iload dX5_tickRecord_77 rfl ?_
            refine q_ishl dX5_tickRecord_79 ?_
            refine q_iadd dX5_tickRecord_80 ?_
            refine q_goto (tgt := 85) dX5_tickRecord_81 (by decide) ?_
            refine t_istore [.ref o, .int (nI a1), .int (nI 1), .int ((g318a) + ((nI 1) <<< ((nI k318) &&& 31))), .int (nI k318), .int (W318 (o + 10) ((16 * a1) + k318))] (Or.inl ⟨3, rfl, rfl, dX5_tickRecord_85⟩) (by decide) rfl ?_
            refine q_aload_n dX5_tickRecord_86 rfl ?_
            refine v_getr 11 kX5 (by decide) wPX5_37 dX5_tickRecord_87 hok H.1 rfl ?_
            refine q_bipush (v := nI 16) dX5_tickRecord_90 rfl ?_
            refine q_iload_n dX5_tickRecord_92 rfl ?_
            refine t_imul_n dX5_tickRecord_93 ?_
            refine q_iload dX5_tickRecord_94 rfl ?_
            refine t_iadd_n dX5_tickRecord_96 ?_
            refine q_iload dX5_tickRecord_97 rfl ?_
            refine q_if_le (tgt := 109) dX5_tickRecord_99 (by decide) (fun c324 => ?_) (fun c324 => ?_)
            ·
              refine q_iconst (v := nI 0) dX5_tickRecord_109 rfl ?_
              refine v_iast (by decide) dX5_tickRecord_110 hok H.2.2.2.2.2.2.2.2.2.2.1 (j := (16 * a1) + k318) (by omega) (fun h hok => ?_)
              refine t_iinc_n [.ref o, .int (nI a1), .int (nI 1), .int ((g318a) + ((nI 1) <<< ((nI k318) &&& 31))), .int (nI (k318 + 1)), .int (W318 (o + 10) ((16 * a1) + k318))] dX5_tickRecord_111 rfl (by decide) rfl ?_
              refine q_goto (tgt := 48) dX5_tickRecord_114 (by decide) ?_
              refine q_weak [.ref o, .int (nI a1), .int (nI 1), .int ((g318a) + ((nI 1) <<< ((nI k318) &&& 31))), .int (nI (k318 + 1)), .retAddr 0] ⟨Or.inl rfl, Or.inl rfl, Or.inl rfl, Or.inl rfl, Or.inl rfl, Or.inr ⟨0, rfl⟩, trivial⟩ ?_
              exact ih318 (k318 + 1) ((g318a) + ((nI 1) <<< ((nI k318) &&& 31))) ((vset W318 (o + 10) ((16 * a1) + k318) (nI 0))) h (by omega) ((congrArg (lp B318 d318 (k318 + 1)) (show ((g318a) + ((nI 1) <<< ((nI k318) &&& 31)), (vset W318 (o + 10) ((16 * a1) + k318) (nI 0))) = B318 k318 (g318a, W318) from by rw [hB318]; dsimp only; rw [if_pos c320, if_pos c324])).trans hT318) hok
            ·
              refine q_iload dX5_tickRecord_102 rfl ?_
              refine q_iconst (v := nI 1) dX5_tickRecord_104 rfl ?_
              refine q_isub dX5_tickRecord_105 ?_
              refine q_goto (tgt := 110) dX5_tickRecord_106 (by decide) ?_
              refine v_iast (by decide) dX5_tickRecord_110 hok H.2.2.2.2.2.2.2.2.2.2.1 (j := (16 * a1) + k318) (by omega) (fun h hok => ?_)
              refine t_iinc_n [.ref o, .int (nI a1), .int (nI 1), .int ((g318a) + ((nI 1) <<< ((nI k318) &&& 31))), .int (nI (k318 + 1)), .int (W318 (o + 10) ((16 * a1) + k318))] dX5_tickRecord_111 rfl (by decide) rfl ?_
              refine q_goto (tgt := 48) dX5_tickRecord_114 (by decide) ?_
              refine q_weak [.ref o, .int (nI a1), .int (nI 1), .int ((g318a) + ((nI 1) <<< ((nI k318) &&& 31))), .int (nI (k318 + 1)), .retAddr 0] ⟨Or.inl rfl, Or.inl rfl, Or.inl rfl, Or.inl rfl, Or.inl rfl, Or.inr ⟨0, rfl⟩, trivial⟩ ?_
              exact ih318 (k318 + 1) ((g318a) + ((nI 1) <<< ((nI k318) &&& 31))) ((vset W318 (o + 10) ((16 * a1) + k318) ((W318 (o + 10) ((16 * a1) + k318)) - (nI 1)))) h (by omega) ((congrArg (lp B318 d318 (k318 + 1)) (show ((g318a) + ((nI 1) <<< ((nI k318) &&& 31)), (vset W318 (o + 10) ((16 * a1) + k318) ((W318 (o + 10) ((16 * a1) + k318)) - (nI 1)))) = B318 k318 (g318a, W318) from by rw [hB318]; dsimp only; rw [if_pos c320, if_neg c324])).trans hT318) hok
      exact hl318 16 0 (nI 0) ((vset V (o + 8) a1 (nI 0))) h (by omega) rfl hok
    ·
      refine q_aload_n dX5_tickRecord_30 rfl ?_
      refine v_getr 9 kX5 (by decide) wPX5_31 dX5_tickRecord_31 hok H.1 rfl ?_
      refine q_iload_n dX5_tickRecord_34 rfl ?_
      refine v_iald (by decide) dX5_tickRecord_35 hok H.2.2.2.2.2.2.2.2.1 (j := a1) (by omega) ?_
      refine q_iconst (v := nI 1) dX5_tickRecord_36 rfl ?_
      refine q_isub dX5_tickRecord_37 ?_
      refine q_goto (tgt := 42) dX5_tickRecord_38 (by decide) ?_
      refine v_iast (by decide) dX5_tickRecord_42 hok H.2.2.2.2.2.2.2.2.1 (j := a1) (by omega) (fun h hok => ?_)
      refine q_iconst (v := nI 0) dX5_tickRecord_43 rfl ?_
      refine t_istore [.ref o, .int (nI a1), .int (nI 1), .int (nI 0), .retAddr 0, .retAddr 0] (Or.inl ⟨3, rfl, rfl, dX5_tickRecord_44⟩) (by decide) rfl ?_
      refine q_iconst (v := nI 0) dX5_tickRecord_45 rfl ?_
      refine t_istore [.ref o, .int (nI a1), .int (nI 1), .int (nI 0), .int (nI 0), .retAddr 0] (Or.inr ⟨rfl, dX5_tickRecord_46⟩) (by decide) rfl ?_
      obtain ⟨B334, hB334⟩ : ∃ B_ : Nat → (Int32 × q_V) → (Int32 × q_V), B_ = (fun (k334 : Nat) (s334 : Int32 × q_V) => let g334a := s334.1; let W334 := s334.2; if (W334 (o + 10) ((16 * a1) + k334)) = (nI 1) then (if (W334 (o + 10) ((16 * a1) + k334)) ≤ 0 then (((g334a) + ((nI 1) <<< ((nI k334) &&& 31)), (vset W334 (o + 10) ((16 * a1) + k334) (nI 0)))) else (((g334a) + ((nI 1) <<< ((nI k334) &&& 31)), (vset W334 (o + 10) ((16 * a1) + k334) ((W334 (o + 10) ((16 * a1) + k334)) - (nI 1)))))) else (if (W334 (o + 10) ((16 * a1) + k334)) ≤ 0 then ((g334a, (vset W334 (o + 10) ((16 * a1) + k334) (nI 0)))) else ((g334a, (vset W334 (o + 10) ((16 * a1) + k334) ((W334 (o + 10) ((16 * a1) + k334)) - (nI 1))))))) := ⟨_, rfl⟩
      have hl334 : ∀ (d334 k334 : Nat) (g334a : Int32) (W334 : q_V) (h : q_H), k334 + d334 = 16 → lp B334 d334 k334 (g334a, W334) = (lp B334 16 0 (nI 0, (vset V (o + 8) a1 ((V (o + 8) a1) - (nI 1))))) → q_ok (gX Γ W334) h → q_A Sc mX5_tickRecord 48 [.ref o, .int (nI a1), .int (nI 1), .int (g334a), .int (nI k334), .retAddr 0] [] h n 0 0 Q := by
        intro d334
        induction d334 with
        | zero =>
          intro k334 g334a W334 h e334 hT334 hok
          obtain ⟨hq3340, hq3341⟩ : g334a = ((lp B334 16 0 (nI 0, (vset V (o + 8) a1 ((V (o + 8) a1) - (nI 1))))).1) ∧ W334 = ((lp B334 16 0 (nI 0, (vset V (o + 8) a1 ((V (o + 8) a1) - (nI 1))))).2) := ⟨congrArg (fun q => q.1) hT334, congrArg (fun q => q.2) hT334⟩
          subst hq3340
          subst hq3341
          refine q_iload dX5_tickRecord_48 rfl ?_
          refine q_bipush (v := nI 16) dX5_tickRecord_50 rfl ?_
          refine t_icmp_ge_n (tgt := 117) (by omega) (by omega) dX5_tickRecord_52 (by decide) (fun c344 => ?_) (fun c344 => ?_)
          rotate_left
          · exact absurd c344 (by omega)
          refine q_aload_n dX5_tickRecord_117 rfl ?_
          refine v_getr 8 kX5 (by decide) wPX5_28 dX5_tickRecord_118 hok H.1 rfl ?_
          refine q_iload_n dX5_tickRecord_121 rfl ?_
          refine v_iald (by decide) dX5_tickRecord_122 hok H.2.2.2.2.2.2.2.1 (j := a1) (by omega) ?_
          refine q_iconst (v := -1) dX5_tickRecord_123 rfl ?_
          refine q_icmp_ne (tgt := 128) dX5_tickRecord_124 (by decide) (fun c345 => ?_) (fun c345 => ?_)
          ·
            refine q_aload_n dX5_tickRecord_128 rfl ?_
            refine q_iload_n dX5_tickRecord_129 rfl ?_
            refine q_iconst (v := nI 1) dX5_tickRecord_130 rfl ?_
            refine v_callV (M' := mX5_setOf) [.int (nI a1), .int (nI 1)] [] kX5 dX5_tickRecord_131 wPX5_90v wIX5_setOf wSX5_setOf iX5_setOf oX5_setOf rfl hok H.1 (eX5_setOf_1 Sc Γ n ((lp B334 16 0 (nI 0, (vset V (o + 8) a1 ((V (o + 8) a1) - (nI 1))))).2) o ml H hm1 hml a1 (by omega)) (Nat.le_of_ble_eq_true rfl) (Nat.le_of_ble_eq_true rfl) (Nat.le_of_ble_eq_true rfl) rfl (fun h hok => ?_)
            refine t_istore [.ref o, .int (nI a1), .int (nI 1), .int ((lp B334 16 0 (nI 0, (vset V (o + 8) a1 ((V (o + 8) a1) - (nI 1))))).1), .int (vX5_setOf_1 o ml a1 ((lp B334 16 0 (nI 0, (vset V (o + 8) a1 ((V (o + 8) a1) - (nI 1))))).2)), .retAddr 0] (Or.inr ⟨rfl, dX5_tickRecord_134⟩) (by decide) rfl ?_
            refine q_aload_n dX5_tickRecord_136 rfl ?_
            refine q_iload_n dX5_tickRecord_137 rfl ?_
            refine q_iconst (v := nI 2) dX5_tickRecord_138 rfl ?_
            refine v_callV (M' := mX5_setOf) [.int (nI a1), .int (nI 2)] [] kX5 dX5_tickRecord_139 wPX5_90v wIX5_setOf wSX5_setOf iX5_setOf oX5_setOf rfl hok H.1 (eX5_setOf_2 Sc Γ n ((lp B334 16 0 (nI 0, (vset V (o + 8) a1 ((V (o + 8) a1) - (nI 1))))).2) o ml H hm1 hml a1 (by omega)) (Nat.le_of_ble_eq_true rfl) (Nat.le_of_ble_eq_true rfl) (Nat.le_of_ble_eq_true rfl) rfl (fun h hok => ?_)
            refine t_istore [.ref o, .int (nI a1), .int (nI 1), .int ((lp B334 16 0 (nI 0, (vset V (o + 8) a1 ((V (o + 8) a1) - (nI 1))))).1), .int (vX5_setOf_1 o ml a1 ((lp B334 16 0 (nI 0, (vset V (o + 8) a1 ((V (o + 8) a1) - (nI 1))))).2)), .int (vX5_setOf_2 o ml a1 ((lp B334 16 0 (nI 0, (vset V (o + 8) a1 ((V (o + 8) a1) - (nI 1))))).2))] (Or.inr ⟨rfl, dX5_tickRecord_142⟩) (by decide) rfl ?_
            refine q_aload_n dX5_tickRecord_144 rfl ?_
            refine v_getr 8 kX5 (by decide) wPX5_28 dX5_tickRecord_145 hok H.1 rfl ?_
            refine q_iload_n dX5_tickRecord_148 rfl ?_
            refine v_iald (by decide) dX5_tickRecord_149 hok H.2.2.2.2.2.2.2.1 (j := a1) (by omega) ?_
            refine q_iconst (v := nI 1) dX5_tickRecord_150 rfl ?_
            refine q_icmp_ne (tgt := 177) dX5_tickRecord_151 (by decide) (fun c346 => ?_) (fun c346 => ?_)
            ·
              refine q_aload_n dX5_tickRecord_177 rfl ?_
              refine q_iload_n dX5_tickRecord_178 rfl ?_
              refine q_iconst (v := nI 0) dX5_tickRecord_179 rfl ?_
              refine q_iload dX5_tickRecord_180 rfl ?_
              refine q_iload_n dX5_tickRecord_182 rfl ?_
              refine q_iconst (v := -1) dX5_tickRecord_183 rfl ?_
              refine q_ixor dX5_tickRecord_184 ?_
              refine q_iand dX5_tickRecord_185 ?_
              refine q_iconst (v := nI 0) dX5_tickRecord_186 rfl ?_
              refine v_callV (M' := mX5_become) [.int (nI a1), .int (nI 0), .int ((vX5_setOf_1 o ml a1 ((lp B334 16 0 (nI 0, (vset V (o + 8) a1 ((V (o + 8) a1) - (nI 1))))).2)) &&& (((lp B334 16 0 (nI 0, (vset V (o + 8) a1 ((V (o + 8) a1) - (nI 1))))).1) ^^^ (-1))), .int (nI 0)] [] kX5 dX5_tickRecord_187 wPX5_94v wIX5_become wSX5_become iX5_become oX5_become rfl hok H.1 (eX5_become_0 Sc Γ n ((lp B334 16 0 (nI 0, (vset V (o + 8) a1 ((V (o + 8) a1) - (nI 1))))).2) o ml H hm1 hml a1 (by omega) ((vX5_setOf_1 o ml a1 ((lp B334 16 0 (nI 0, (vset V (o + 8) a1 ((V (o + 8) a1) - (nI 1))))).2)) &&& (((lp B334 16 0 (nI 0, (vset V (o + 8) a1 ((V (o + 8) a1) - (nI 1))))).1) ^^^ (-1))) (nI 0)) (Nat.le_of_ble_eq_true rfl) (Nat.le_of_ble_eq_true rfl) (Nat.le_of_ble_eq_true rfl) rfl (fun h hok => ?_)
              exact q_vret dX5_tickRecord_190 rfl (hQ _ _ (rfl) (by subst hB334; dsimp only [fX5_tickRecord]; rw [if_pos c282, if_neg c316, if_neg c345, if_neg c346]; exact hok))
            ·
              refine q_iload_n dX5_tickRecord_154 rfl ?_
              refine q_if_ne (tgt := 177) dX5_tickRecord_155 (by decide) (fun _ => ?_) (fun q => absurd q (by decide))
              refine q_aload_n dX5_tickRecord_177 rfl ?_
              refine q_iload_n dX5_tickRecord_178 rfl ?_
              refine q_iconst (v := nI 0) dX5_tickRecord_179 rfl ?_
              refine q_iload dX5_tickRecord_180 rfl ?_
              refine q_iload_n dX5_tickRecord_182 rfl ?_
              refine q_iconst (v := -1) dX5_tickRecord_183 rfl ?_
              refine q_ixor dX5_tickRecord_184 ?_
              refine q_iand dX5_tickRecord_185 ?_
              refine q_iconst (v := nI 0) dX5_tickRecord_186 rfl ?_
              refine v_callV (M' := mX5_become) [.int (nI a1), .int (nI 0), .int ((vX5_setOf_1 o ml a1 ((lp B334 16 0 (nI 0, (vset V (o + 8) a1 ((V (o + 8) a1) - (nI 1))))).2)) &&& (((lp B334 16 0 (nI 0, (vset V (o + 8) a1 ((V (o + 8) a1) - (nI 1))))).1) ^^^ (-1))), .int (nI 0)] [] kX5 dX5_tickRecord_187 wPX5_94v wIX5_become wSX5_become iX5_become oX5_become rfl hok H.1 (eX5_become_0 Sc Γ n ((lp B334 16 0 (nI 0, (vset V (o + 8) a1 ((V (o + 8) a1) - (nI 1))))).2) o ml H hm1 hml a1 (by omega) ((vX5_setOf_1 o ml a1 ((lp B334 16 0 (nI 0, (vset V (o + 8) a1 ((V (o + 8) a1) - (nI 1))))).2)) &&& (((lp B334 16 0 (nI 0, (vset V (o + 8) a1 ((V (o + 8) a1) - (nI 1))))).1) ^^^ (-1))) (nI 0)) (Nat.le_of_ble_eq_true rfl) (Nat.le_of_ble_eq_true rfl) (Nat.le_of_ble_eq_true rfl) rfl (fun h hok => ?_)
              exact q_vret dX5_tickRecord_190 rfl (hQ _ _ (rfl) (by subst hB334; dsimp only [fX5_tickRecord]; rw [if_pos c282, if_neg c316, if_neg c345, if_pos c346]; exact hok))
          ·
            exact q_vret dX5_tickRecord_127 rfl (hQ _ _ (rfl) (by subst hB334; dsimp only [fX5_tickRecord]; rw [if_pos c282, if_neg c316, if_pos c345]; exact hok))
        | succ d334 ih334 =>
          intro k334 g334a W334 h e334 hT334 hok
          refine q_iload dX5_tickRecord_48 rfl ?_
          refine q_bipush (v := nI 16) dX5_tickRecord_50 rfl ?_
          refine t_icmp_ge_n (tgt := 117) (by omega) (by omega) dX5_tickRecord_52 (by decide) (fun c335 => ?_) (fun c335 => ?_)
          · exact absurd c335 (by omega)
          refine q_aload_n dX5_tickRecord_55 rfl ?_
          refine v_getr 11 kX5 (by decide) wPX5_37 dX5_tickRecord_56 hok H.1 rfl ?_
          refine q_bipush (v := nI 16) dX5_tickRecord_59 rfl ?_
          refine q_iload_n dX5_tickRecord_61 rfl ?_
          refine t_imul_n dX5_tickRecord_62 ?_
          refine q_iload dX5_tickRecord_63 rfl ?_
          refine t_iadd_n dX5_tickRecord_65 ?_
          refine v_iald (by decide) dX5_tickRecord_66 hok H.2.2.2.2.2.2.2.2.2.2.1 (j := (16 * a1) + k334) (by omega) ?_
          refine t_istore [.ref o, .int (nI a1), .int (nI 1), .int (g334a), .int (nI k334), .int (W334 (o + 10) ((16 * a1) + k334))] (Or.inr ⟨rfl, dX5_tickRecord_67⟩) (by decide) rfl ?_
          refine q_iload dX5_tickRecord_69 rfl ?_
          refine q_iconst (v := nI 1) dX5_tickRecord_71 rfl ?_
          refine q_icmp_ne (tgt := 84) dX5_tickRecord_72 (by decide) (fun c336 => ?_) (fun c336 => ?_)
          ·
            refine q_iload_n dX5_tickRecord_84 rfl ?_
            refine t_istore [.ref o, .int (nI a1), .int (nI 1), .int (g334a), .int (nI k334), .int (W334 (o + 10) ((16 * a1) + k334))] (Or.inl ⟨3, rfl, rfl, dX5_tickRecord_85⟩) (by decide) rfl ?_
            refine q_aload_n dX5_tickRecord_86 rfl ?_
            refine v_getr 11 kX5 (by decide) wPX5_37 dX5_tickRecord_87 hok H.1 rfl ?_
            refine q_bipush (v := nI 16) dX5_tickRecord_90 rfl ?_
            refine q_iload_n dX5_tickRecord_92 rfl ?_
            refine t_imul_n dX5_tickRecord_93 ?_
            refine q_iload dX5_tickRecord_94 rfl ?_
            refine t_iadd_n dX5_tickRecord_96 ?_
            refine q_iload dX5_tickRecord_97 rfl ?_
            refine q_if_le (tgt := 109) dX5_tickRecord_99 (by decide) (fun c337 => ?_) (fun c337 => ?_)
            ·
              refine q_iconst (v := nI 0) dX5_tickRecord_109 rfl ?_
              refine v_iast (by decide) dX5_tickRecord_110 hok H.2.2.2.2.2.2.2.2.2.2.1 (j := (16 * a1) + k334) (by omega) (fun h hok => ?_)
              refine t_iinc_n [.ref o, .int (nI a1), .int (nI 1), .int (g334a), .int (nI (k334 + 1)), .int (W334 (o + 10) ((16 * a1) + k334))] dX5_tickRecord_111 rfl (by decide) rfl ?_
              refine q_goto (tgt := 48) dX5_tickRecord_114 (by decide) ?_
              refine q_weak [.ref o, .int (nI a1), .int (nI 1), .int (g334a), .int (nI (k334 + 1)), .retAddr 0] ⟨Or.inl rfl, Or.inl rfl, Or.inl rfl, Or.inl rfl, Or.inl rfl, Or.inr ⟨0, rfl⟩, trivial⟩ ?_
              exact ih334 (k334 + 1) g334a ((vset W334 (o + 10) ((16 * a1) + k334) (nI 0))) h (by omega) ((congrArg (lp B334 d334 (k334 + 1)) (show (g334a, (vset W334 (o + 10) ((16 * a1) + k334) (nI 0))) = B334 k334 (g334a, W334) from by rw [hB334]; dsimp only; rw [if_neg c336, if_pos c337])).trans hT334) hok
            ·
              refine q_iload dX5_tickRecord_102 rfl ?_
              refine q_iconst (v := nI 1) dX5_tickRecord_104 rfl ?_
              refine q_isub dX5_tickRecord_105 ?_
              refine q_goto (tgt := 110) dX5_tickRecord_106 (by decide) ?_
              refine v_iast (by decide) dX5_tickRecord_110 hok H.2.2.2.2.2.2.2.2.2.2.1 (j := (16 * a1) + k334) (by omega) (fun h hok => ?_)
              refine t_iinc_n [.ref o, .int (nI a1), .int (nI 1), .int (g334a), .int (nI (k334 + 1)), .int (W334 (o + 10) ((16 * a1) + k334))] dX5_tickRecord_111 rfl (by decide) rfl ?_
              refine q_goto (tgt := 48) dX5_tickRecord_114 (by decide) ?_
              refine q_weak [.ref o, .int (nI a1), .int (nI 1), .int (g334a), .int (nI (k334 + 1)), .retAddr 0] ⟨Or.inl rfl, Or.inl rfl, Or.inl rfl, Or.inl rfl, Or.inl rfl, Or.inr ⟨0, rfl⟩, trivial⟩ ?_
              exact ih334 (k334 + 1) g334a ((vset W334 (o + 10) ((16 * a1) + k334) ((W334 (o + 10) ((16 * a1) + k334)) - (nI 1)))) h (by omega) ((congrArg (lp B334 d334 (k334 + 1)) (show (g334a, (vset W334 (o + 10) ((16 * a1) + k334) ((W334 (o + 10) ((16 * a1) + k334)) - (nI 1)))) = B334 k334 (g334a, W334) from by rw [hB334]; dsimp only; rw [if_neg c336, if_neg c337])).trans hT334) hok
          ·
            refine q_iload_n dX5_tickRecord_75 rfl ?_
            refine q_iconst (v := nI 1) dX5_tickRecord_76 rfl ?_
            refine q_iload dX5_tickRecord_77 rfl ?_
            refine q_ishl dX5_tickRecord_79 ?_
            refine q_iadd dX5_tickRecord_80 ?_
            refine q_goto (tgt := 85) dX5_tickRecord_81 (by decide) ?_
            refine t_istore [.ref o, .int (nI a1), .int (nI 1), .int ((g334a) + ((nI 1) <<< ((nI k334) &&& 31))), .int (nI k334), .int (W334 (o + 10) ((16 * a1) + k334))] (Or.inl ⟨3, rfl, rfl, dX5_tickRecord_85⟩) (by decide) rfl ?_
            refine q_aload_n dX5_tickRecord_86 rfl ?_
            refine v_getr 11 kX5 (by decide) wPX5_37 dX5_tickRecord_87 hok H.1 rfl ?_
            refine q_bipush (v := nI 16) dX5_tickRecord_90 rfl ?_
            refine q_iload_n dX5_tickRecord_92 rfl ?_
            refine t_imul_n dX5_tickRecord_93 ?_
            refine q_iload dX5_tickRecord_94 rfl ?_
            refine t_iadd_n dX5_tickRecord_96 ?_
            refine q_iload dX5_tickRecord_97 rfl ?_
            refine q_if_le (tgt := 109) dX5_tickRecord_99 (by decide) (fun c340 => ?_) (fun c340 => ?_)
            ·
              refine q_iconst (v := nI 0) dX5_tickRecord_109 rfl ?_
              refine v_iast (by decide) dX5_tickRecord_110 hok H.2.2.2.2.2.2.2.2.2.2.1 (j := (16 * a1) + k334) (by omega) (fun h hok => ?_)
              refine t_iinc_n [.ref o, .int (nI a1), .int (nI 1), .int ((g334a) + ((nI 1) <<< ((nI k334) &&& 31))), .int (nI (k334 + 1)), .int (W334 (o + 10) ((16 * a1) + k334))] dX5_tickRecord_111 rfl (by decide) rfl ?_
              refine q_goto (tgt := 48) dX5_tickRecord_114 (by decide) ?_
              refine q_weak [.ref o, .int (nI a1), .int (nI 1), .int ((g334a) + ((nI 1) <<< ((nI k334) &&& 31))), .int (nI (k334 + 1)), .retAddr 0] ⟨Or.inl rfl, Or.inl rfl, Or.inl rfl, Or.inl rfl, Or.inl rfl, Or.inr ⟨0, rfl⟩, trivial⟩ ?_
              exact ih334 (k334 + 1) ((g334a) + ((nI 1) <<< ((nI k334) &&& 31))) ((vset W334 (o + 10) ((16 * a1) + k334) (nI 0))) h (by omega) ((congrArg (lp B334 d334 (k334 + 1)) (show ((g334a) + ((nI 1) <<< ((nI k334) &&& 31)), (vset W334 (o + 10) ((16 * a1) + k334) (nI 0))) = B334 k334 (g334a, W334) from by rw [hB334]; dsimp only; rw [if_pos c336, if_pos c340])).trans hT334) hok
            ·
              refine q_iload dX5_tickRecord_102 rfl ?_
              refine q_iconst (v := nI 1) dX5_tickRecord_104 rfl ?_
              refine q_isub dX5_tickRecord_105 ?_
              refine q_goto (tgt := 110) dX5_tickRecord_106 (by decide) ?_
              refine v_iast (by decide) dX5_tickRecord_110 hok H.2.2.2.2.2.2.2.2.2.2.1 (j := (16 * a1) + k334) (by omega) (fun h hok => ?_)
              refine t_iinc_n [.ref o, .int (nI a1), .int (nI 1), .int ((g334a) + ((nI 1) <<< ((nI k334) &&& 31))), .int (nI (k334 + 1)), .int (W334 (o + 10) ((16 * a1) + k334))] dX5_tickRecord_111 rfl (by decide) rfl ?_
              refine q_goto (tgt := 48) dX5_tickRecord_114 (by decide) ?_
              refine q_weak [.ref o, .int (nI a1), .int (nI 1), .int ((g334a) + ((nI 1) <<< ((nI k334) &&& 31))), .int (nI (k334 + 1)), .retAddr 0] ⟨Or.inl rfl, Or.inl rfl, Or.inl rfl, Or.inl rfl, Or.inl rfl, Or.inr ⟨0, rfl⟩, trivial⟩ ?_
              exact ih334 (k334 + 1) ((g334a) + ((nI 1) <<< ((nI k334) &&& 31))) ((vset W334 (o + 10) ((16 * a1) + k334) ((W334 (o + 10) ((16 * a1) + k334)) - (nI 1)))) h (by omega) ((congrArg (lp B334 d334 (k334 + 1)) (show ((g334a) + ((nI 1) <<< ((nI k334) &&& 31)), (vset W334 (o + 10) ((16 * a1) + k334) ((W334 (o + 10) ((16 * a1) + k334)) - (nI 1)))) = B334 k334 (g334a, W334) from by rw [hB334]; dsimp only; rw [if_pos c336, if_neg c340])).trans hT334) hok
      exact hl334 16 0 (nI 0) ((vset V (o + 8) a1 ((V (o + 8) a1) - (nI 1)))) h (by omega) rfl hok
theorem SX5_tickRecord (o ml : Nat) (a1 : Nat) {V : q_V} {b : Nat} (hS : SB V o b) : SB (fX5_tickRecord o ml a1 V) o b := by
  dsimp only [fX5_tickRecord]
  repeat' (first | with_reducible assumption | with_reducible refine SB.vs ?_ (Or.inl ?_) | with_reducible refine SB.l1 (fun k s h => ?_) _ _ _ ?_ | with_reducible refine SB.l2 (fun k s h => ?_) _ _ _ ?_ | with_reducible refine SX5_become_0 _ _ _ _ _ ?_ | with_reducible refine SX5_become_1 _ _ _ _ _ ?_ | omega | split | dsimp only)
def fX5_tickLink (o ml : Nat) (a1 : Nat) (V : q_V) : q_V := if (V (o + 5) a1) ≤ 0 then (let V350 := vset V (o + 6) a1 ((V (o + 6) a1) - (nI 1)); if (V350 (o + 6) a1) ≤ 0 then (let V352 := vset V350 (o + 6) a1 (V350 (o + 2) a1); let V353 := fX5_send o ml (nI a1) (-1) (nI 0) V352; V353) else (V350)) else (let V354 := vset V (o + 5) a1 ((V (o + 5) a1) - (nI 1)); if (V354 (o + 5) a1) = 0 then (let V356 := vset V354 (o + 4) a1 (nI 500); let V357 := vset V356 (o + 6) a1 (V356 (o + 2) a1); V357) else (V354))
def vX5_tickLink (o ml : Nat) (a1 : Nat) (V : q_V) : Int32 := if (V (o + 5) a1) ≤ 0 then (let V350 := vset V (o + 6) a1 ((V (o + 6) a1) - (nI 1)); if (V350 (o + 6) a1) ≤ 0 then (let V352 := vset V350 (o + 6) a1 (V350 (o + 2) a1); let V353 := fX5_send o ml (nI a1) (-1) (nI 0) V352; (nI 1)) else ((nI 0))) else (let V354 := vset V (o + 5) a1 ((V (o + 5) a1) - (nI 1)); if (V354 (o + 5) a1) = 0 then (let V356 := vset V354 (o + 4) a1 (nI 500); let V357 := vset V356 (o + 6) a1 (V356 (o + 2) a1); (nI 0)) else ((nI 0)))
set_option maxRecDepth 20000 in
set_option maxHeartbeats 4000000 in
theorem eX5_tickLink (Sc : q_S) (Γ : Nat → q_K) (n : Nat) (V : q_V) (o ml : Nat) (H : sM Γ o ml) (hm1 : 1 ≤ ml) (hml : ml ≤ 4) (a1 : Nat) (b1 : a1 < 4) (b : Nat) (hb : b + 1 ≤ 2000000000) (hS : SB V o b) : q_fn Sc Γ mX5_tickLink [.ref o, .int (nI a1)] n V (some (.int (vX5_tickLink o ml a1 V))) (fX5_tickLink o ml a1 V) := by
  refine q_fn.of fun Q h hQ hok => ?_
  show q_A Sc mX5_tickLink 0 [.ref o, .int (nI a1)] [] h n 0 0 Q
  refine q_aload_n dX5_tickLink_0 rfl ?_
  refine v_getr 6 kX5 (by decide) wPX5_22 dX5_tickLink_1 hok H.1 rfl ?_
  refine q_iload_n dX5_tickLink_4 rfl ?_
  refine v_iald (by decide) dX5_tickLink_5 hok H.2.2.2.2.2.1 (j := a1) (by omega) ?_
  refine q_if_le (tgt := 51) dX5_tickLink_6 (by decide) (fun c349 => ?_) (fun c349 => ?_)
  ·
    refine q_aload_n dX5_tickLink_51 rfl ?_
    refine v_getr 7 kX5 (by decide) wPX5_25 dX5_tickLink_52 hok H.1 rfl ?_
    refine q_iload_n dX5_tickLink_55 rfl ?_
    refine q_dup2 dX5_tickLink_56 rfl rfl ?_
    refine v_iald (by decide) dX5_tickLink_57 hok H.2.2.2.2.2.2.1 (j := a1) (by omega) ?_
    refine q_iconst (v := nI 1) dX5_tickLink_58 rfl ?_
    refine q_isub dX5_tickLink_59 ?_
    refine v_iast (by decide) dX5_tickLink_60 hok H.2.2.2.2.2.2.1 (j := a1) (by omega) (fun h hok => ?_)
    refine q_aload_n dX5_tickLink_61 rfl ?_
    refine v_getr 7 kX5 (by decide) wPX5_25 dX5_tickLink_62 hok H.1 rfl ?_
    refine q_iload_n dX5_tickLink_65 rfl ?_
    refine v_iald (by decide) dX5_tickLink_66 hok H.2.2.2.2.2.2.1 (j := a1) (by omega) ?_
    refine q_if_le (tgt := 72) dX5_tickLink_67 (by decide) (fun c351 => ?_) (fun c351 => ?_)
    ·
      refine q_aload_n dX5_tickLink_72 rfl ?_
      refine v_getr 7 kX5 (by decide) wPX5_25 dX5_tickLink_73 hok H.1 rfl ?_
      refine q_iload_n dX5_tickLink_76 rfl ?_
      refine q_aload_n dX5_tickLink_77 rfl ?_
      refine v_getr 3 kX5 (by decide) wPX5_13 dX5_tickLink_78 hok H.1 rfl ?_
      refine q_iload_n dX5_tickLink_81 rfl ?_
      refine v_iald (by decide) dX5_tickLink_82 hok H.2.2.1 (j := a1) (by omega) ?_
      refine v_iast (by decide) dX5_tickLink_83 hok H.2.2.2.2.2.2.1 (j := a1) (by omega) (fun h hok => ?_)
      refine q_aload_n dX5_tickLink_84 rfl ?_
      refine q_iload_n dX5_tickLink_85 rfl ?_
      refine q_iconst (v := -1) dX5_tickLink_86 rfl ?_
      refine q_iconst (v := nI 0) dX5_tickLink_87 rfl ?_
      refine v_callV (M' := mX5_send) [.int (nI a1), .int (-1), .int (nI 0)] [] kX5 dX5_tickLink_88 wPX5_79v wIX5_send wSX5_send iX5_send oX5_send rfl hok H.1 (eX5_send Sc Γ n (vset (vset V (o + 6) a1 ((V (o + 6) a1) - (nI 1))) (o + 6) a1 ((vset V (o + 6) a1 ((V (o + 6) a1) - (nI 1))) (o + 2) a1)) o ml H hm1 hml (nI a1) (-1) (nI 0) (b) (by omega) (SB.vs (SB.vs hS (by first | exact Or.inr (by decide) | exact Or.inl (by omega))) (by first | exact Or.inr (by decide) | exact Or.inl (by omega)))) (Nat.le_of_ble_eq_true rfl) (Nat.le_of_ble_eq_true rfl) (Nat.le_of_ble_eq_true rfl) rfl (fun h hok => ?_)
      refine q_iconst (v := nI 1) dX5_tickLink_91 rfl ?_
      exact q_iret dX5_tickLink_92 rfl (rfl) (hQ _ _ (by dsimp only [vX5_tickLink]; rw [if_pos c349, if_pos c351]) (by dsimp only [fX5_tickLink]; rw [if_pos c349, if_pos c351]; exact hok))
    ·
      refine q_iconst (v := nI 0) dX5_tickLink_70 rfl ?_
      exact q_iret dX5_tickLink_71 rfl (rfl) (hQ _ _ (by dsimp only [vX5_tickLink]; rw [if_pos c349, if_neg c351]) (by dsimp only [fX5_tickLink]; rw [if_pos c349, if_neg c351]; exact hok))
  ·
    refine q_aload_n dX5_tickLink_9 rfl ?_
    refine v_getr 6 kX5 (by decide) wPX5_22 dX5_tickLink_10 hok H.1 rfl ?_
    refine q_iload_n dX5_tickLink_13 rfl ?_
    refine q_dup2 dX5_tickLink_14 rfl rfl ?_
    refine v_iald (by decide) dX5_tickLink_15 hok H.2.2.2.2.2.1 (j := a1) (by omega) ?_
    refine q_iconst (v := nI 1) dX5_tickLink_16 rfl ?_
    refine q_isub dX5_tickLink_17 ?_
    refine v_iast (by decide) dX5_tickLink_18 hok H.2.2.2.2.2.1 (j := a1) (by omega) (fun h hok => ?_)
    refine q_aload_n dX5_tickLink_19 rfl ?_
    refine v_getr 6 kX5 (by decide) wPX5_22 dX5_tickLink_20 hok H.1 rfl ?_
    refine q_iload_n dX5_tickLink_23 rfl ?_
    refine v_iald (by decide) dX5_tickLink_24 hok H.2.2.2.2.2.1 (j := a1) (by omega) ?_
    refine q_if_ne (tgt := 49) dX5_tickLink_25 (by decide) (fun c355 => ?_) (fun c355 => ?_)
    ·
      refine q_iconst (v := nI 0) dX5_tickLink_49 rfl ?_
      exact q_iret dX5_tickLink_50 rfl (rfl) (hQ _ _ (by dsimp only [vX5_tickLink]; rw [if_neg c349, if_neg c355]) (by dsimp only [fX5_tickLink]; rw [if_neg c349, if_neg c355]; exact hok))
    ·
      refine q_aload_n dX5_tickLink_28 rfl ?_
      refine v_getr 5 kX5 (by decide) wPX5_19 dX5_tickLink_29 hok H.1 rfl ?_
      refine q_iload_n dX5_tickLink_32 rfl ?_
      refine q_sipush (v := nI 500) dX5_tickLink_33 rfl ?_
      refine v_iast (by decide) dX5_tickLink_36 hok H.2.2.2.2.1 (j := a1) (by omega) (fun h hok => ?_)
      refine q_aload_n dX5_tickLink_37 rfl ?_
      refine v_getr 7 kX5 (by decide) wPX5_25 dX5_tickLink_38 hok H.1 rfl ?_
      refine q_iload_n dX5_tickLink_41 rfl ?_
      refine q_aload_n dX5_tickLink_42 rfl ?_
      refine v_getr 3 kX5 (by decide) wPX5_13 dX5_tickLink_43 hok H.1 rfl ?_
      refine q_iload_n dX5_tickLink_46 rfl ?_
      refine v_iald (by decide) dX5_tickLink_47 hok H.2.2.1 (j := a1) (by omega) ?_
      refine v_iast (by decide) dX5_tickLink_48 hok H.2.2.2.2.2.2.1 (j := a1) (by omega) (fun h hok => ?_)
      refine q_iconst (v := nI 0) dX5_tickLink_49 rfl ?_
      exact q_iret dX5_tickLink_50 rfl (rfl) (hQ _ _ (by dsimp only [vX5_tickLink]; rw [if_neg c349, if_pos c355]) (by dsimp only [fX5_tickLink]; rw [if_neg c349, if_pos c355]; exact hok))
theorem bX5_tickLink (o ml : Nat) (a1 : Nat) (V : q_V) : q_bl (vX5_tickLink o ml a1 V) := by
  dsimp only [vX5_tickLink]
  repeat' split
  all_goals first | exact Or.inl rfl | exact Or.inr rfl
theorem SX5_tickLink (o ml : Nat) (a1 : Nat) {V : q_V} {b : Nat} (hS : SB V o b) (hb : b + 1 ≤ 2000000000) : SB (fX5_tickLink o ml a1 V) o (b + 1) := by
  dsimp only [fX5_tickLink]
  split
  ·
    split
    ·
      exact SB.mo (SX5_send o ml (nI a1) (-1) (nI 0) (SB.vs (SB.vs hS (by first | exact Or.inr (by decide) | exact Or.inl (by omega))) (by first | exact Or.inr (by decide) | exact Or.inl (by omega))) (by omega)) (by omega)
    ·
      exact SB.mo (SB.vs hS (by first | exact Or.inr (by decide) | exact Or.inl (by omega))) (by omega)
  ·
    split
    ·
      exact SB.mo (SB.vs (SB.vs (SB.vs hS (by first | exact Or.inr (by decide) | exact Or.inl (by omega))) (by first | exact Or.inr (by decide) | exact Or.inl (by omega))) (by first | exact Or.inr (by decide) | exact Or.inl (by omega))) (by omega)
    ·
      exact SB.mo (SB.vs hS (by first | exact Or.inr (by decide) | exact Or.inl (by omega))) (by omega)
