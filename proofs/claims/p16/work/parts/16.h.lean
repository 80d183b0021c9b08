def sM (Γ : Nat → q_K) (o ml : Nat) : Prop := Γ o = (4, 5, [(0, 0), (2, ml), (1, o + 1), (1, o + 2), (1, o + 3), (1, o + 4), (1, o + 5), (1, o + 6), (1, o + 7), (1, o + 8), (1, o + 9), (1, o + 10), (1, o + 11), (1, o + 12), (0, 0), (0, 0), (1, o + 13), (1, o + 14), (1, o + 15), (1, o + 16)]) ∧ Γ (o + 1) = (1, 4, []) ∧ Γ (o + 2) = (1, 4, []) ∧ Γ (o + 3) = (1, 4, []) ∧ Γ (o + 4) = (1, 4, []) ∧ Γ (o + 5) = (1, 4, []) ∧ Γ (o + 6) = (1, 4, []) ∧ Γ (o + 7) = (1, 32, []) ∧ Γ (o + 8) = (1, 32, []) ∧ Γ (o + 9) = (1, 512, []) ∧ Γ (o + 10) = (1, 512, []) ∧ Γ (o + 11) = (2, 192, []) ∧ Γ (o + 12) = (1, 192, []) ∧ Γ (o + 13) = (1, 40, []) ∧ Γ (o + 14) = (1, 40, []) ∧ Γ (o + 15) = (1, 40, []) ∧ Γ (o + 16) = (1, 40, [])
theorem SB.l1 {o b : Nat} {B : Nat → q_V → q_V} (hB : ∀ k s, SB s o b → SB (B k s) o b) : ∀ (d k : Nat) (s : q_V), SB s o b → SB (lp B d k s) o b
  | 0, _, _, h => h
  | d + 1, k, s, h => SB.l1 hB d (k + 1) (B k s) (hB k s h)
theorem SB.l2 {o b : Nat} {B : Nat → Int32 × q_V → Int32 × q_V} (hB : ∀ k s, SB s.2 o b → SB (B k s).2 o b) : ∀ (d k : Nat) (s : Int32 × q_V), SB s.2 o b → SB (lp B d k s).2 o b
  | 0, _, _, h => h
  | d + 1, k, s, h => SB.l2 hB d (k + 1) (B k s) (hB k s h)
theorem SB.inc {V : q_V} {o b : Nat} (h : SB V o b) (hb : b + 1 ≤ 2000000000) : SB (vset V o 15 (V o 15 + nI 1)) o (b + 1) := by
  unfold SB
  rw [vs_at, Int32.toInt_add, nI_toInt (by decide)]
  obtain ⟨h1, h2⟩ := h
  rw [Int.bmod_eq_of_le (by omega) (by omega)]
  omega
theorem SB.cg {V W : q_V} {o b : Nat} (h : SB V o b) (e : W o 15 = V o 15) : SB W o b := by
  unfold SB
  rw [e]
  exact h
def vX5_grace (o ml : Nat) (a1 : Nat) (V : q_V) : Int32 := (((V (o + 1) a1) * (V (o + 2) a1)) + (V (o + 3) a1))
set_option maxRecDepth 20000 in
set_option maxHeartbeats 4000000 in
theorem eX5_grace (Sc : q_S) (Γ : Nat → q_K) (n : Nat) (V : q_V) (o ml : Nat) (H : sM Γ o ml) (hm1 : 1 ≤ ml) (hml : ml ≤ 4) (a1 : Nat) (b1 : a1 < 4) : q_fn Sc Γ mX5_grace [.ref o, .int (nI a1)] n V (some (.int (vX5_grace o ml a1 V))) V := by
  refine q_fn.of fun Q h hQ hok => ?_
  show q_A Sc mX5_grace 0 [.ref o, .int (nI a1)] [] h n 0 0 Q
  refine q_aload_n dX5_grace_0 rfl ?_
  refine v_getr 2 kX5 (by decide) wPX5_7 dX5_grace_1 hok H.1 rfl ?_
  refine q_iload_n dX5_grace_4 rfl ?_
  refine v_iald (by decide) dX5_grace_5 hok H.2.1 (j := a1) (by omega) ?_
  refine q_aload_n dX5_grace_6 rfl ?_
  refine v_getr 3 kX5 (by decide) wPX5_13 dX5_grace_7 hok H.1 rfl ?_
  refine q_iload_n dX5_grace_10 rfl ?_
  refine v_iald (by decide) dX5_grace_11 hok H.2.2.1 (j := a1) (by omega) ?_
  refine q_imul dX5_grace_12 ?_
  refine q_aload_n dX5_grace_13 rfl ?_
  refine v_getr 4 kX5 (by decide) wPX5_16 dX5_grace_14 hok H.1 rfl ?_
  refine q_iload_n dX5_grace_17 rfl ?_
  refine v_iald (by decide) dX5_grace_18 hok H.2.2.2.1 (j := a1) (by omega) ?_
  refine q_iadd dX5_grace_19 ?_
  exact q_iret dX5_grace_20 rfl (rfl) (hQ _ _ (by dsimp only [vX5_grace]) (hok))
def vX5_setOf_1 (o ml : Nat) (a1 : Nat) (V : q_V) : Int32 := let B167 := fun (k167 : Nat) (s167 : Int32) => let g167a := s167; if (V (o + 9) ((16 * a1) + k167)) = (nI 1) then ((g167a) + ((nI 1) <<< ((nI k167) &&& 31))) else (g167a); let T167 := lp B167 16 0 (nI 0); T167
set_option maxRecDepth 20000 in
set_option maxHeartbeats 4000000 in
theorem eX5_setOf_1 (Sc : q_S) (Γ : Nat → q_K) (n : Nat) (V : q_V) (o ml : Nat) (H : sM Γ o ml) (hm1 : 1 ≤ ml) (hml : ml ≤ 4) (a1 : Nat) (b1 : a1 < 32) : q_fn Sc Γ mX5_setOf [.ref o, .int (nI a1), .int (nI 1)] n V (some (.int (vX5_setOf_1 o ml a1 V))) V := by
  refine q_fn.of fun Q h hQ hok => ?_
  show q_A Sc mX5_setOf 0 [.ref o, .int (nI a1), .int (nI 1), .retAddr 0, .retAddr 0] [] h n 0 0 Q
  refine q_iconst (v := nI 0) dX5_setOf_0 rfl ?_
  refine t_istore [.ref o, .int (nI a1), .int (nI 1), .int (nI 0), .retAddr 0] (Or.inl ⟨3, rfl, rfl, dX5_setOf_1⟩) (by decide) rfl ?_
  refine q_iconst (v := nI 0) dX5_setOf_2 rfl ?_
  refine t_istore [.ref o, .int (nI a1), .int (nI 1), .int (nI 0), .int (nI 0)] (Or.inr ⟨rfl, dX5_setOf_3⟩) (by decide) rfl ?_
  obtain ⟨B167, hB167⟩ : ∃ B_ : Nat → Int32 → Int32, B_ = (fun (k167 : Nat) (s167 : Int32) => let g167a := s167; if (V (o + 9) ((16 * a1) + k167)) = (nI 1) then ((g167a) + ((nI 1) <<< ((nI k167) &&& 31))) else (g167a)) := ⟨_, rfl⟩
  have hl167 : ∀ (d167 k167 : Nat) (g167a : Int32) (h : q_H), k167 + d167 = 16 → lp B167 d167 k167 g167a = (lp B167 16 0 (nI 0)) → q_ok (gX Γ V) h → q_A Sc mX5_setOf 5 [.ref o, .int (nI a1), .int (nI 1), .int (g167a), .int (nI k167)] [] h n 0 0 Q := by
    intro d167
    induction d167 with
    | zero =>
      intro k167 g167a h e167 hT167 hok
      have hT167 : g167a = (lp B167 16 0 (nI 0)) := hT167
      subst hT167
      refine q_iload dX5_setOf_5 rfl ?_
      refine q_bipush (v := nI 16) dX5_setOf_7 rfl ?_
      refine t_icmp_ge_n (tgt := 45) (by omega) (by omega) dX5_setOf_9 (by decide) (fun c170 => ?_) (fun c170 => ?_)
      rotate_left
      · exact absurd c170 (by omega)
      refine q_iload_n dX5_setOf_45 rfl ?_
      exact q_iret dX5_setOf_46 rfl (rfl) (hQ _ _ (by subst hB167; dsimp only [vX5_setOf_1]) (hok))
    | succ d167 ih167 =>
      intro k167 g167a h e167 hT167 hok
      refine q_iload dX5_setOf_5 rfl ?_
      refine q_bipush (v := nI 16) dX5_setOf_7 rfl ?_
      refine t_icmp_ge_n (tgt := 45) (by omega) (by omega) dX5_setOf_9 (by decide) (fun c168 => ?_) (fun c168 => ?_)
      · exact absurd c168 (by omega)
      refine q_aload_n dX5_setOf_12 rfl ?_
      refine v_getr 10 kX5 (by decide) wPX5_34 dX5_setOf_13 hok H.1 rfl ?_
      refine q_bipush (v := nI 16) dX5_setOf_16 rfl ?_
      refine q_iload_n dX5_setOf_18 rfl ?_
      refine t_imul_n dX5_setOf_19 ?_
      refine q_iload dX5_setOf_20 rfl ?_
      refine t_iadd_n dX5_setOf_22 ?_
      refine v_iald (by decide) dX5_setOf_23 hok H.2.2.2.2.2.2.2.2.2.1 (j := (16 * a1) + k167) (by omega) ?_
      refine q_iload_n dX5_setOf_24 rfl ?_
      refine q_icmp_ne (tgt := 37) dX5_setOf_25 (by decide) (fun c169 => ?_) (fun c169 => ?_)
      ·
        refine q_iload_n dX5_setOf_37 rfl ?_
        refine t_istore [.ref o, .int (nI a1), .int (nI 1), .int (g167a), .int (nI k167)] (Or.inl ⟨3, rfl, rfl, dX5_setOf_38⟩) (by decide) rfl ?_
        refine t_iinc_n [.ref o, .int (nI a1), .int (nI 1), .int (g167a), .int (nI (k167 + 1))] dX5_setOf_39 rfl (by decide) rfl ?_
        refine q_goto (tgt := 5) dX5_setOf_42 (by decide) ?_
        exact ih167 (k167 + 1) g167a h (by omega) ((congrArg (lp B167 d167 (k167 + 1)) (show g167a = B167 k167 g167a from by rw [hB167]; dsimp only; rw [if_neg c169])).trans hT167) hok
      ·
        refine q_iload_n dX5_setOf_28 rfl ?_
        refine q_iconst (v := nI 1) dX5_setOf_29 rfl ?_
        refine q_iload dX5_setOf_30 rfl ?_
        refine q_ishl dX5_setOf_32 ?_
        refine q_iadd dX5_setOf_33 ?_
        refine q_goto (tgt := 38) dX5_setOf_34 (by decide) ?_
        refine t_istore [.ref o, .int (nI a1), .int (nI 1), .int ((g167a) + ((nI 1) <<< ((nI k167) &&& 31))), .int (nI k167)] (Or.inl ⟨3, rfl, rfl, dX5_setOf_38⟩) (by decide) rfl ?_
        refine t_iinc_n [.ref o, .int (nI a1), .int (nI 1), .int ((g167a) + ((nI 1) <<< ((nI k167) &&& 31))), .int (nI (k167 + 1))] dX5_setOf_39 rfl (by decide) rfl ?_
        refine q_goto (tgt := 5) dX5_setOf_42 (by decide) ?_
        exact ih167 (k167 + 1) ((g167a) + ((nI 1) <<< ((nI k167) &&& 31))) h (by omega) ((congrArg (lp B167 d167 (k167 + 1)) (show (g167a) + ((nI 1) <<< ((nI k167) &&& 31)) = B167 k167 g167a from by rw [hB167]; dsimp only; rw [if_pos c169])).trans hT167) hok
  exact hl167 16 0 (nI 0) h (by omega) rfl hok
def vX5_setOf_2 (o ml : Nat) (a1 : Nat) (V : q_V) : Int32 := let B171 := fun (k171 : Nat) (s171 : Int32) => let g171a := s171; if (V (o + 9) ((16 * a1) + k171)) = (nI 2) then ((g171a) + ((nI 1) <<< ((nI k171) &&& 31))) else (g171a); let T171 := lp B171 16 0 (nI 0); T171
set_option maxRecDepth 20000 in
set_option maxHeartbeats 4000000 in
theorem eX5_setOf_2 (Sc : q_S) (Γ : Nat → q_K) (n : Nat) (V : q_V) (o ml : Nat) (H : sM Γ o ml) (hm1 : 1 ≤ ml) (hml : ml ≤ 4) (a1 : Nat) (b1 : a1 < 32) : q_fn Sc Γ mX5_setOf [.ref o, .int (nI a1), .int (nI 2)] n V (some (.int (vX5_setOf_2 o ml a1 V))) V := by
  refine q_fn.of fun Q h hQ hok => ?_
  show q_A Sc mX5_setOf 0 [.ref o, .int (nI a1), .int (nI 2), .retAddr 0, .retAddr 0] [] h n 0 0 Q
  refine q_iconst (v := nI 0) dX5_setOf_0 rfl ?_
  refine t_istore [.ref o, .int (nI a1), .int (nI 2), .int (nI 0), .retAddr 0] (Or.inl ⟨3, rfl, rfl, dX5_setOf_1⟩) (by decide) rfl ?_
  refine q_iconst (v := nI 0) dX5_setOf_2 rfl ?_
  refine t_istore [.ref o, .int (nI a1), .int (nI 2), .int (nI 0), .int (nI 0)] (Or.inr ⟨rfl, dX5_setOf_3⟩) (by decide) rfl ?_
  obtain ⟨B171, hB171⟩ : ∃ B_ : Nat → Int32 → Int32, B_ = (fun (k171 : Nat) (s171 : Int32) => let g171a := s171; if (V (o + 9) ((16 * a1) + k171)) = (nI 2) then ((g171a) + ((nI 1) <<< ((nI k171) &&& 31))) else (g171a)) := ⟨_, rfl⟩
  have hl171 : ∀ (d171 k171 : Nat) (g171a : Int32) (h : q_H), k171 + d171 = 16 → lp B171 d171 k171 g171a = (lp B171 16 0 (nI 0)) → q_ok (gX Γ V) h → q_A Sc mX5_setOf 5 [.ref o, .int (nI a1), .int (nI 2), .int (g171a), .int (nI k171)] [] h n 0 0 Q := by
    intro d171
    induction d171 with
    | zero =>
      intro k171 g171a h e171 hT171 hok
      have hT171 : g171a = (lp B171 16 0 (nI 0)) := hT171
      subst hT171
      refine q_iload dX5_setOf_5 rfl ?_
      refine q_bipush (v := nI 16) dX5_setOf_7 rfl ?_
      refine t_icmp_ge_n (tgt := 45) (by omega) (by omega) dX5_setOf_9 (by decide) (fun c174 => ?_) (fun c174 => ?_)
      rotate_left
      · exact absurd c174 (by omega)
      refine q_iload_n dX5_setOf_45 rfl ?_
      exact q_iret dX5_setOf_46 rfl (rfl) (hQ _ _ (by subst hB171; dsimp only [vX5_setOf_2]) (hok))
    | succ d171 ih171 =>
      intro k171 g171a h e171 hT171 hok
      refine q_iload dX5_setOf_5 rfl ?_
      refine q_bipush (v := nI 16) dX5_setOf_7 rfl ?_
      refine t_icmp_ge_n (tgt := 45) (by omega) (by omega) dX5_setOf_9 (by decide) (fun c172 => ?_) (fun c172 => ?_)
      · exact absurd c172 (by omega)
      refine q_aload_n dX5_setOf_12 rfl ?_
      refine v_getr 10 kX5 (by decide) wPX5_34 dX5_setOf_13 hok H.1 rfl ?_
      refine q_bipush (v := nI 16) dX5_setOf_16 rfl ?_
      refine q_iload_n dX5_setOf_18 rfl ?_
      refine t_imul_n dX5_setOf_19 ?_
      refine q_iload dX5_setOf_20 rfl ?_
      refine t_iadd_n dX5_setOf_22 ?_
      refine v_iald (by decide) dX5_setOf_23 hok H.2.2.2.2.2.2.2.2.2.1 (j := (16 * a1) + k171) (by omega) ?_
      refine q_iload_n dX5_setOf_24 rfl ?_
      refine q_icmp_ne (tgt := 37) dX5_setOf_25 (by decide) (fun c173 => ?_) (fun c173 => ?_)
      ·
        refine q_iload_n dX5_setOf_37 rfl ?_
        refine t_istore [.ref o, .int (nI a1), .int (nI 2), .int (g171a), .int (nI k171)] (Or.inl ⟨3, rfl, rfl, dX5_setOf_38⟩) (by decide) rfl ?_
        refine t_iinc_n [.ref o, .int (nI a1), .int (nI 2), .int (g171a), .int (nI (k171 + 1))] dX5_setOf_39 rfl (by decide) rfl ?_
        refine q_goto (tgt := 5) dX5_setOf_42 (by decide) ?_
        exact ih171 (k171 + 1) g171a h (by omega) ((congrArg (lp B171 d171 (k171 + 1)) (show g171a = B171 k171 g171a from by rw [hB171]; dsimp only; rw [if_neg c173])).trans hT171) hok
      ·
        refine q_iload_n dX5_setOf_28 rfl ?_
        refine q_iconst (v := nI 1) dX5_setOf_29 rfl ?_
        refine q_iload dX5_setOf_30 rfl ?_
        refine q_ishl dX5_setOf_32 ?_
        refine q_iadd dX5_setOf_33 ?_
        refine q_goto (tgt := 38) dX5_setOf_34 (by decide) ?_
        refine t_istore [.ref o, .int (nI a1), .int (nI 2), .int ((g171a) + ((nI 1) <<< ((nI k171) &&& 31))), .int (nI k171)] (Or.inl ⟨3, rfl, rfl, dX5_setOf_38⟩) (by decide) rfl ?_
        refine t_iinc_n [.ref o, .int (nI a1), .int (nI 2), .int ((g171a) + ((nI 1) <<< ((nI k171) &&& 31))), .int (nI (k171 + 1))] dX5_setOf_39 rfl (by decide) rfl ?_
        refine q_goto (tgt := 5) dX5_setOf_42 (by decide) ?_
        exact ih171 (k171 + 1) ((g171a) + ((nI 1) <<< ((nI k171) &&& 31))) h (by omega) ((congrArg (lp B171 d171 (k171 + 1)) (show (g171a) + ((nI 1) <<< ((nI k171) &&& 31)) = B171 k171 g171a from by rw [hB171]; dsimp only; rw [if_pos c173])).trans hT171) hok
  exact hl171 16 0 (nI 0) h (by omega) rfl hok
def fX5_become_0 (o ml : Nat) (a1 : Nat) (a3 : Int32) (a4 : Int32) (V : q_V) : q_V := let V175 := vset V (o + 7) a1 (nI 0); let B176 := fun (k176 : Nat) (s176 : q_V) => let W176 := s176; if (((a3) >>> ((nI k176) &&& 31)) &&& (nI 1)) = (nI 1) then (let V184 := vset W176 (o + 9) ((16 * a1) + k176) (nI 1); let V185 := vset V184 (o + 10) ((16 * a1) + k176) (V184 (o + 10) ((16 * a1) + k176)); V185) else (if (((a4) >>> ((nI k176) &&& 31)) &&& (nI 1)) = (nI 1) then (let V182 := vset W176 (o + 9) ((16 * a1) + k176) (nI 2); let V183 := vset V182 (o + 10) ((16 * a1) + k176) (nI 0); V183) else (let V180 := vset W176 (o + 9) ((16 * a1) + k176) (nI 0); let V181 := vset V180 (o + 10) ((16 * a1) + k176) (nI 0); V181)); let T176 := lp B176 16 0 V175; let V187 := vset T176 (o + 8) a1 (nI 0); if a3 = 0 then (let V189 := vset V187 (o + 7) a1 (-1); V189) else (V187)
set_option maxRecDepth 20000 in
set_option maxHeartbeats 4000000 in
theorem eX5_become_0 (Sc : q_S) (Γ : Nat → q_K) (n : Nat) (V : q_V) (o ml : Nat) (H : sM Γ o ml) (hm1 : 1 ≤ ml) (hml : ml ≤ 4) (a1 : Nat) (b1 : a1 < 32) (a3 : Int32) (a4 : Int32) : q_fn Sc Γ mX5_become [.ref o, .int (nI a1), .int (nI 0), .int (a3), .int (a4)] n V none (fX5_become_0 o ml a1 a3 a4 V) := by
  refine q_fn.of fun Q h hQ hok => ?_
  show q_A Sc mX5_become 0 [.ref o, .int (nI a1), .int (nI 0), .int (a3), .int (a4), .retAddr 0, .retAddr 0] [] h n 0 0 Q
  refine q_aload_n dX5_become_0 rfl ?_
  refine v_getr 8 kX5 (by decide) wPX5_28 dX5_become_1 hok H.1 rfl ?_
  refine q_iload_n dX5_become_4 rfl ?_
  refine q_iload_n dX5_become_5 rfl ?_
  refine v_iast (by decide) dX5_become_6 hok H.2.2.2.2.2.2.2.1 (j := a1) (by omega) (fun h hok => ?_)
  refine q_iconst (v := nI 0) dX5_become_7 rfl ?_
  refine t_istore [.ref o, .int (nI a1), .int (nI 0), .int (a3), .int (a4), .int (nI 0), .retAddr 0] (Or.inr ⟨rfl, dX5_become_8⟩) (by decide) rfl ?_
  obtain ⟨B176, hB176⟩ : ∃ B_ : Nat → q_V → q_V, B_ = (fun (k176 : Nat) (s176 : q_V) => let W176 := s176; if (((a3) >>> ((nI k176) &&& 31)) &&& (nI 1)) = (nI 1) then ((vset (vset W176 (o + 9) ((16 * a1) + k176) (nI 1)) (o + 10) ((16 * a1) + k176) ((vset W176 (o + 9) ((16 * a1) + k176) (nI 1)) (o + 10) ((16 * a1) + k176)))) else (if (((a4) >>> ((nI k176) &&& 31)) &&& (nI 1)) = (nI 1) then ((vset (vset W176 (o + 9) ((16 * a1) + k176) (nI 2)) (o + 10) ((16 * a1) + k176) (nI 0))) else ((vset (vset W176 (o + 9) ((16 * a1) + k176) (nI 0)) (o + 10) ((16 * a1) + k176) (nI 0))))) := ⟨_, rfl⟩
  have hl176 : ∀ (d176 k176 : Nat) (W176 : q_V) (h : q_H), k176 + d176 = 16 → lp B176 d176 k176 W176 = (lp B176 16 0 (vset V (o + 7) a1 (nI 0))) → q_ok (gX Γ W176) h → q_A Sc mX5_become 10 [.ref o, .int (nI a1), .int (nI 0), .int (a3), .int (a4), .int (nI k176), .retAddr 0] [] h n 0 0 Q := by
    intro d176
    induction d176 with
    | zero =>
      intro k176  W176 h e176 hT176 hok
      have hT176 : W176 = (lp B176 16 0 (vset V (o + 7) a1 (nI 0))) := hT176
      subst hT176
      refine q_iload dX5_become_10 rfl ?_
      refine q_bipush (v := nI 16) dX5_become_12 rfl ?_
      refine t_icmp_ge_n (tgt := 110) (by omega) (by omega) dX5_become_14 (by decide) (fun c186 => ?_) (fun c186 => ?_)
      rotate_left
      · exact absurd c186 (by omega)
      refine q_aload_n dX5_become_110 rfl ?_
      refine v_getr 9 kX5 (by decide) wPX5_31 dX5_become_111 hok H.1 rfl ?_
      refine q_iload_n dX5_become_114 rfl ?_
      refine q_iload_n dX5_become_115 rfl ?_
      refine q_iconst (v := nI 1) dX5_become_116 rfl ?_
      refine q_icmp_ne (tgt := 129) dX5_become_117 (by decide) (fun _ => ?_) (fun q => absurd q (by decide))
      refine q_iconst (v := nI 0) dX5_become_129 rfl ?_
      refine v_iast (by decide) dX5_become_130 hok H.2.2.2.2.2.2.2.2.1 (j := a1) (by omega) (fun h hok => ?_)
      refine q_iload_n dX5_become_131 rfl ?_
      refine q_if_ne (tgt := 146) dX5_become_132 (by decide) (fun q => absurd q (by decide)) (fun _ => ?_)
      refine q_iload_n dX5_become_135 rfl ?_
      refine q_if_ne (tgt := 146) dX5_become_136 (by decide) (fun c188 => ?_) (fun c188 => ?_)
      ·
        exact q_vret dX5_become_146 rfl (hQ _ _ (rfl) (by subst hB176; dsimp only [fX5_become_0]; rw [if_neg c188]; exact hok))
      ·
        refine q_aload_n dX5_become_139 rfl ?_
        refine v_getr 8 kX5 (by decide) wPX5_28 dX5_become_140 hok H.1 rfl ?_
        refine q_iload_n dX5_become_143 rfl ?_
        refine q_iconst (v := -1) dX5_become_144 rfl ?_
        refine v_iast (by decide) dX5_become_145 hok H.2.2.2.2.2.2.2.1 (j := a1) (by omega) (fun h hok => ?_)
        exact q_vret dX5_become_146 rfl (hQ _ _ (rfl) (by subst hB176; dsimp only [fX5_become_0]; rw [if_pos c188]; exact hok))
    | succ d176 ih176 =>
      intro k176  W176 h e176 hT176 hok
      refine q_iload dX5_become_10 rfl ?_
      refine q_bipush (v := nI 16) dX5_become_12 rfl ?_
      refine t_icmp_ge_n (tgt := 110) (by omega) (by omega) dX5_become_14 (by decide) (fun c177 => ?_) (fun c177 => ?_)
      · exact absurd c177 (by omega)
      refine q_iload_n dX5_become_17 rfl ?_
      refine q_iload dX5_become_18 rfl ?_
      refine q_ishr dX5_become_20 ?_
      refine q_iconst (v := nI 1) dX5_become_21 rfl ?_
      refine q_iand dX5_become_22 ?_
      refine q_iconst (v := nI 1) dX5_become_23 rfl ?_
      refine q_icmp_ne (tgt := 31) dX5_become_24 (by decide) (fun c178 => ?_) (fun c178 => ?_)
      ·
        refine q_iconst (v := nI 0) dX5_become_31 rfl ?_
        refine t_istore [.ref o, .int (nI a1), .int (nI 0), .int (a3), .int (a4), .int (nI k176), .int (nI 0)] (Or.inr ⟨rfl, dX5_become_32⟩) (by decide) rfl ?_
        refine q_aload_n dX5_become_34 rfl ?_
        refine v_getr 10 kX5 (by decide) wPX5_34 dX5_become_35 hok H.1 rfl ?_
        refine q_bipush (v := nI 16) dX5_become_38 rfl ?_
        refine q_iload_n dX5_become_40 rfl ?_
        refine t_imul_n dX5_become_41 ?_
        refine q_iload dX5_become_42 rfl ?_
        refine t_iadd_n dX5_become_44 ?_
        refine q_iload dX5_become_45 rfl ?_
        refine q_if_eq (tgt := 54) dX5_become_47 (by decide) (fun _ => ?_) (fun q => absurd q (by decide))
        refine q_iload dX5_become_54 rfl ?_
        refine q_iload dX5_become_56 rfl ?_
        refine q_ishr dX5_become_58 ?_
        refine q_iconst (v := nI 1) dX5_become_59 rfl ?_
        refine q_iand dX5_become_60 ?_
        refine q_iconst (v := nI 1) dX5_become_61 rfl ?_
        refine q_icmp_ne (tgt := 69) dX5_become_62 (by decide) (fun c179 => ?_) (fun c179 => ?_)
        ·
          refine q_iconst (v := nI 0) dX5_become_69 rfl ?_
          refine v_iast (by decide) dX5_become_70 hok H.2.2.2.2.2.2.2.2.2.1 (j := (16 * a1) + k176) (by omega) (fun h hok => ?_)
          refine q_aload_n dX5_become_71 rfl ?_
          refine v_getr 11 kX5 (by decide) wPX5_37 dX5_become_72 hok H.1 rfl ?_
          refine q_bipush (v := nI 16) dX5_become_75 rfl ?_
          refine q_iload_n dX5_become_77 rfl ?_
          refine t_imul_n dX5_become_78 ?_
          refine q_iload dX5_become_79 rfl ?_
          refine t_iadd_n dX5_become_81 ?_
          refine q_iload dX5_become_82 rfl ?_
          refine q_if_eq (tgt := 102) dX5_become_84 (by decide) (fun _ => ?_) (fun q => absurd q (by decide))
          refine q_iconst (v := nI 0) dX5_become_102 rfl ?_
          refine v_iast (by decide) dX5_become_103 hok H.2.2.2.2.2.2.2.2.2.2.1 (j := (16 * a1) + k176) (by omega) (fun h hok => ?_)
          refine t_iinc_n [.ref o, .int (nI a1), .int (nI 0), .int (a3), .int (a4), .int (nI (k176 + 1)), .int (nI 0)] dX5_become_104 rfl (by decide) rfl ?_
          refine q_goto (tgt := 10) dX5_become_107 (by decide) ?_
          refine q_weak [.ref o, .int (nI a1), .int (nI 0), .int (a3), .int (a4), .int (nI (k176 + 1)), .retAddr 0] ⟨Or.inl rfl, Or.inl rfl, Or.inl rfl, Or.inl rfl, Or.inl rfl, Or.inl rfl, Or.inr ⟨0, rfl⟩, trivial⟩ ?_
          exact ih176 (k176 + 1) ((vset (vset W176 (o + 9) ((16 * a1) + k176) (nI 0)) (o + 10) ((16 * a1) + k176) (nI 0))) h (by omega) ((congrArg (lp B176 d176 (k176 + 1)) (show (vset (vset W176 (o + 9) ((16 * a1) + k176) (nI 0)) (o + 10) ((16 * a1) + k176) (nI 0)) = B176 k176 W176 from by rw [hB176]; dsimp only; rw [if_neg c178, if_neg c179])).trans hT176) hok
        ·
          refine q_iconst (v := nI 2) dX5_become_65 rfl ?_
          refine q_goto (tgt := 70) dX5_become_66 (by decide) ?_
          refine v_iast (by decide) dX5_become_70 hok H.2.2.2.2.2.2.2.2.2.1 (j := (16 * a1) + k176) (by omega) (fun h hok => ?_)
          refine q_aload_n dX5_become_71 rfl ?_
          refine v_getr 11 kX5 (by decide) wPX5_37 dX5_become_72 hok H.1 rfl ?_
          refine q_bipush (v := nI 16) dX5_become_75 rfl ?_
          refine q_iload_n dX5_become_77 rfl ?_
          refine t_imul_n dX5_become_78 ?_
          refine q_iload dX5_become_79 rfl ?_
          refine t_iadd_n dX5_become_81 ?_
          refine q_iload dX5_become_82 rfl ?_
          refine q_if_eq (tgt := 102) dX5_become_84 (by decide) (fun _ => ?_) (fun q => absurd q (by decide))
          refine q_iconst (v := nI 0) dX5_become_102 rfl ?_
          refine v_iast (by decide) dX5_become_103 hok H.2.2.2.2.2.2.2.2.2.2.1 (j := (16 * a1) + k176) (by omega) (fun h hok => ?_)
          refine t_iinc_n [.ref o, .int (nI a1), .int (nI 0), .int (a3), .int (a4), .int (nI (k176 + 1)), .int (nI 0)] dX5_become_104 rfl (by decide) rfl ?_
          refine q_goto (tgt := 10) dX5_become_107 (by decide) ?_
          refine q_weak [.ref o, .int (nI a1), .int (nI 0), .int (a3), .int (a4), .int (nI (k176 + 1)), .retAddr 0] ⟨Or.inl rfl, Or.inl rfl, Or.inl rfl, Or.inl rfl, Or.inl rfl, Or.inl rfl, Or.inr ⟨0, rfl⟩, trivial⟩ ?_
          exact ih176 (k176 + 1) ((vset (vset W176 (o + 9) ((16 * a1) + k176) (nI 2)) (o + 10) ((16 * a1) + k176) (nI 0))) h (by omega) ((congrArg (lp B176 d176 (k176 + 1)) (show (vset (vset W176 (o + 9) ((16 * a1) + k176) (nI 2)) (o + 10) ((16 * a1) + k176) (nI 0)) = B176 k176 W176 from by rw [hB176]; dsimp only; rw [if_neg c178, if_pos c179])).trans hT176) hok
      ·
        refine q_iconst (v := nI 1) dX5_become_27 rfl ?_
        refine q_goto (tgt := 32) dX5_become_28 (by decide) ?_
        refine t_istore [.ref o, .int (nI a1), .int (nI 0), .int (a3), .int (a4), .int (nI k176), .int (nI 1)] (Or.inr ⟨rfl, dX5_become_32⟩) (by decide) rfl ?_
        refine q_aload_n dX5_become_34 rfl ?_
        refine v_getr 10 kX5 (by decide) wPX5_34 dX5_become_35 hok H.1 rfl ?_
        refine q_bipush (v := nI 16) dX5_become_38 rfl ?_
        refine q_iload_n dX5_become_40 rfl ?_
        refine t_imul_n dX5_become_41 ?_
        refine q_iload dX5_become_42 rfl ?_
        refine t_iadd_n dX5_become_44 ?_
        refine q_iload dX5_become_45 rfl ?_
        refine q_if_eq (tgt := 54) dX5_become_47 (by decide) (fun q => absurd q (by decide)) (fun _ => ?_)
        refine q_iconst (v := nI 1) dX5_become_50 rfl ?_
        refine q_goto (tgt := 70) dX5_become_51 (by decide) ?_
        refine v_iast (by decide) dX5_become_70 hok H.2.2.2.2.2.2.2.2.2.1 (j := (16 * a1) + k176) (by omega) (fun h hok => ?_)
        refine q_aload_n dX5_become_71 rfl ?_
        refine v_getr 11 kX5 (by decide) wPX5_37 dX5_become_72 hok H.1 rfl ?_
        refine q_bipush (v := nI 16) dX5_become_75 rfl ?_
        refine q_iload_n dX5_become_77 rfl ?_
        refine t_imul_n dX5_become_78 ?_
        refine q_iload dX5_become_79 rfl ?_
        refine t_iadd_n dX5_become_81 ?_
        refine q_iload dX5_become_82 rfl ?_
        refine q_if_eq (tgt := 102) dX5_become_84 (by decide) (fun q => absurd q (by decide)) (fun _ => ?_)
        refine q_aload_n dX5_become_87 rfl ?_
        refine v_getr 11 kX5 (by decide) wPX5_37 dX5_become_88 hok H.1 rfl ?_
        refine q_bipush (v := nI 16) dX5_become_91 rfl ?_
        refine q_iload_n dX5_become_93 rfl ?_
        refine t_imul_n dX5_become_94 ?_
        refine q_iload dX5_become_95 rfl ?_
        refine t_iadd_n dX5_become_97 ?_
        refine v_iald (by decide) dX5_become_98 hok H.2.2.2.2.2.2.2.2.2.2.1 (j := (16 * a1) + k176) (by omega) ?_
        refine q_goto (tgt := 103) dX5_become_99 (by decide) ?_
        refine v_iast (by decide) dX5_become_103 hok H.2.2.2.2.2.2.2.2.2.2.1 (j := (16 * a1) + k176) (by omega) (fun h hok => ?_)
        refine t_iinc_n [.ref o, .int (nI a1), .int (nI 0), .int (a3), .int (a4), .int (nI (k176 + 1)), .int (nI 1)] dX5_become_104 rfl (by decide) rfl ?_
        refine q_goto (tgt := 10) dX5_become_107 (by decide) ?_
        refine q_weak [.ref o, .int (nI a1), .int (nI 0), .int (a3), .int (a4), .int (nI (k176 + 1)), .retAddr 0] ⟨Or.inl rfl, Or.inl rfl, Or.inl rfl, Or.inl rfl, Or.inl rfl, Or.inl rfl, Or.inr ⟨0, rfl⟩, trivial⟩ ?_
        exact ih176 (k176 + 1) ((vset (vset W176 (o + 9) ((16 * a1) + k176) (nI 1)) (o + 10) ((16 * a1) + k176) ((vset W176 (o + 9) ((16 * a1) + k176) (nI 1)) (o + 10) ((16 * a1) + k176)))) h (by omega) ((congrArg (lp B176 d176 (k176 + 1)) (show (vset (vset W176 (o + 9) ((16 * a1) + k176) (nI 1)) (o + 10) ((16 * a1) + k176) ((vset W176 (o + 9) ((16 * a1) + k176) (nI 1)) (o + 10) ((16 * a1) + k176))) = B176 k176 W176 from by rw [hB176]; dsimp only; rw [if_pos c178])).trans hT176) hok
  exact hl176 16 0  ((vset V (o + 7) a1 (nI 0))) h (by omega) rfl hok
theorem SX5_become_0 (o ml : Nat) (a1 : Nat) (a3 : Int32) (a4 : Int32) {V : q_V} {b : Nat} (hS : SB V o b) : SB (fX5_become_0 o ml a1 a3 a4 V) o b := by
  dsimp only [fX5_become_0]
  repeat' (first | with_reducible assumption | with_reducible refine SB.vs ?_ (Or.inl ?_) | with_reducible refine SB.l1 (fun k s h => ?_) _ _ _ ?_ | with_reducible refine SB.l2 (fun k s h => ?_) _ _ _ ?_ | omega | split | dsimp only)
def fX5_become_1 (o ml : Nat) (a1 : Nat) (a3 : Int32) (a4 : Int32) (V : q_V) : q_V := let V190 := vset V (o + 7) a1 (nI 1); let B191 := fun (k191 : Nat) (s191 : q_V) => let W191 := s191; if (((a3) >>> ((nI k191) &&& 31)) &&& (nI 1)) = (nI 1) then (let V199 := vset W191 (o + 9) ((16 * a1) + k191) (nI 1); let V200 := vset V199 (o + 10) ((16 * a1) + k191) (V199 (o + 10) ((16 * a1) + k191)); V200) else (if (((a4) >>> ((nI k191) &&& 31)) &&& (nI 1)) = (nI 1) then (let V197 := vset W191 (o + 9) ((16 * a1) + k191) (nI 2); let V198 := vset V197 (o + 10) ((16 * a1) + k191) (nI 0); V198) else (let V195 := vset W191 (o + 9) ((16 * a1) + k191) (nI 0); let V196 := vset V195 (o + 10) ((16 * a1) + k191) (nI 0); V196)); let T191 := lp B191 16 0 V190; let V202 := vset T191 (o + 8) a1 (T191 (o + 8) a1); V202
set_option maxRecDepth 20000 in
set_option maxHeartbeats 4000000 in
theorem eX5_become_1 (Sc : q_S) (Γ : Nat → q_K) (n : Nat) (V : q_V) (o ml : Nat) (H : sM Γ o ml) (hm1 : 1 ≤ ml) (hml : ml ≤ 4) (a1 : Nat) (b1 : a1 < 32) (a3 : Int32) (a4 : Int32) : q_fn Sc Γ mX5_become [.ref o, .int (nI a1), .int (nI 1), .int (a3), .int (a4)] n V none (fX5_become_1 o ml a1 a3 a4 V) := by
  refine q_fn.of fun Q h hQ hok => ?_
  show q_A Sc mX5_become 0 [.ref o, .int (nI a1), .int (nI 1), .int (a3), .int (a4), .retAddr 0, .retAddr 0] [] h n 0 0 Q
  refine q_aload_n dX5_become_0 rfl ?_
  refine v_getr 8 kX5 (by decide) wPX5_28 dX5_become_1 hok H.1 rfl ?_
  refine q_iload_n dX5_become_4 rfl ?_
  refine q_iload_n dX5_become_5 rfl ?_
  refine v_iast (by decide) dX5_become_6 hok H.2.2.2.2.2.2.2.1 (j := a1) (by omega) (fun h hok => ?_)
  refine q_iconst (v := nI 0) dX5_become_7 rfl ?_
  refine t_istore [.ref o, .int (nI a1), .int (nI 1), .int (a3), .int (a4), .int (nI 0), .retAddr 0] (Or.inr ⟨rfl, dX5_become_8⟩) (by decide) rfl ?_
  obtain ⟨B191, hB191⟩ : ∃ B_ : Nat → q_V → q_V, B_ = (fun (k191 : Nat) (s191 : q_V) => let W191 := s191; if (((a3) >>> ((nI k191) &&& 31)) &&& (nI 1)) = (nI 1) then ((vset (vset W191 (o + 9) ((16 * a1) + k191) (nI 1)) (o + 10) ((16 * a1) + k191) ((vset W191 (o + 9) ((16 * a1) + k191) (nI 1)) (o + 10) ((16 * a1) + k191)))) else (if (((a4) >>> ((nI k191) &&& 31)) &&& (nI 1)) = (nI 1) then ((vset (vset W191 (o + 9) ((16 * a1) + k191) (nI 2)) (o + 10) ((16 * a1) + k191) (nI 0))) else ((vset (vset W191 (o + 9) ((16 * a1) + k191) (nI 0)) (o + 10) ((16 * a1) + k191) (nI 0))))) := ⟨_, rfl⟩
  have hl191 : ∀ (d191 k191 : Nat) (W191 : q_V) (h : q_H), k191 + d191 = 16 → lp B191 d191 k191 W191 = (lp B191 16 0 (vset V (o + 7) a1 (nI 1))) → q_ok (gX Γ W191) h → q_A Sc mX5_become 10 [.ref o, .int (nI a1), .int (nI 1), .int (a3), .int (a4), .int (nI k191), .retAddr 0] [] h n 0 0 Q := by
    intro d191
    induction d191 with
    | zero =>
      intro k191  W191 h e191 hT191 hok
      have hT191 : W191 = (lp B191 16 0 (vset V (o + 7) a1 (nI 1))) := hT191
      subst hT191
      refine q_iload dX5_become_10 rfl ?_
      refine q_bipush (v := nI 16) dX5_become_12 rfl ?_
      refine t_icmp_ge_n (tgt := 110) (by omega) (by omega) dX5_become_14 (by decide) (fun c201 => ?_) (fun c201 => ?_)
      rotate_left
      · exact absurd c201 (by omega)
      refine q_aload_n dX5_become_110 rfl ?_
      refine v_getr 9 kX5 (by decide) wPX5_31 dX5_become_111 hok H.1 rfl ?_
      refine q_iload_n dX5_become_114 rfl ?_
      refine q_iload_n dX5_become_115 rfl ?_
      refine q_iconst (v := nI 1) dX5_become_116 rfl ?_
      refine q_icmp_ne (tgt := 129) dX5_become_117 (by decide) (fun q => absurd q (by decide)) (fun _ => ?_)
      refine q_aload_n dX5_become_120 rfl ?_
      refine v_getr 9 kX5 (by decide) wPX5_31 dX5_become_121 hok H.1 rfl ?_
      refine q_iload_n dX5_become_124 rfl ?_
      refine v_iald (by decide) dX5_become_125 hok H.2.2.2.2.2.2.2.2.1 (j := a1) (by omega) ?_
      refine q_goto (tgt := 130) dX5_become_126 (by decide) ?_
      refine v_iast (by decide) dX5_become_130 hok H.2.2.2.2.2.2.2.2.1 (j := a1) (by omega) (fun h hok => ?_)
      refine q_iload_n dX5_become_131 rfl ?_
      refine q_if_ne (tgt := 146) dX5_become_132 (by decide) (fun _ => ?_) (fun q => absurd q (by decide))
      exact q_vret dX5_become_146 rfl (hQ _ _ (rfl) (by subst hB191; dsimp only [fX5_become_1]; exact hok))
    | succ d191 ih191 =>
      intro k191  W191 h e191 hT191 hok
      refine q_iload dX5_become_10 rfl ?_
      refine q_bipush (v := nI 16) dX5_become_12 rfl ?_
      refine t_icmp_ge_n (tgt := 110) (by omega) (by omega) dX5_become_14 (by decide) (fun c192 => ?_) (fun c192 => ?_)
      · exact absurd c192 (by omega)
      refine q_iload_n dX5_become_17 rfl ?_
      refine q_iload dX5_become_18 rfl ?_
      refine q_ishr dX5_become_20 ?_
      refine q_iconst (v := nI 1) dX5_become_21 rfl ?_
      refine q_iand dX5_become_22 ?_
      refine q_iconst (v := nI 1) dX5_become_23 rfl ?_
      refine q_icmp_ne (tgt := 31) dX5_become_24 (by decide) (fun c193 => ?_) (fun c193 => ?_)
      ·
        refine q_iconst (v := nI 0) dX5_become_31 rfl ?_
        refine t_istore [.ref o, .int (nI a1), .int (nI 1), .int (a3), .int (a4), .int (nI k191), .int (nI 0)] (Or.inr ⟨rfl, dX5_become_32⟩) (by decide) rfl ?_
        refine q_aload_n dX5_become_34 rfl ?_
        refine v_getr 10 kX5 (by decide) wPX5_34 dX5_become_35 hok H.1 rfl ?_
        refine q_bipush (v := nI 16) dX5_become_38 rfl ?_
        refine q_iload_n dX5_become_40 rfl ?_
        refine t_imul_n dX5_become_41 ?_
        refine q_iload dX5_become_42 rfl ?_
        refine t_iadd_n dX5_become_44 ?_
        refine q_iload dX5_become_45 rfl ?_
        refine q_if_eq (tgt := 54) dX5_become_47 (by decide) (fun _ => ?_) (fun q => absurd q (by decide))
        refine q_iload dX5_become_54 rfl ?_
        refine q_iload dX5_become_56 rfl ?_
        refine q_ishr dX5_become_58 ?_
        refine q_iconst (v := nI 1) dX5_become_59 rfl ?_
        refine q_iand dX5_become_60 ?_
        refine q_iconst (v := nI 1) dX5_become_61 rfl ?_
        refine q_icmp_ne (tgt := 69) dX5_become_62 (by decide) (fun c194 => ?_) (fun c194 => ?_)
        ·
          refine q_iconst (v := nI 0) dX5_become_69 rfl ?_
          refine v_iast (by decide) dX5_become_70 hok H.2.2.2.2.2.2.2.2.2.1 (j := (16 * a1) + k191) (by omega) (fun h hok => ?_)
          refine q_aload_n dX5_become_71 rfl ?_
          refine v_getr 11 kX5 (by decide) wPX5_37 dX5_become_72 hok H.1 rfl ?_
          refine q_bipush (v := nI 16) dX5_become_75 rfl ?_
          refine q_iload_n dX5_become_77 rfl ?_
          refine t_imul_n dX5_become_78 ?_
          refine q_iload dX5_become_79 rfl ?_
          refine t_iadd_n dX5_become_81 ?_
          refine q_iload dX5_become_82 rfl ?_
          refine q_if_eq (tgt := 102) dX5_become_84 (by decide) (fun _ => ?_) (fun q => absurd q (by decide))
          refine q_iconst (v := nI 0) dX5_become_102 rfl ?_
          refine v_iast (by decide) dX5_become_103 hok H.2.2.2.2.2.2.2.2.2.2.1 (j := (16 * a1) + k191) (by omega) (fun h hok => ?_)
          refine t_iinc_n [.ref o, .int (nI a1), .int (nI 1), .int (a3), .int (a4), .int (nI (k191 + 1)), .int (nI 0)] dX5_become_104 rfl (by decide) rfl ?_
          refine q_goto (tgt := 10) dX5_become_107 (by decide) ?_
          refine q_weak [.ref o, .int (nI a1), .int (nI 1), .int (a3), .int (a4), .int (nI (k191 + 1)), .retAddr 0] ⟨Or.inl rfl, Or.inl rfl, Or.inl rfl, Or.inl rfl, Or.inl rfl, Or.inl rfl, Or.inr ⟨0, rfl⟩, trivial⟩ ?_
          exact ih191 (k191 + 1) ((vset (vset W191 (o + 9) ((16 * a1) + k191) (nI 0)) (o + 10) ((16 * a1) + k191) (nI 0))) h (by omega) ((congrArg (lp B191 d191 (k191 + 1)) (show (vset (vset W191 (o + 9) ((16 * a1) + k191) (nI 0)) (o + 10) ((16 * a1) + k191) (nI 0)) = B191 k191 W191 from by rw [hB191]; dsimp only; rw [if_neg c193, if_neg c194])).trans hT191) hok
        ·
          refine q_iconst (v := nI 2) dX5_become_65 rfl ?_
          refine q_goto (tgt := 70) dX5_become_66 (by decide) ?_
          refine v_iast (by decide) dX5_become_70 hok H.2.2.2.2.2.2.2.2.2.1 (j := (16 * a1) + k191) (by omega) (fun h hok => ?_)
          refine q_aload_n dX5_become_71 rfl ?_
          refine v_getr 11 kX5 (by decide) wPX5_37 dX5_become_72 hok H.1 rfl ?_
          refine q_bipush (v := nI 16) dX5_become_75 rfl ?_
          refine q_iload_n dX5_become_77 rfl ?_
          refine t_imul_n dX5_become_78 ?_
          refine q_iload dX5_become_79 rfl ?_
          refine t_iadd_n dX5_become_81 ?_
          refine q_iload dX5_become_82 rfl ?_
          refine q_if_eq (tgt := 102) dX5_become_84 (by decide) (fun _ => ?_) (fun q => absurd q (by decide))
          refine q_iconst (v := nI 0) dX5_become_102 rfl ?_
          refine v_iast (by decide) dX5_become_103 hok H.2.2.2.2.2.2.2.2.2.2.1 (j := (16 * a1) + k191) (by omega) (fun h hok => ?_)
          refine t_iinc_n [.ref o, .int (nI a1), .int (nI 1), .int (a3), .int (a4), .int (nI (k191 + 1)), .int (nI 0)] dX5_become_104 rfl (by decide) rfl ?_
          refine q_goto (tgt := 10) dX5_become_107 (by decide) ?_
          refine q_weak [.ref o, .int (nI a1), .int (nI 1), .int (a3), .int (a4), .int (nI (k191 + 1)), .retAddr 0] ⟨Or.inl rfl, Or.inl rfl, Or.inl rfl, Or.inl rfl, Or.inl rfl, Or.inl rfl, Or.inr ⟨0, rfl⟩, trivial⟩ ?_
          exact ih191 (k191 + 1) ((vset (vset W191 (o + 9) ((16 * a1) + k191) (nI 2)) (o + 10) ((16 * a1) + k191) (nI 0))) h (by omega) ((congrArg (lp B191 d191 (k191 + 1)) (show (vset (vset W191 (o + 9) ((16 * a1) + k191) (nI 2)) (o + 10) ((16 * a1) + k191) (nI 0)) = B191 k191 W191 from by rw [hB191]; dsimp only; rw [if_neg c193, if_pos c194])).trans hT191) hok
      ·
        refine q_iconst (v := nI 1) dX5_become_27 rfl ?_
        refine q_goto (tgt := 32) dX5_become_28 (by decide) ?_
        refine t_istore [.ref o, .int (nI a1), .int (nI 1), .int (a3), .int (a4), .int (nI k191), .int (nI 1)] (Or.inr ⟨rfl, dX5_become_32⟩) (by decide) rfl ?_
        refine q_aload_n dX5_become_34 rfl ?_
        refine v_getr 10 kX5 (by decide) wPX5_34 dX5_become_35 hok H.1 rfl ?_
        refine q_bipush (v := nI 16) dX5_become_38 rfl ?_
        refine q_iload_n dX5_become_40 rfl ?_
        refine t_imul_n dX5_become_41 ?_
        refine q_iload dX5_become_42 rfl ?_
        refine t_iadd_n dX5_become_44 ?_
        refine q_iload dX5_become_45 rfl ?_
        refine q_if_eq (tgt := 54) dX5_become_47 (by decide) (fun q => absurd q (by decide)) (fun _ => ?_)
        refine q_iconst (v := nI 1) dX5_become_50 rfl ?_
        refine q_goto (tgt := 70) dX5_become_51 (by decide) ?_
        refine v_iast (by decide) dX5_become_70 hok H.2.2.2.2.2.2.2.2.2.1 (j := (16 * a1) + k191) (by omega) (fun h hok => ?_)
        refine q_aload_n dX5_become_71 rfl ?_
        refine v_getr 11 kX5 (by decide) wPX5_37 dX5_become_72 hok H.1 rfl ?_
        refine q_bipush (v := nI 16) dX5_become_75 rfl ?_
        refine q_iload_n dX5_become_77 rfl ?_
        refine t_imul_n dX5_become_78 ?_
        refine q_iload dX5_become_79 rfl ?_
        refine t_iadd_n dX5_become_81 ?_
        refine q_iload dX5_become_82 rfl ?_
        refine q_if_eq (tgt := 102) dX5_become_84 (by decide) (fun q => absurd q (by decide)) (fun _ => ?_)
        refine q_aload_n dX5_become_87 rfl ?_
        refine v_getr 11 kX5 (by decide) wPX5_37 dX5_become_88 hok H.1 rfl ?_
        refine q_bipush (v := nI 16) dX5_become_91 rfl ?_
        refine q_iload_n dX5_become_93 rfl ?_
        refine t_imul_n dX5_become_94 ?_
        refine q_iload dX5_become_95 rfl ?_
        refine t_iadd_n dX5_become_97 ?_
        refine v_iald (by decide) dX5_become_98 hok H.2.2.2.2.2.2.2.2.2.2.1 (j := (16 * a1) + k191) (by omega) ?_
        refine q_goto (tgt := 103) dX5_become_99 (by decide) ?_
        refine v_iast (by decide) dX5_become_103 hok H.2.2.2.2.2.2.2.2.2.2.1 (j := (16 * a1) + k191) (by omega) (fun h hok => ?_)
        refine t_iinc_n [.ref o, .int (nI a1), .int (nI 1), .int (a3), .int (a4), .int (nI (k191 + 1)), .int (nI 1)] dX5_become_104 rfl (by decide) rfl ?_
        refine q_goto (tgt := 10) dX5_become_107 (by decide) ?_
        refine q_weak [.ref o, .int (nI a1), .int (nI 1), .int (a3), .int (a4), .int (nI (k191 + 1)), .retAddr 0] ⟨Or.inl rfl, Or.inl rfl, Or.inl rfl, Or.inl rfl, Or.inl rfl, Or.inl rfl, Or.inr ⟨0, rfl⟩, trivial⟩ ?_
        exact ih191 (k191 + 1) ((vset (vset W191 (o + 9) ((16 * a1) + k191) (nI 1)) (o + 10) ((16 * a1) + k191) ((vset W191 (o + 9) ((16 * a1) + k191) (nI 1)) (o + 10) ((16 * a1) + k191)))) h (by omega) ((congrArg (lp B191 d191 (k191 + 1)) (show (vset (vset W191 (o + 9) ((16 * a1) + k191) (nI 1)) (o + 10) ((16 * a1) + k191) ((vset W191 (o + 9) ((16 * a1) + k191) (nI 1)) (o + 10) ((16 * a1) + k191))) = B191 k191 W191 from by rw [hB191]; dsimp only; rw [if_pos c193])).trans hT191) hok
  exact hl191 16 0  ((vset V (o + 7) a1 (nI 1))) h (by omega) rfl hok
theorem SX5_become_1 (o ml : Nat) (a1 : Nat) (a3 : Int32) (a4 : Int32) {V : q_V} {b : Nat} (hS : SB V o b) : SB (fX5_become_1 o ml a1 a3 a4 V) o b := by
  dsimp only [fX5_become_1]
  repeat' (first | with_reducible assumption | with_reducible refine SB.vs ?_ (Or.inl ?_) | with_reducible refine SB.l1 (fun k s h => ?_) _ _ _ ?_ | with_reducible refine SB.l2 (fun k s h => ?_) _ _ _ ?_ | omega | split | dsimp only)
def fX5_setTimers (o ml : Nat) (a1 : Nat) (a2 : Int32) (a3 : Int32) (V : q_V) : q_V := let B203 := fun (k203 : Nat) (s203 : q_V) => let W203 := s203; if (((a2) >>> ((nI k203) &&& 31)) &&& (nI 1)) = (nI 1) then (let V207 := vset W203 (o + 10) ((16 * a1) + k203) (a3); V207) else (let V206 := vset W203 (o + 10) ((16 * a1) + k203) (W203 (o + 10) ((16 * a1) + k203)); V206); let T203 := lp B203 16 0 V; T203
set_option maxRecDepth 20000 in
set_option maxHeartbeats 4000000 in
theorem eX5_setTimers (Sc : q_S) (Γ : Nat → q_K) (n : Nat) (V : q_V) (o ml : Nat) (H : sM Γ o ml) (hm1 : 1 ≤ ml) (hml : ml ≤ 4) (a1 : Nat) (b1 : a1 < 32) (a2 : Int32) (a3 : Int32) : q_fn Sc Γ mX5_setTimers [.ref o, .int (nI a1), .int (a2), .int (a3)] n V none (fX5_setTimers o ml a1 a2 a3 V) := by
  refine q_fn.of fun Q h hQ hok => ?_
  show q_A Sc mX5_setTimers 0 [.ref o, .int (nI a1), .int (a2), .int (a3), .retAddr 0] [] h n 0 0 Q
  refine q_iconst (v := nI 0) dX5_setTimers_0 rfl ?_
  refine t_istore [.ref o, .int (nI a1), .int (a2), .int (a3), .int (nI 0)] (Or.inr ⟨rfl, dX5_setTimers_1⟩) (by decide) rfl ?_
  obtain ⟨B203, hB203⟩ : ∃ B_ : Nat → q_V → q_V, B_ = (fun (k203 : Nat) (s203 : q_V) => let W203 := s203; if (((a2) >>> ((nI k203) &&& 31)) &&& (nI 1)) = (nI 1) then ((vset W203 (o + 10) ((16 * a1) + k203) (a3))) else ((vset W203 (o + 10) ((16 * a1) + k203) (W203 (o + 10) ((16 * a1) + k203))))) := ⟨_, rfl⟩
  have hl203 : ∀ (d203 k203 : Nat) (W203 : q_V) (h : q_H), k203 + d203 = 16 → lp B203 d203 k203 W203 = (lp B203 16 0 V) → q_ok (gX Γ W203) h → q_A Sc mX5_setTimers 3 [.ref o, .int (nI a1), .int (a2), .int (a3), .int (nI k203)] [] h n 0 0 Q := by
    intro d203
    induction d203 with
    | zero =>
      intro k203  W203 h e203 hT203 hok
      have hT203 : W203 = (lp B203 16 0 V) := hT203
      subst hT203
      refine q_iload dX5_setTimers_3 rfl ?_
      refine q_bipush (v := nI 16) dX5_setTimers_5 rfl ?_
      refine t_icmp_ge_n (tgt := 54) (by omega) (by omega) dX5_setTimers_7 (by decide) (fun c208 => ?_) (fun c208 => ?_)
      rotate_left
      · exact absurd c208 (by omega)
      exact q_vret dX5_setTimers_54 rfl (hQ _ _ (rfl) (by subst hB203; dsimp only [fX5_setTimers]; exact hok))
    | succ d203 ih203 =>
      intro k203  W203 h e203 hT203 hok
      refine q_iload dX5_setTimers_3 rfl ?_
      refine q_bipush (v := nI 16) dX5_setTimers_5 rfl ?_
      refine t_icmp_ge_n (tgt := 54) (by omega) (by omega) dX5_setTimers_7 (by decide) (fun c204 => ?_) (fun c204 => ?_)
      · exact absurd c204 (by omega)
      refine q_aload_n dX5_setTimers_10 rfl ?_
      refine v_getr 11 kX5 (by decide) wPX5_37 dX5_setTimers_11 hok H.1 rfl ?_
      refine q_bipush (v := nI 16) dX5_setTimers_14 rfl ?_
      refine q_iload_n dX5_setTimers_16 rfl ?_
      refine t_imul_n dX5_setTimers_17 ?_
      refine q_iload dX5_setTimers_18 rfl ?_
      refine t_iadd_n dX5_setTimers_20 ?_
      refine q_iload_n dX5_setTimers_21 rfl ?_
      refine q_iload dX5_setTimers_22 rfl ?_
      refine q_ishr dX5_setTimers_24 ?_
      refine q_iconst (v := nI 1) dX5_setTimers_25 rfl ?_
      refine q_iand dX5_setTimers_26 ?_
      refine q_iconst (v := nI 1) dX5_setTimers_27 rfl ?_
      refine q_icmp_ne (tgt := 35) dX5_setTimers_28 (by decide) (fun c205 => ?_) (fun c205 => ?_)
      ·
        refine q_aload_n dX5_setTimers_35 rfl ?_
        refine v_getr 11 kX5 (by decide) wPX5_37 dX5_setTimers_36 hok H.1 rfl ?_
        refine q_bipush (v := nI 16) dX5_setTimers_39 rfl ?_
        refine q_iload_n dX5_setTimers_41 rfl ?_
        refine t_imul_n dX5_setTimers_42 ?_
        refine q_iload dX5_setTimers_43 rfl ?_
        refine t_iadd_n dX5_setTimers_45 ?_
        refine v_iald (by decide) dX5_setTimers_46 hok H.2.2.2.2.2.2.2.2.2.2.1 (j := (16 * a1) + k203) (by omega) ?_
        refine v_iast (by decide) dX5_setTimers_47 hok H.2.2.2.2.2.2.2.2.2.2.1 (j := (16 * a1) + k203) (by omega) (fun h hok => ?_)
        refine t_iinc_n [.ref o, .int (nI a1), .int (a2), .int (a3), .int (nI (k203 + 1))] dX5_setTimers_48 rfl (by decide) rfl ?_
        refine q_goto (tgt := 3) dX5_setTimers_51 (by decide) ?_
        exact ih203 (k203 + 1) ((vset W203 (o + 10) ((16 * a1) + k203) (W203 (o + 10) ((16 * a1) + k203)))) h (by omega) ((congrArg (lp B203 d203 (k203 + 1)) (show (vset W203 (o + 10) ((16 * a1) + k203) (W203 (o + 10) ((16 * a1) + k203))) = B203 k203 W203 from by rw [hB203]; dsimp only; rw [if_neg c205])).trans hT203) hok
      ·
        refine q_iload_n dX5_setTimers_31 rfl ?_
        refine q_goto (tgt := 47) dX5_setTimers_32 (by decide) ?_
        refine v_iast (by decide) dX5_setTimers_47 hok H.2.2.2.2.2.2.2.2.2.2.1 (j := (16 * a1) + k203) (by omega) (fun h hok => ?_)
        refine t_iinc_n [.ref o, .int (nI a1), .int (a2), .int (a3), .int (nI (k203 + 1))] dX5_setTimers_48 rfl (by decide) rfl ?_
        refine q_goto (tgt := 3) dX5_setTimers_51 (by decide) ?_
        exact ih203 (k203 + 1) ((vset W203 (o + 10) ((16 * a1) + k203) (a3))) h (by omega) ((congrArg (lp B203 d203 (k203 + 1)) (show (vset W203 (o + 10) ((16 * a1) + k203) (a3)) = B203 k203 W203 from by rw [hB203]; dsimp only; rw [if_pos c205])).trans hT203) hok
  exact hl203 16 0  V h (by omega) rfl hok
theorem SX5_setTimers (o ml : Nat) (a1 : Nat) (a2 : Int32) (a3 : Int32) {V : q_V} {b : Nat} (hS : SB V o b) : SB (fX5_setTimers o ml a1 a2 a3 V) o b := by
  dsimp only [fX5_setTimers]
  repeat' (first | with_reducible assumption | with_reducible refine SB.vs ?_ (Or.inl ?_) | with_reducible refine SB.l1 (fun k s h => ?_) _ _ _ ?_ | with_reducible refine SB.l2 (fun k s h => ?_) _ _ _ ?_ | omega | split | dsimp only)
def fX5_lower (o ml : Nat) (a1 : Nat) (a2 : Nat) (a3 : Int32) (V : q_V) : q_V := let B209 := fun (k209 : Nat) (s209 : q_V) => let W209 := s209; if (((a3) >>> ((nI k209) &&& 31)) &&& (nI 1)) = (nI 1) then (if (W209 (o + 10) ((16 * a2) + k209)) ≤ (V (o + 1) a1) then (let V214 := vset W209 (o + 10) ((16 * a2) + k209) (W209 (o + 10) ((16 * a2) + k209)); V214) else (let V215 := vset W209 (o + 10) ((16 * a2) + k209) (V (o + 1) a1); V215)) else (let V212 := vset W209 (o + 10) ((16 * a2) + k209) (W209 (o + 10) ((16 * a2) + k209)); V212); let T209 := lp B209 16 0 V; T209
set_option maxRecDepth 20000 in
set_option maxHeartbeats 4000000 in
theorem eX5_lower (Sc : q_S) (Γ : Nat → q_K) (n : Nat) (V : q_V) (o ml : Nat) (H : sM Γ o ml) (hm1 : 1 ≤ ml) (hml : ml ≤ 4) (a1 : Nat) (b1 : a1 < 4) (a2 : Nat) (b2 : a2 < 32) (a3 : Int32) : q_fn Sc Γ mX5_lower [.ref o, .int (nI a1), .int (nI a2), .int (a3)] n V none (fX5_lower o ml a1 a2 a3 V) := by
  refine q_fn.of fun Q h hQ hok => ?_
  show q_A Sc mX5_lower 0 [.ref o, .int (nI a1), .int (nI a2), .int (a3), .retAddr 0, .retAddr 0, .retAddr 0] [] h n 0 0 Q
  refine q_aload_n dX5_lower_0 rfl ?_
  refine v_getr 2 kX5 (by decide) wPX5_7 dX5_lower_1 hok H.1 rfl ?_
  refine q_iload_n dX5_lower_4 rfl ?_
  refine v_iald (by decide) dX5_lower_5 hok H.2.1 (j := a1) (by omega) ?_
  refine t_istore [.ref o, .int (nI a1), .int (nI a2), .int (a3), .int (V (o + 1) a1), .retAddr 0, .retAddr 0] (Or.inr ⟨rfl, dX5_lower_6⟩) (by decide) rfl ?_
  refine q_iconst (v := nI 0) dX5_lower_8 rfl ?_
  refine t_istore [.ref o, .int (nI a1), .int (nI a2), .int (a3), .int (V (o + 1) a1), .int (nI 0), .retAddr 0] (Or.inr ⟨rfl, dX5_lower_9⟩) (by decide) rfl ?_
  obtain ⟨B209, hB209⟩ : ∃ B_ : Nat → q_V → q_V, B_ = (fun (k209 : Nat) (s209 : q_V) => let W209 := s209; if (((a3) >>> ((nI k209) &&& 31)) &&& (nI 1)) = (nI 1) then (if (W209 (o + 10) ((16 * a2) + k209)) ≤ (V (o + 1) a1) then ((vset W209 (o + 10) ((16 * a2) + k209) (W209 (o + 10) ((16 * a2) + k209)))) else ((vset W209 (o + 10) ((16 * a2) + k209) (V (o + 1) a1)))) else ((vset W209 (o + 10) ((16 * a2) + k209) (W209 (o + 10) ((16 * a2) + k209))))) := ⟨_, rfl⟩
  have hl209 : ∀ (d209 k209 : Nat) (W209 : q_V) (h : q_H), k209 + d209 = 16 → lp B209 d209 k209 W209 = (lp B209 16 0 V) → q_ok (gX Γ W209) h → q_A Sc mX5_lower 11 [.ref o, .int (nI a1), .int (nI a2), .int (a3), .int (V (o + 1) a1), .int (nI k209), .retAddr 0] [] h n 0 0 Q := by
    intro d209
    induction d209 with
    | zero =>
      intro k209  W209 h e209 hT209 hok
      have hT209 : W209 = (lp B209 16 0 V) := hT209
      subst hT209
      refine q_iload dX5_lower_11 rfl ?_
      refine q_bipush (v := nI 16) dX5_lower_13 rfl ?_
      refine t_icmp_ge_n (tgt := 92) (by omega) (by omega) dX5_lower_15 (by decide) (fun c216 => ?_) (fun c216 => ?_)
      rotate_left
      · exact absurd c216 (by omega)
      exact q_vret dX5_lower_92 rfl (hQ _ _ (rfl) (by subst hB209; dsimp only [fX5_lower]; exact hok))
    | succ d209 ih209 =>
      intro k209  W209 h e209 hT209 hok
      refine q_iload dX5_lower_11 rfl ?_
      refine q_bipush (v := nI 16) dX5_lower_13 rfl ?_
      refine t_icmp_ge_n (tgt := 92) (by omega) (by omega) dX5_lower_15 (by decide) (fun c210 => ?_) (fun c210 => ?_)
      · exact absurd c210 (by omega)
      refine q_iload_n dX5_lower_18 rfl ?_
      refine q_iload dX5_lower_19 rfl ?_
      refine q_ishr dX5_lower_21 ?_
      refine q_iconst (v := nI 1) dX5_lower_22 rfl ?_
      refine q_iand dX5_lower_23 ?_
      refine q_iconst (v := nI 1) dX5_lower_24 rfl ?_
      refine q_icmp_ne (tgt := 49) dX5_lower_25 (by decide) (fun c211 => ?_) (fun c211 => ?_)
      ·
        refine q_iconst (v := nI 0) dX5_lower_49 rfl ?_
        refine t_istore [.ref o, .int (nI a1), .int (nI a2), .int (a3), .int (V (o + 1) a1), .int (nI k209), .int (nI 0)] (Or.inr ⟨rfl, dX5_lower_50⟩) (by decide) rfl ?_
        refine q_aload_n dX5_lower_52 rfl ?_
        refine v_getr 11 kX5 (by decide) wPX5_37 dX5_lower_53 hok H.1 rfl ?_
        refine q_bipush (v := nI 16) dX5_lower_56 rfl ?_
        refine q_iload_n dX5_lower_58 rfl ?_
        refine t_imul_n dX5_lower_59 ?_
        refine q_iload dX5_lower_60 rfl ?_
        refine t_iadd_n dX5_lower_62 ?_
        refine q_iload dX5_lower_63 rfl ?_
        refine q_if_eq (tgt := 73) dX5_lower_65 (by decide) (fun _ => ?_) (fun q => absurd q (by decide))
        refine q_aload_n dX5_lower_73 rfl ?_
        refine v_getr 11 kX5 (by decide) wPX5_37 dX5_lower_74 hok H.1 rfl ?_
        refine q_bipush (v := nI 16) dX5_lower_77 rfl ?_
        refine q_iload_n dX5_lower_79 rfl ?_
        refine t_imul_n dX5_lower_80 ?_
        refine q_iload dX5_lower_81 rfl ?_
        refine t_iadd_n dX5_lower_83 ?_
        refine v_iald (by decide) dX5_lower_84 hok H.2.2.2.2.2.2.2.2.2.2.1 (j := (16 * a2) + k209) (by omega) ?_
        refine v_iast (by decide) dX5_lower_85 hok H.2.2.2.2.2.2.2.2.2.2.1 (j := (16 * a2) + k209) (by omega) (fun h hok => ?_)
        refine t_iinc_n [.ref o, .int (nI a1), .int (nI a2), .int (a3), .int (V (o + 1) a1), .int (nI (k209 + 1)), .int (nI 0)] dX5_lower_86 rfl (by decide) rfl ?_
        refine q_goto (tgt := 11) dX5_lower_89 (by decide) ?_
        refine q_weak [.ref o, .int (nI a1), .int (nI a2), .int (a3), .int (V (o + 1) a1), .int (nI (k209 + 1)), .retAddr 0] ⟨Or.inl rfl, Or.inl rfl, Or.inl rfl, Or.inl rfl, Or.inl rfl, Or.inl rfl, Or.inr ⟨0, rfl⟩, trivial⟩ ?_
        exact ih209 (k209 + 1) ((vset W209 (o + 10) ((16 * a2) + k209) (W209 (o + 10) ((16 * a2) + k209)))) h (by omega) ((congrArg (lp B209 d209 (k209 + 1)) (show (vset W209 (o + 10) ((16 * a2) + k209) (W209 (o + 10) ((16 * a2) + k209))) = B209 k209 W209 from by rw [hB209]; dsimp only; rw [if_neg c211])).trans hT209) hok
      ·
        refine q_aload_n dX5_lower_28 rfl ?_
        refine v_getr 11 kX5 (by decide) wPX5_37 dX5_lower_29 hok H.1 rfl ?_
        refine q_bipush (v := nI 16) dX5_lower_32 rfl ?_
        refine q_iload_n dX5_lower_34 rfl ?_
        refine t_imul_n dX5_lower_35 ?_
        refine q_iload dX5_lower_36 rfl ?_
        refine t_iadd_n dX5_lower_38 ?_
        refine v_iald (by decide) dX5_lower_39 hok H.2.2.2.2.2.2.2.2.2.2.1 (j := (16 * a2) + k209) (by omega) ?_
        refine q_iload dX5_lower_40 rfl ?_
        refine q_icmp_le (tgt := 49) dX5_lower_42 (by decide) (fun c213 => ?_) (fun c213 => ?_)
        ·
          refine q_iconst (v := nI 0) dX5_lower_49 rfl ?_
          refine t_istore [.ref o, .int (nI a1), .int (nI a2), .int (a3), .int (V (o + 1) a1), .int (nI k209), .int (nI 0)] (Or.inr ⟨rfl, dX5_lower_50⟩) (by decide) rfl ?_
          refine q_aload_n dX5_lower_52 rfl ?_
          refine v_getr 11 kX5 (by decide) wPX5_37 dX5_lower_53 hok H.1 rfl ?_
          refine q_bipush (v := nI 16) dX5_lower_56 rfl ?_
          refine q_iload_n dX5_lower_58 rfl ?_
          refine t_imul_n dX5_lower_59 ?_
          refine q_iload dX5_lower_60 rfl ?_
          refine t_iadd_n dX5_lower_62 ?_
          refine q_iload dX5_lower_63 rfl ?_
          refine q_if_eq (tgt := 73) dX5_lower_65 (by decide) (fun _ => ?_) (fun q => absurd q (by decide))
          refine q_aload_n dX5_lower_73 rfl ?_
          refine v_getr 11 kX5 (by decide) wPX5_37 dX5_lower_74 hok H.1 rfl ?_
          refine q_bipush (v := nI 16) dX5_lower_77 rfl ?_
          refine q_iload_n dX5_lower_79 rfl ?_
          refine t_imul_n dX5_lower_80 ?_
          refine q_iload dX5_lower_81 rfl ?_
          refine t_iadd_n dX5_lower_83 ?_
          refine v_iald (by decide) dX5_lower_84 hok H.2.2.2.2.2.2.2.2.2.2.1 (j := (16 * a2) + k209) (by omega) ?_
          refine v_iast (by decide) dX5_lower_85 hok H.2.2.2.2.2.2.2.2.2.2.1 (j := (16 * a2) + k209) (by omega) (fun h hok => ?_)
          refine t_iinc_n [.ref o, .int (nI a1), .int (nI a2), .int (a3), .int (V (o + 1) a1), .int (nI (k209 + 1)), .int (nI 0)] dX5_lower_86 rfl (by decide) rfl ?_
          refine q_goto (tgt := 11) dX5_lower_89 (by decide) ?_
          refine q_weak [.ref o, .int (nI a1), .int (nI a2), .int (a3), .int (V (o + 1) a1), .int (nI (k209 + 1)), .retAddr 0] ⟨Or.inl rfl, Or.inl rfl, Or.inl rfl, Or.inl rfl, Or.inl rfl, Or.inl rfl, Or.inr ⟨0, rfl⟩, trivial⟩ ?_
          exact ih209 (k209 + 1) ((vset W209 (o + 10) ((16 * a2) + k209) (W209 (o + 10) ((16 * a2) + k209)))) h (by omega) ((congrArg (lp B209 d209 (k209 + 1)) (show (vset W209 (o + 10) ((16 * a2) + k209) (W209 (o + 10) ((16 * a2) + k209))) = B209 k209 W209 from by rw [hB209]; dsimp only; rw [if_pos c211, if_pos c213])).trans hT209) hok
        ·
          refine q_iconst (v := nI 1) dX5_lower_45 rfl ?_
          refine q_goto (tgt := 50) dX5_lower_46 (by decide) ?_
          refine t_istore [.ref o, .int (nI a1), .int (nI a2), .int (a3), .int (V (o + 1) a1), .int (nI k209), .int (nI 1)] (Or.inr ⟨rfl, dX5_lower_50⟩) (by decide) rfl ?_
          refine q_aload_n dX5_lower_52 rfl ?_
          refine v_getr 11 kX5 (by decide) wPX5_37 dX5_lower_53 hok H.1 rfl ?_
          refine q_bipush (v := nI 16) dX5_lower_56 rfl ?_
          refine q_iload_n dX5_lower_58 rfl ?_
          refine t_imul_n dX5_lower_59 ?_
          refine q_iload dX5_lower_60 rfl ?_
          refine t_iadd_n dX5_lower_62 ?_
          refine q_iload dX5_lower_63 rfl ?_
          refine q_if_eq (tgt := 73) dX5_lower_65 (by decide) (fun q => absurd q (by decide)) (fun _ => ?_)
          refine q_iload dX5_lower_68 rfl ?_
          refine q_goto (tgt := 85) dX5_lower_70 (by decide) ?_
          refine v_iast (by decide) dX5_lower_85 hok H.2.2.2.2.2.2.2.2.2.2.1 (j := (16 * a2) + k209) (by omega) (fun h hok => ?_)
          refine t_iinc_n [.ref o, .int (nI a1), .int (nI a2), .int (a3), .int (V (o + 1) a1), .int (nI (k209 + 1)), .int (nI 1)] dX5_lower_86 rfl (by decide) rfl ?_
          refine q_goto (tgt := 11) dX5_lower_89 (by decide) ?_
          refine q_weak [.ref o, .int (nI a1), .int (nI a2), .int (a3), .int (V (o + 1) a1), .int (nI (k209 + 1)), .retAddr 0] ⟨Or.inl rfl, Or.inl rfl, Or.inl rfl, Or.inl rfl, Or.inl rfl, Or.inl rfl, Or.inr ⟨0, rfl⟩, trivial⟩ ?_
          exact ih209 (k209 + 1) ((vset W209 (o + 10) ((16 * a2) + k209) (V (o + 1) a1))) h (by omega) ((congrArg (lp B209 d209 (k209 + 1)) (show (vset W209 (o + 10) ((16 * a2) + k209) (V (o + 1) a1)) = B209 k209 W209 from by rw [hB209]; dsimp only; rw [if_pos c211, if_neg c213])).trans hT209) hok
  exact hl209 16 0  V h (by omega) rfl hok
theorem SX5_lower (o ml : Nat) (a1 : Nat) (a2 : Nat) (a3 : Int32) {V : q_V} {b : Nat} (hS : SB V o b) : SB (fX5_lower o ml a1 a2 a3 V) o b := by
  dsimp only [fX5_lower]
  repeat' (first | with_reducible assumption | with_reducible refine SB.vs ?_ (Or.inl ?_) | with_reducible refine SB.l1 (fun k s h => ?_) _ _ _ ?_ | with_reducible refine SB.l2 (fun k s h => ?_) _ _ _ ?_ | omega | split | dsimp only)
def fX5_lowerGroup (o ml : Nat) (a1 : Nat) (a2 : Nat) (V : q_V) : q_V := if (V (o + 8) a2) ≤ (V (o + 1) a1) then (let V218 := vset V (o + 8) a2 (V (o + 8) a2); V218) else (let V219 := vset V (o + 8) a2 (V (o + 1) a1); V219)
set_option maxRecDepth 20000 in
set_option maxHeartbeats 4000000 in
theorem eX5_lowerGroup (Sc : q_S) (Γ : Nat → q_K) (n : Nat) (V : q_V) (o ml : Nat) (H : sM Γ o ml) (hm1 : 1 ≤ ml) (hml : ml ≤ 4) (a1 : Nat) (b1 : a1 < 4) (a2 : Nat) (b2 : a2 < 32) : q_fn Sc Γ mX5_lowerGroup [.ref o, .int (nI a1), .int (nI a2)] n V none (fX5_lowerGroup o ml a1 a2 V) := by
  refine q_fn.of fun Q h hQ hok => ?_
  show q_A Sc mX5_lowerGroup 0 [.ref o, .int (nI a1), .int (nI a2)] [] h n 0 0 Q
  refine q_aload_n dX5_lowerGroup_0 rfl ?_
  refine v_getr 9 kX5 (by decide) wPX5_31 dX5_lowerGroup_1 hok H.1 rfl ?_
  refine q_iload_n dX5_lowerGroup_4 rfl ?_
  refine q_aload_n dX5_lowerGroup_5 rfl ?_
  refine v_getr 9 kX5 (by decide) wPX5_31 dX5_lowerGroup_6 hok H.1 rfl ?_
  refine q_iload_n dX5_lowerGroup_9 rfl ?_
  refine v_iald (by decide) dX5_lowerGroup_10 hok H.2.2.2.2.2.2.2.2.1 (j := a2) (by omega) ?_
  refine q_aload_n dX5_lowerGroup_11 rfl ?_
  refine v_getr 2 kX5 (by decide) wPX5_7 dX5_lowerGroup_12 hok H.1 rfl ?_
  refine q_iload_n dX5_lowerGroup_15 rfl ?_
  refine v_iald (by decide) dX5_lowerGroup_16 hok H.2.1 (j := a1) (by omega) ?_
  refine q_icmp_le (tgt := 29) dX5_lowerGroup_17 (by decide) (fun c217 => ?_) (fun c217 => ?_)
  ·
    refine q_aload_n dX5_lowerGroup_29 rfl ?_
    refine v_getr 9 kX5 (by decide) wPX5_31 dX5_lowerGroup_30 hok H.1 rfl ?_
    refine q_iload_n dX5_lowerGroup_33 rfl ?_
    refine v_iald (by decide) dX5_lowerGroup_34 hok H.2.2.2.2.2.2.2.2.1 (j := a2) (by omega) ?_
    refine v_iast (by decide) dX5_lowerGroup_35 hok H.2.2.2.2.2.2.2.2.1 (j := a2) (by omega) (fun h hok => ?_)
    exact q_vret dX5_lowerGroup_36 rfl (hQ _ _ (rfl) (by dsimp only [fX5_lowerGroup]; rw [if_pos c217]; exact hok))
  ·
    refine q_aload_n dX5_lowerGroup_20 rfl ?_
    refine v_getr 2 kX5 (by decide) wPX5_7 dX5_lowerGroup_21 hok H.1 rfl ?_
    refine q_iload_n dX5_lowerGroup_24 rfl ?_
    refine v_iald (by decide) dX5_lowerGroup_25 hok H.2.1 (j := a1) (by omega) ?_
    refine q_goto (tgt := 35) dX5_lowerGroup_26 (by decide) ?_
    refine v_iast (by decide) dX5_lowerGroup_35 hok H.2.2.2.2.2.2.2.2.1 (j := a2) (by omega) (fun h hok => ?_)
    exact q_vret dX5_lowerGroup_36 rfl (hQ _ _ (rfl) (by dsimp only [fX5_lowerGroup]; rw [if_neg c217]; exact hok))
theorem SX5_lowerGroup (o ml : Nat) (a1 : Nat) (a2 : Nat) {V : q_V} {b : Nat} (hS : SB V o b) : SB (fX5_lowerGroup o ml a1 a2 V) o b := by
  dsimp only [fX5_lowerGroup]
  repeat' (first | with_reducible assumption | with_reducible refine SB.vs ?_ (Or.inl ?_) | with_reducible refine SB.l1 (fun k s h => ?_) _ _ _ ?_ | with_reducible refine SB.l2 (fun k s h => ?_) _ _ _ ?_ | omega | split | dsimp only)
