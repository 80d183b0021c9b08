def fm40 (x : Int32) : Nat := (x.toInt % 40).toNat
theorem fm40_lt (x : Int32) : fm40 x < 40 := by
  unfold fm40
  omega
theorem q_xneg {x : Int32} (h : x < 0) : (x ^^^ nI 40) < 0 := by
  rw [Int32.lt_iff_toInt_lt] at h ⊢
  have h1 : x.toBitVec.toInt < 0 := h
  have h2 : x.toBitVec.msb = true := by
    rw [BitVec.msb_eq_toInt]
    exact decide_eq_true h1
  have h3 : (x ^^^ nI 40).toBitVec.msb = true := by
    rw [Int32.toBitVec_xor, BitVec.msb_xor, h2]
    rfl
  have h4 : (x ^^^ nI 40).toBitVec.toInt < 0 := by
    rw [BitVec.msb_eq_toInt] at h3
    exact of_decide_eq_true h3
  exact h4
theorem q_xpos {x : Int32} (h : 0 ≤ x.toInt) : 0 ≤ (x ^^^ nI 40) := by
  have h1 : x.toBitVec.msb = false := by
    rw [BitVec.msb_eq_toInt]
    exact decide_eq_false (Int.not_lt.mpr h)
  have h3 : (x ^^^ nI 40).toBitVec.msb = false := by
    rw [Int32.toBitVec_xor, BitVec.msb_xor, h1]
    rfl
  rw [BitVec.msb_eq_toInt] at h3
  rw [Int32.le_iff_toInt_le, Int32.toInt_zero]
  exact Int.not_lt.mp (of_decide_eq_false h3)
theorem fm_rem (x : Int32) : (x - x / nI 40 * nI 40).toInt = x.toInt.tmod 40 := by
  rw [rem_toInt x (nI 40), nI_toInt (by decide)]
  rfl
theorem tm40 (a : Int) : a.tmod 40 = a % 40 ∨ (a < 0 ∧ a.tmod 40 = a % 40 - 40 ∧ a % 40 ≠ 0) := by
  rw [Int.tmod_eq_emod]
  split
  · exact Or.inl (by omega)
  · rename_i h
    refine Or.inr ⟨by omega, by simp, fun q => h (Or.inr (Int.dvd_of_emod_eq_zero q))⟩
theorem int_eq {x : Int32} {j : Nat} (hj : j < 2 ^ 31) (h : x.toInt = j) : x = nI j := Int32.toInt_inj.mp (by rw [h, nI_toInt hj])
theorem fm40_pos {x : Int32} (h : 0 ≤ x.toInt) : x - x / nI 40 * nI 40 = nI (fm40 x) := by
  refine int_eq (by have := fm40_lt x; omega) ?_
  rw [fm_rem]
  unfold fm40
  rcases tm40 x.toInt with e | ⟨e, -⟩
  · rw [e]
    omega
  · omega

def vJ9_floorMod_7cf53_40 (a0 : Int32) (V : q_V) : Int32 := if 0 ≤ ((a0) ^^^ (nI 40)) then (((a0) - (a0) / (nI 40) * (nI 40))) else (if ((a0) - (a0) / (nI 40) * (nI 40)) = 0 then (((a0) - (a0) / (nI 40) * (nI 40))) else ((((a0) - (a0) / (nI 40) * (nI 40)) + (nI 40))))
set_option maxRecDepth 20000 in
set_option maxHeartbeats 4000000 in
theorem eJ9_floorMod_7cf53_40 (Sc : q_S) (Γ : Nat → q_K) (n : Nat) (V : q_V) (a0 : Int32) : q_fn Sc Γ mJ9_floorMod_7cf53 [.int (a0), .int (nI 40)] n V (some (.int (vJ9_floorMod_7cf53_40 a0 V))) V := by
  refine q_fn.of fun Q h hQ hok => ?_
  show q_A Sc mJ9_floorMod_7cf53 0 [.int (a0), .int (nI 40), .retAddr 0] [] h n 0 0 Q
  refine q_iload_n dJ9_floorMod_7cf53_0 rfl ?_
  refine q_iload_n dJ9_floorMod_7cf53_1 rfl ?_
  refine q_irem dJ9_floorMod_7cf53_2 (by decide) ?_
  refine t_istore [.int (a0), .int (nI 40), .int ((a0) - (a0) / (nI 40) * (nI 40))] (Or.inl ⟨2, rfl, rfl, dJ9_floorMod_7cf53_3⟩) (by decide) rfl ?_
  refine q_iload_n dJ9_floorMod_7cf53_4 rfl ?_
  refine q_iload_n dJ9_floorMod_7cf53_5 rfl ?_
  refine q_ixor dJ9_floorMod_7cf53_6 ?_
  refine q_if_ge (tgt := 18) dJ9_floorMod_7cf53_7 (by decide) (fun c59 => ?_) (fun c59 => ?_)
  ·
    refine q_iload_n dJ9_floorMod_7cf53_18 rfl ?_
    exact q_iret dJ9_floorMod_7cf53_19 rfl (rfl) (hQ _ _ (by dsimp only [vJ9_floorMod_7cf53_40]; rw [if_pos c59]) (hok))
  ·
    refine q_iload_n dJ9_floorMod_7cf53_10 rfl ?_
    refine q_if_eq (tgt := 18) dJ9_floorMod_7cf53_11 (by decide) (fun c60 => ?_) (fun c60 => ?_)
    ·
      refine q_iload_n dJ9_floorMod_7cf53_18 rfl ?_
      exact q_iret dJ9_floorMod_7cf53_19 rfl (rfl) (hQ _ _ (by dsimp only [vJ9_floorMod_7cf53_40]; rw [if_neg c59, if_pos c60]) (hok))
    ·
      refine q_iload_n dJ9_floorMod_7cf53_14 rfl ?_
      refine q_iload_n dJ9_floorMod_7cf53_15 rfl ?_
      refine q_iadd dJ9_floorMod_7cf53_16 ?_
      exact q_iret dJ9_floorMod_7cf53_17 rfl (rfl) (hQ _ _ (by dsimp only [vJ9_floorMod_7cf53_40]; rw [if_neg c59, if_neg c60]) (hok))
theorem fm40_eq (x : Int32) (V : q_V) : vJ9_floorMod_7cf53_40 x V = nI (fm40 x) := by
  have hb := fm40_lt x
  dsimp only [vJ9_floorMod_7cf53_40]
  split
  · rename_i c
    have h0 : 0 ≤ x.toInt := Int.not_lt.mp fun q => by
      have h9 := q_xneg (x := x) (by rw [Int32.lt_iff_toInt_lt, Int32.toInt_zero]; exact q)
      rw [Int32.lt_iff_toInt_lt] at h9
      rw [Int32.le_iff_toInt_le] at c
      omega
    exact fm40_pos h0
  · rename_i c
    have h0 : x.toInt < 0 := Int.not_le.mp fun q => c (q_xpos q)
    split
    · rename_i c2
      have h3 := congrArg Int32.toInt c2
      rw [fm_rem, Int32.toInt_zero] at h3
      rw [c2]
      refine int_eq (by omega) ?_
      unfold fm40
      rw [Int32.toInt_zero]
      rcases tm40 x.toInt with e | ⟨e, e2, e3⟩ <;> omega
    · rename_i c2
      have h3 : x.toInt.tmod 40 ≠ 0 := fun q => c2 (Int32.toInt_inj.mp (by rw [fm_rem, q, Int32.toInt_zero]))
      refine int_eq (by omega) ?_
      have h5 := fm_rem x
      have h6 : -40 < x.toInt.tmod 40 ∧ x.toInt.tmod 40 < 40 := by
        rcases tm40 x.toInt with e | ⟨e, e2, e3⟩ <;> omega
      have hs : (x - x / nI 40 * nI 40 + nI 40).toInt = (x - x / nI 40 * nI 40).toInt + 40 := by
        rw [Int32.toInt_add, nI_toInt (by decide)]
        exact Int.bmod_eq_of_le (by omega) (by omega)
      rw [hs, h5]
      unfold fm40
      have h7 : x.toInt.tmod 40 ≤ 0 := by
        have h1 : 0 ≤ (-x.toInt).tmod 40 := Int.tmod_nonneg _ (by omega)
        rw [Int.neg_tmod] at h1
        omega
      rcases tm40 x.toInt with e | ⟨e, e2, e3⟩ <;> omega
theorem eJ9_fm (Sc : q_S) (Γ : Nat → q_K) (n : Nat) (V : q_V) (a0 : Int32) : q_fn Sc Γ mJ9_floorMod_7cf53 [.int a0, .int (nI 40)] n V (some (.int (nI (fm40 a0)))) V := by
  rw [← fm40_eq a0 V]
  exact eJ9_floorMod_7cf53_40 Sc Γ n V a0

def fX3_reset (lg : Nat) (V : q_V) : q_V := let V61 := vset V lg 4 (nI 0); let V62 := vset V61 lg 5 (nI 0); V62
set_option maxRecDepth 20000 in
set_option maxHeartbeats 4000000 in
theorem eX3_reset (Sc : q_S) (Γ : Nat → q_K) (n : Nat) (V : q_V) (lg : Nat) (Hg : sLg Γ lg) : q_fn Sc Γ mX3_reset [.ref lg] n V none (fX3_reset lg V) := by
  refine q_fn.of fun Q h hQ hok => ?_
  show q_A Sc mX3_reset 0 [.ref lg] [] h n 0 0 Q
  refine q_aload_n dX3_reset_0 rfl ?_
  refine q_iconst (v := nI 0) dX3_reset_1 rfl ?_
  refine v_puti 4 kX3 (by decide) wPX3_24 rfl dX3_reset_2 hok Hg.1 rfl ⟨rfl, rfl⟩ (fun h hok => ?_)
  refine q_aload_n dX3_reset_5 rfl ?_
  refine q_iconst (v := nI 0) dX3_reset_6 rfl ?_
  refine v_puti 5 kX3 (by decide) wPX3_28 rfl dX3_reset_7 hok Hg.1 rfl ⟨rfl, rfl⟩ (fun h hok => ?_)
  exact q_vret dX3_reset_10 rfl (hQ _ _ (rfl) (by dsimp only [fX3_reset]; exact hok))
def fX3_add (lg : Nat) (a1 : Int32) (a2 : Int32) (a3 : Int32) (V : q_V) : q_V := let V64 := vset V (lg + 1) (fm40 (V lg 4)) (a1); let V65 := vset V64 (lg + 2) (fm40 (V lg 4)) (a2); let V66 := vset V65 (lg + 3) (fm40 (V lg 4)) (a3); let V67 := vset V66 (lg + 4) (fm40 (V lg 4)) (V66 lg 5); let V68 := vset V67 lg 4 ((V67 lg 4) + (nI 1)); V68
set_option maxRecDepth 20000 in
set_option maxHeartbeats 4000000 in
theorem eX3_add (Sc : q_S) (Γ : Nat → q_K) (n : Nat) (V : q_V) (lg : Nat) (Hg : sLg Γ lg) (a1 : Int32) (a2 : Int32) (a3 : Int32) : q_fn Sc Γ mX3_add [.ref lg, .int (a1), .int (a2), .int (a3)] n V none (fX3_add lg a1 a2 a3 V) := by
  refine q_fn.of fun Q h hQ hok => ?_
  show q_A Sc mX3_add 0 [.ref lg, .int (a1), .int (a2), .int (a3), .retAddr 0] [] h n 0 0 Q
  refine q_aload_n dX3_add_0 rfl ?_
  refine v_geti 4 kX3 (by decide) wPX3_24 dX3_add_1 hok Hg.1 rfl ?_
  refine q_bipush (v := nI 40) dX3_add_4 rfl ?_
  refine v_callS (M' := mJ9_floorMod_7cf53) [.int (V lg 4), .int (nI 40)] [] dX3_add_6 wPX3_31 wTJ9_floorMod_7cf53 wNJ9 iJ9_floorMod_7cf53 oJ9_floorMod_7cf53 rfl hok (eJ9_fm Sc Γ n V (V lg 4)) (Nat.le_of_ble_eq_true rfl) (Nat.le_of_ble_eq_true rfl) (Nat.le_of_ble_eq_true rfl) rfl (fun h hok => ?_)
  have hfm63 := fm40_lt (V lg 4)
  refine t_istore [.ref lg, .int (a1), .int (a2), .int (a3), .int (nI (fm40 (V lg 4)))] (Or.inr ⟨rfl, dX3_add_9⟩) (by decide) rfl ?_
  refine q_aload_n dX3_add_11 rfl ?_
  refine v_getr 0 kX3 (by decide) wPX3_9 dX3_add_12 hok Hg.1 rfl ?_
  refine q_iload dX3_add_15 rfl ?_
  refine q_iload_n dX3_add_17 rfl ?_
  refine v_iast (by decide) dX3_add_18 hok Hg.2.1 (j := fm40 (V lg 4)) (by omega) (fun h hok => ?_)
  refine q_aload_n dX3_add_19 rfl ?_
  refine v_getr 1 kX3 (by decide) wPX3_15 dX3_add_20 hok Hg.1 rfl ?_
  refine q_iload dX3_add_23 rfl ?_
  refine q_iload_n dX3_add_25 rfl ?_
  refine v_iast (by decide) dX3_add_26 hok Hg.2.2.1 (j := fm40 (V lg 4)) (by omega) (fun h hok => ?_)
  refine q_aload_n dX3_add_27 rfl ?_
  refine v_getr 2 kX3 (by decide) wPX3_18 dX3_add_28 hok Hg.1 rfl ?_
  refine q_iload dX3_add_31 rfl ?_
  refine q_iload_n dX3_add_33 rfl ?_
  refine v_iast (by decide) dX3_add_34 hok Hg.2.2.2.1 (j := fm40 (V lg 4)) (by omega) (fun h hok => ?_)
  refine q_aload_n dX3_add_35 rfl ?_
  refine v_getr 3 kX3 (by decide) wPX3_21 dX3_add_36 hok Hg.1 rfl ?_
  refine q_iload dX3_add_39 rfl ?_
  refine q_aload_n dX3_add_41 rfl ?_
  refine v_geti 5 kX3 (by decide) wPX3_28 dX3_add_42 hok Hg.1 rfl ?_
  refine v_iast (by decide) dX3_add_45 hok Hg.2.2.2.2 (j := fm40 (V lg 4)) (by omega) (fun h hok => ?_)
  refine q_aload_n dX3_add_46 rfl ?_
  refine q_dup dX3_add_47 rfl ?_
  refine v_geti 4 kX3 (by decide) wPX3_24 dX3_add_48 hok Hg.1 rfl ?_
  refine q_iconst (v := nI 1) dX3_add_51 rfl ?_
  refine q_iadd dX3_add_52 ?_
  refine v_puti 4 kX3 (by decide) wPX3_24 rfl dX3_add_53 hok Hg.1 rfl ⟨rfl, rfl⟩ (fun h hok => ?_)
  exact q_vret dX3_add_56 rfl (hQ _ _ (rfl) (by dsimp only [fX3_add]; exact hok))
def vX3_look_0 (lg : Nat) (a1 : Int32) (V : q_V) : Int32 := (V (lg + 1) (fm40 (((V lg 4) - (nI 1)) - (a1))))
set_option maxRecDepth 20000 in
set_option maxHeartbeats 4000000 in
theorem eX3_look_0 (Sc : q_S) (Γ : Nat → q_K) (n : Nat) (V : q_V) (lg : Nat) (Hg : sLg Γ lg) (a1 : Int32) : q_fn Sc Γ mX3_look [.ref lg, .int (a1), .int (nI 0)] n V (some (.int (vX3_look_0 lg a1 V))) V := by
  refine q_fn.of fun Q h hQ hok => ?_
  show q_A Sc mX3_look 0 [.ref lg, .int (a1), .int (nI 0), .retAddr 0] [] h n 0 0 Q
  refine q_aload_n dX3_look_0 rfl ?_
  refine v_geti 4 kX3 (by decide) wPX3_24 dX3_look_1 hok Hg.1 rfl ?_
  refine q_iconst (v := nI 1) dX3_look_4 rfl ?_
  refine q_isub dX3_look_5 ?_
  refine q_iload_n dX3_look_6 rfl ?_
  refine q_isub dX3_look_7 ?_
  refine q_bipush (v := nI 40) dX3_look_8 rfl ?_
  refine v_callS (M' := mJ9_floorMod_7cf53) [.int (((V lg 4) - (nI 1)) - (a1)), .int (nI 40)] [] dX3_look_10 wPX3_31 wTJ9_floorMod_7cf53 wNJ9 iJ9_floorMod_7cf53 oJ9_floorMod_7cf53 rfl hok (eJ9_fm Sc Γ n V (((V lg 4) - (nI 1)) - (a1))) (Nat.le_of_ble_eq_true rfl) (Nat.le_of_ble_eq_true rfl) (Nat.le_of_ble_eq_true rfl) rfl (fun h hok => ?_)
  have hfm69 := fm40_lt (((V lg 4) - (nI 1)) - (a1))
  refine t_istore [.ref lg, .int (a1), .int (nI 0), .int (nI (fm40 (((V lg 4) - (nI 1)) - (a1))))] (Or.inl ⟨3, rfl, rfl, dX3_look_13⟩) (by decide) rfl ?_
  refine q_iload_n dX3_look_14 rfl ?_
  refine q_tableIn (off := 25) (tgt := 40) dX3_look_15 (by decide) (by decide) (by decide) (by decide) ?_
  refine q_aload_n dX3_look_40 rfl ?_
  refine v_getr 0 kX3 (by decide) wPX3_9 dX3_look_41 hok Hg.1 rfl ?_
  refine q_iload_n dX3_look_44 rfl ?_
  refine v_iald (by decide) dX3_look_45 hok Hg.2.1 (j := fm40 (((V lg 4) - (nI 1)) - (a1))) (by omega) ?_
  exact q_iret dX3_look_46 rfl (rfl) (hQ _ _ (by dsimp only [vX3_look_0]) (hok))
def vX3_look_1 (lg : Nat) (a1 : Int32) (V : q_V) : Int32 := (V (lg + 2) (fm40 (((V lg 4) - (nI 1)) - (a1))))
set_option maxRecDepth 20000 in
set_option maxHeartbeats 4000000 in
theorem eX3_look_1 (Sc : q_S) (Γ : Nat → q_K) (n : Nat) (V : q_V) (lg : Nat) (Hg : sLg Γ lg) (a1 : Int32) : q_fn Sc Γ mX3_look [.ref lg, .int (a1), .int (nI 1)] n V (some (.int (vX3_look_1 lg a1 V))) V := by
  refine q_fn.of fun Q h hQ hok => ?_
  show q_A Sc mX3_look 0 [.ref lg, .int (a1), .int (nI 1), .retAddr 0] [] h n 0 0 Q
  refine q_aload_n dX3_look_0 rfl ?_
  refine v_geti 4 kX3 (by decide) wPX3_24 dX3_look_1 hok Hg.1 rfl ?_
  refine q_iconst (v := nI 1) dX3_look_4 rfl ?_
  refine q_isub dX3_look_5 ?_
  refine q_iload_n dX3_look_6 rfl ?_
  refine q_isub dX3_look_7 ?_
  refine q_bipush (v := nI 40) dX3_look_8 rfl ?_
  refine v_callS (M' := mJ9_floorMod_7cf53) [.int (((V lg 4) - (nI 1)) - (a1)), .int (nI 40)] [] dX3_look_10 wPX3_31 wTJ9_floorMod_7cf53 wNJ9 iJ9_floorMod_7cf53 oJ9_floorMod_7cf53 rfl hok (eJ9_fm Sc Γ n V (((V lg 4) - (nI 1)) - (a1))) (Nat.le_of_ble_eq_true rfl) (Nat.le_of_ble_eq_true rfl) (Nat.le_of_ble_eq_true rfl) rfl (fun h hok => ?_)
  have hfm70 := fm40_lt (((V lg 4) - (nI 1)) - (a1))
  refine t_istore [.ref lg, .int (a1), .int (nI 1), .int (nI (fm40 (((V lg 4) - (nI 1)) - (a1))))] (Or.inl ⟨3, rfl, rfl, dX3_look_13⟩) (by decide) rfl ?_
  refine q_iload_n dX3_look_14 rfl ?_
  refine q_tableIn (off := 32) (tgt := 47) dX3_look_15 (by decide) (by decide) (by decide) (by decide) ?_
  refine q_aload_n dX3_look_47 rfl ?_
  refine v_getr 1 kX3 (by decide) wPX3_15 dX3_look_48 hok Hg.1 rfl ?_
  refine q_iload_n dX3_look_51 rfl ?_
  refine v_iald (by decide) dX3_look_52 hok Hg.2.2.1 (j := fm40 (((V lg 4) - (nI 1)) - (a1))) (by omega) ?_
  exact q_iret dX3_look_53 rfl (rfl) (hQ _ _ (by dsimp only [vX3_look_1]) (hok))
def vX3_look_2 (lg : Nat) (a1 : Int32) (V : q_V) : Int32 := (V (lg + 3) (fm40 (((V lg 4) - (nI 1)) - (a1))))
set_option maxRecDepth 20000 in
set_option maxHeartbeats 4000000 in
theorem eX3_look_2 (Sc : q_S) (Γ : Nat → q_K) (n : Nat) (V : q_V) (lg : Nat) (Hg : sLg Γ lg) (a1 : Int32) : q_fn Sc Γ mX3_look [.ref lg, .int (a1), .int (nI 2)] n V (some (.int (vX3_look_2 lg a1 V))) V := by
  refine q_fn.of fun Q h hQ hok => ?_
  show q_A Sc mX3_look 0 [.ref lg, .int (a1), .int (nI 2), .retAddr 0] [] h n 0 0 Q
  refine q_aload_n dX3_look_0 rfl ?_
  refine v_geti 4 kX3 (by decide) wPX3_24 dX3_look_1 hok Hg.1 rfl ?_
  refine q_iconst (v := nI 1) dX3_look_4 rfl ?_
  refine q_isub dX3_look_5 ?_
  refine q_iload_n dX3_look_6 rfl ?_
  refine q_isub dX3_look_7 ?_
  refine q_bipush (v := nI 40) dX3_look_8 rfl ?_
  refine v_callS (M' := mJ9_floorMod_7cf53) [.int (((V lg 4) - (nI 1)) - (a1)), .int (nI 40)] [] dX3_look_10 wPX3_31 wTJ9_floorMod_7cf53 wNJ9 iJ9_floorMod_7cf53 oJ9_floorMod_7cf53 rfl hok (eJ9_fm Sc Γ n V (((V lg 4) - (nI 1)) - (a1))) (Nat.le_of_ble_eq_true rfl) (Nat.le_of_ble_eq_true rfl) (Nat.le_of_ble_eq_true rfl) rfl (fun h hok => ?_)
  have hfm71 := fm40_lt (((V lg 4) - (nI 1)) - (a1))
  refine t_istore [.ref lg, .int (a1), .int (nI 2), .int (nI (fm40 (((V lg 4) - (nI 1)) - (a1))))] (Or.inl ⟨3, rfl, rfl, dX3_look_13⟩) (by decide) rfl ?_
  refine q_iload_n dX3_look_14 rfl ?_
  refine q_tableIn (off := 39) (tgt := 54) dX3_look_15 (by decide) (by decide) (by decide) (by decide) ?_
  refine q_aload_n dX3_look_54 rfl ?_
  refine v_getr 2 kX3 (by decide) wPX3_18 dX3_look_55 hok Hg.1 rfl ?_
  refine q_iload_n dX3_look_58 rfl ?_
  refine v_iald (by decide) dX3_look_59 hok Hg.2.2.2.1 (j := fm40 (((V lg 4) - (nI 1)) - (a1))) (by omega) ?_
  exact q_iret dX3_look_60 rfl (rfl) (hQ _ _ (by dsimp only [vX3_look_2]) (hok))
def vX3_look_3 (lg : Nat) (a1 : Int32) (V : q_V) : Int32 := (V (lg + 4) (fm40 (((V lg 4) - (nI 1)) - (a1))))
set_option maxRecDepth 20000 in
set_option maxHeartbeats 4000000 in
theorem eX3_look_3 (Sc : q_S) (Γ : Nat → q_K) (n : Nat) (V : q_V) (lg : Nat) (Hg : sLg Γ lg) (a1 : Int32) : q_fn Sc Γ mX3_look [.ref lg, .int (a1), .int (nI 3)] n V (some (.int (vX3_look_3 lg a1 V))) V := by
  refine q_fn.of fun Q h hQ hok => ?_
  show q_A Sc mX3_look 0 [.ref lg, .int (a1), .int (nI 3), .retAddr 0] [] h n 0 0 Q
  refine q_aload_n dX3_look_0 rfl ?_
  refine v_geti 4 kX3 (by decide) wPX3_24 dX3_look_1 hok Hg.1 rfl ?_
  refine q_iconst (v := nI 1) dX3_look_4 rfl ?_
  refine q_isub dX3_look_5 ?_
  refine q_iload_n dX3_look_6 rfl ?_
  refine q_isub dX3_look_7 ?_
  refine q_bipush (v := nI 40) dX3_look_8 rfl ?_
  refine v_callS (M' := mJ9_floorMod_7cf53) [.int (((V lg 4) - (nI 1)) - (a1)), .int (nI 40)] [] dX3_look_10 wPX3_31 wTJ9_floorMod_7cf53 wNJ9 iJ9_floorMod_7cf53 oJ9_floorMod_7cf53 rfl hok (eJ9_fm Sc Γ n V (((V lg 4) - (nI 1)) - (a1))) (Nat.le_of_ble_eq_true rfl) (Nat.le_of_ble_eq_true rfl) (Nat.le_of_ble_eq_true rfl) rfl (fun h hok => ?_)
  have hfm72 := fm40_lt (((V lg 4) - (nI 1)) - (a1))
  refine t_istore [.ref lg, .int (a1), .int (nI 3), .int (nI (fm40 (((V lg 4) - (nI 1)) - (a1))))] (Or.inl ⟨3, rfl, rfl, dX3_look_13⟩) (by decide) rfl ?_
  refine q_iload_n dX3_look_14 rfl ?_
  refine q_tableOut (tgt := 61) dX3_look_15 (by decide) (by decide) ?_
  refine q_aload_n dX3_look_61 rfl ?_
  refine v_getr 3 kX3 (by decide) wPX3_21 dX3_look_62 hok Hg.1 rfl ?_
  refine q_iload_n dX3_look_65 rfl ?_
  refine v_iald (by decide) dX3_look_66 hok Hg.2.2.2.2 (j := fm40 (((V lg 4) - (nI 1)) - (a1))) (by omega) ?_
  exact q_iret dX3_look_67 rfl (rfl) (hQ _ _ (by dsimp only [vX3_look_3]) (hok))
def fX2_reset (i : Nat) (V : q_V) : q_V := let B73 := fun (k73 : Nat) (s73 : q_V) => let W73 := s73; let V75 := vset W73 (i + 1) k73 (nI 0); let V76 := vset V75 (i + 2) k73 (nI 0); V76; let T73 := lp B73 8 0 V; T73
set_option maxRecDepth 20000 in
set_option maxHeartbeats 4000000 in
theorem eX2_reset (Sc : q_S) (Γ : Nat → q_K) (n : Nat) (V : q_V) (i : Nat) (H : sMb Γ i) : q_fn Sc Γ mX2_reset [.ref i] n V none (fX2_reset i V) := by
  refine q_fn.of fun Q h hQ hok => ?_
  show q_A Sc mX2_reset 0 [.ref i, .retAddr 0] [] h n 0 0 Q
  refine q_iconst (v := nI 0) dX2_reset_0 rfl ?_
  refine t_istore [.ref i, .int (nI 0)] (Or.inl ⟨1, rfl, rfl, dX2_reset_1⟩) (by decide) rfl ?_
  obtain ⟨B73, hB73⟩ : ∃ B_ : Nat → q_V → q_V, B_ = (fun (k73 : Nat) (s73 : q_V) => let W73 := s73; (vset (vset W73 (i + 1) k73 (nI 0)) (i + 2) k73 (nI 0))) := ⟨_, rfl⟩
  have hl73 : ∀ (d73 k73 : Nat) (W73 : q_V) (h : q_H), k73 + d73 = 8 → lp B73 d73 k73 W73 = (lp B73 8 0 V) → q_ok (gX Γ W73) h → q_A Sc mX2_reset 2 [.ref i, .int (nI k73)] [] h n 0 0 Q := by
    intro d73
    induction d73 with
    | zero =>
      intro k73  W73 h e73 hT73 hok
      have hT73 : W73 = (lp B73 8 0 V) := hT73
      subst hT73
      refine q_iload_n dX2_reset_2 rfl ?_
      refine q_bipush (v := nI 8) dX2_reset_3 rfl ?_
      refine t_icmp_ge_n (tgt := 28) (by omega) (by omega) dX2_reset_5 (by decide) (fun c77 => ?_) (fun c77 => ?_)
      rotate_left
      · exact absurd c77 (by omega)
      exact q_vret dX2_reset_28 rfl (hQ _ _ (rfl) (by subst hB73; dsimp only [fX2_reset]; exact hok))
    | succ d73 ih73 =>
      intro k73  W73 h e73 hT73 hok
      refine q_iload_n dX2_reset_2 rfl ?_
      refine q_bipush (v := nI 8) dX2_reset_3 rfl ?_
      refine t_icmp_ge_n (tgt := 28) (by omega) (by omega) dX2_reset_5 (by decide) (fun c74 => ?_) (fun c74 => ?_)
      · exact absurd c74 (by omega)
      refine q_aload_n dX2_reset_8 rfl ?_
      refine v_getr 0 kX2 (by decide) wPX2_9 dX2_reset_9 hok H.1 rfl ?_
      refine q_iload_n dX2_reset_12 rfl ?_
      refine q_iconst (v := nI 0) dX2_reset_13 rfl ?_
      refine v_iast (by decide) dX2_reset_14 hok H.2.1 (j := k73) (by omega) (fun h hok => ?_)
      refine q_aload_n dX2_reset_15 rfl ?_
      refine v_getr 1 kX2 (by decide) wPX2_15 dX2_reset_16 hok H.1 rfl ?_
      refine q_iload_n dX2_reset_19 rfl ?_
      refine q_iconst (v := nI 0) dX2_reset_20 rfl ?_
      refine v_zast (by decide) dX2_reset_21 hok H.2.2 (j := k73) (by omega) rfl (fun h hok => ?_)
      refine t_iinc_n [.ref i, .int (nI (k73 + 1))] dX2_reset_22 rfl (by decide) rfl ?_
      refine q_goto (tgt := 2) dX2_reset_25 (by decide) ?_
      exact ih73 (k73 + 1) ((vset (vset W73 (i + 1) k73 (nI 0)) (i + 2) k73 (nI 0))) h (by omega) ((congrArg (lp B73 d73 (k73 + 1)) (show (vset (vset W73 (i + 1) k73 (nI 0)) (i + 2) k73 (nI 0)) = B73 k73 W73 from by rw [hB73] <;> dsimp only)).trans hT73) hok
  exact hl73 8 0  V h (by omega) rfl hok
