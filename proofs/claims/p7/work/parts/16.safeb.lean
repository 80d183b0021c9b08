theorem q_xneg {x : Int32} (h : x < 0) : (x ^^^ nI 40) < 0 := by
  rw [Int32.lt_iff_toInt_lt] at h ⊢
  have h1 : x.toBitVec.toInt < 0 := h
  have h2 : x.toBitVec.msb = true := by
    rw [BitVec.msb_eq_toInt]
    exact decide_eq_true h1
  have h3 : (x ^^^ nI 40).toBitVec.msb = true := by
    rw [Int32.toBitVec_xor, BitVec.msb_xor, h2]
    rfl
  have h4 : (x ^^^ nI 40).toBitVec.toInt < 0 := by
    rw [BitVec.msb_eq_toInt] at h3
    exact of_decide_eq_true h3
  exact h4
theorem q_mod40 (x : Int32) : -40 < (x - x / nI 40 * nI 40).toInt ∧ (x - x / nI 40 * nI 40).toInt < 40 := by
  have h := rem_toInt x (nI 40)
  rw [h, nI_toInt (by decide)]
  exact tmod_bounds (by decide)
def q_R40 : q_O → Prop := fun O => ∃ g, O = .inl (some (.int (nI g))) ∧ g < 40
theorem q_mod40s (x : Int32) : (0 ≤ x.toInt → 0 ≤ (x - x / nI 40 * nI 40).toInt) ∧ (x.toInt < 0 → (x - x / nI 40 * nI 40).toInt ≤ 0) := by
  have h := rem_toInt x (nI 40)
  rw [h, nI_toInt (by decide)]
  refine ⟨fun q => Int.tmod_nonneg _ q, fun q => ?_⟩
  have h1 : 0 ≤ (-x.toInt).tmod ((40 : Nat) : Int) := Int.tmod_nonneg _ (by omega)
  rw [Int.neg_tmod] at h1
  omega
theorem q_xpos {x : Int32} (h : 0 ≤ x.toInt) : 0 ≤ (x ^^^ nI 40) := by
  have h1 : x.toBitVec.msb = false := by
    rw [BitVec.msb_eq_toInt]
    exact decide_eq_false (Int.not_lt.mpr h)
  have h3 : (x ^^^ nI 40).toBitVec.msb = false := by
    rw [Int32.toBitVec_xor, BitVec.msb_xor, h1]
    rfl
  rw [BitVec.msb_eq_toInt] at h3
  rw [Int32.le_iff_toInt_le, Int32.toInt_zero]
  exact Int.not_lt.mp (of_decide_eq_false h3)
theorem sJ9_floorMod_7cf53 (Sc : q_S) (Γ : Nat → q_K) (n : Nat) (a0 : Int32) : q_safe Sc Γ mJ9_floorMod_7cf53 [.int a0, .int (nI 40)] n 0 0 q_R40 := by
  intro h hok
  show q_A Sc mJ9_floorMod_7cf53 0 [.int a0, .int (nI 40), .retAddr 0] [] h n 0 0 (fun O h' n' => q_R40 O ∧ q_ok Γ h' ∧ n' = n)
  obtain ⟨b1, b2⟩ := q_mod40 a0
  obtain ⟨b3, b4⟩ := q_mod40s a0
  refine q_iload_n dJ9_floorMod_7cf53_0 rfl ?_
  refine q_iload_n dJ9_floorMod_7cf53_1 rfl ?_
  refine q_irem dJ9_floorMod_7cf53_2 (by decide) ?_
  generalize a0 - a0 / nI 40 * nI 40 = z at b1 b2 b3 b4 ⊢
  have hk : ∀ y : Int32, 0 ≤ y.toInt → y.toInt < 40 → q_R40 (.inl (some (.int y))) := fun y h1 h2 => by
    obtain ⟨g, hg, e⟩ := vp_in_of (vp_in_iff.mpr ⟨h1, by simpa using h2⟩ : vp_in y 40) (by decide)
    exact ⟨g, by rw [e], hg⟩
  refine t_istore [.int a0, .int (nI 40), .int z] (Or.inl ⟨2, rfl, rfl, dJ9_floorMod_7cf53_3⟩) (by decide) rfl ?_
  refine q_iload_n dJ9_floorMod_7cf53_4 rfl ?_
  refine q_iload_n dJ9_floorMod_7cf53_5 rfl ?_
  refine q_ixor dJ9_floorMod_7cf53_6 ?_
  refine q_if_ge (tgt := 18) dJ9_floorMod_7cf53_7 (by decide) (fun c1 => ?_) (fun c1 => ?_)
  · refine q_iload_n dJ9_floorMod_7cf53_18 rfl ?_
    have h0 : 0 ≤ a0.toInt := Int.not_lt.mp fun q => by
      have h9 := q_xneg (x := a0) (by rw [Int32.lt_iff_toInt_lt, Int32.toInt_zero]; exact q)
      rw [Int32.lt_iff_toInt_lt] at h9
      rw [Int32.le_iff_toInt_le] at c1
      omega
    exact q_iret dJ9_floorMod_7cf53_19 rfl rfl ⟨hk z (b3 h0) b2, hok, rfl⟩
  · have h0 : a0.toInt < 0 := Int.not_le.mp fun q => c1 (q_xpos q)
    have h5 := b4 h0
    refine q_iload_n dJ9_floorMod_7cf53_10 rfl ?_
    refine q_if_eq (tgt := 18) dJ9_floorMod_7cf53_11 (by decide) (fun c2 => ?_) (fun c2 => ?_)
    · refine q_iload_n dJ9_floorMod_7cf53_18 rfl ?_
      exact q_iret dJ9_floorMod_7cf53_19 rfl rfl ⟨hk z (by rw [c2, Int32.toInt_zero]; exact Int.le_refl _) b2, hok, rfl⟩
    · have h6 : z.toInt ≠ 0 := fun q => c2 (Int32.toInt_inj.mp (by rw [Int32.toInt_zero]; exact q))
      refine q_iload_n dJ9_floorMod_7cf53_14 rfl ?_
      refine q_iload_n dJ9_floorMod_7cf53_15 rfl ?_
      refine q_iadd dJ9_floorMod_7cf53_16 ?_
      have hs : (z + nI 40).toInt = z.toInt + 40 := by
        rw [Int32.toInt_add, nI_toInt (by decide)]
        exact Int.bmod_eq_of_le (by omega) (by omega)
      exact q_iret dJ9_floorMod_7cf53_17 rfl rfl ⟨hk _ (by omega) (by omega), hok, rfl⟩

set_option maxRecDepth 20000 in
set_option maxHeartbeats 4000000 in
theorem sX3_reset (Sc : q_S) (Γ : Nat → q_K) (n : Nat) {a0 : Nat} (b0 : kLg Γ a0) : q_safe Sc Γ mX3_reset [.ref a0] n 0 0 (q_RV) := by
  intro h hok
  show q_A Sc mX3_reset 0 [.ref a0] [] h n 0 0 (fun O h' n' => (q_RV) O ∧ q_ok Γ h' ∧ n' = n)
  refine q_aload_n dX3_reset_0 rfl ?_
  refine q_iconst (v := nI 0) dX3_reset_1 rfl ?_
  obtain ⟨pu154, qu154, ru154, su154, gu154, au154, bu154, cu154, du154⟩ := id b0
  refine t_puti 4 kX3 (by decide) wPX3_24 rfl dX3_reset_2 hok gu154 rfl ⟨rfl, rfl⟩ (fun h hok => ?_)
  refine q_aload_n dX3_reset_5 rfl ?_
  refine q_iconst (v := nI 0) dX3_reset_6 rfl ?_
  refine t_puti 5 kX3 (by decide) wPX3_28 rfl dX3_reset_7 hok gu154 rfl ⟨rfl, rfl⟩ (fun h hok => ?_)
  exact q_vret dX3_reset_10 rfl ⟨rfl, hok, rfl⟩
set_option maxRecDepth 20000 in
set_option maxHeartbeats 4000000 in
theorem sX3_add (Sc : q_S) (Γ : Nat → q_K) (n : Nat) {a0 : Nat} (b0 : kLg Γ a0) (a1 : Int32) (a2 : Int32) (a3 : Int32) : q_safe Sc Γ mX3_add [.ref a0, .int (a1), .int (a2), .int (a3)] n 0 0 (q_RV) := by
  intro h hok
  show q_A Sc mX3_add 0 [.ref a0, .int (a1), .int (a2), .int (a3), .retAddr 0] [] h n 0 0 (fun O h' n' => (q_RV) O ∧ q_ok Γ h' ∧ n' = n)
  refine q_aload_n dX3_add_0 rfl ?_
  obtain ⟨pu155, qu155, ru155, su155, gu155, au155, bu155, cu155, du155⟩ := id b0
  refine t_geti 4 kX3 (by decide) wPX3_24 dX3_add_1 hok gu155 rfl (fun x156 => ?_)
  refine q_bipush (v := nI 40) dX3_add_4 rfl ?_
  refine t_callS (M' := mJ9_floorMod_7cf53) [.int (x156), .int (nI 40)] [] dX3_add_6 wPX3_31 wTJ9_floorMod_7cf53 wNJ9 iJ9_floorMod_7cf53 oJ9_floorMod_7cf53 rfl hok (sJ9_floorMod_7cf53 Sc Γ n (x156)) (Nat.le_of_ble_eq_true rfl) (Nat.le_of_ble_eq_true rfl) (Nat.le_of_ble_eq_true rfl) (Nat.le_of_ble_eq_true rfl) (Nat.le_of_ble_eq_true rfl) rfl (fun v157 h qv157 hok => ?_) (fun e158 h qe158 hok => absurd qe158 (by intro q; obtain ⟨_, q, _⟩ := q; cases q))
  obtain ⟨g159, qg159, bg159⟩ := qv157
  obtain rfl := Sum.inl.inj qg159
  refine t_istore [.ref a0, .int (a1), .int (a2), .int (a3), .int (nI g159)] (Or.inr ⟨rfl, dX3_add_9⟩) (by decide) rfl ?_
  refine q_aload_n dX3_add_11 rfl ?_
  refine t_getr 0 kX3 (by decide) wPX3_9 dX3_add_12 hok gu155 rfl ?_
  refine q_iload dX3_add_15 rfl ?_
  refine q_iload_n dX3_add_17 rfl ?_
  refine t_iast dX3_add_18 hok au155 (by exact vp_in_nI (by omega) (by omega)) (fun h hok => ?_)
  refine q_aload_n dX3_add_19 rfl ?_
  refine t_getr 1 kX3 (by decide) wPX3_15 dX3_add_20 hok gu155 rfl ?_
  refine q_iload dX3_add_23 rfl ?_
  refine q_iload_n dX3_add_25 rfl ?_
  refine t_iast dX3_add_26 hok bu155 (by exact vp_in_nI (by omega) (by omega)) (fun h hok => ?_)
  refine q_aload_n dX3_add_27 rfl ?_
  refine t_getr 2 kX3 (by decide) wPX3_18 dX3_add_28 hok gu155 rfl ?_
  refine q_iload dX3_add_31 rfl ?_
  refine q_iload_n dX3_add_33 rfl ?_
  refine t_iast dX3_add_34 hok cu155 (by exact vp_in_nI (by omega) (by omega)) (fun h hok => ?_)
  refine q_aload_n dX3_add_35 rfl ?_
  refine t_getr 3 kX3 (by decide) wPX3_21 dX3_add_36 hok gu155 rfl ?_
  refine q_iload dX3_add_39 rfl ?_
  refine q_aload_n dX3_add_41 rfl ?_
  refine t_geti 5 kX3 (by decide) wPX3_28 dX3_add_42 hok gu155 rfl (fun x160 => ?_)
  refine t_iast dX3_add_45 hok du155 (by exact vp_in_nI (by omega) (by omega)) (fun h hok => ?_)
  refine q_aload_n dX3_add_46 rfl ?_
  refine q_dup dX3_add_47 rfl ?_
  refine t_geti 4 kX3 (by decide) wPX3_24 dX3_add_48 hok gu155 rfl (fun x161 => ?_)
  refine q_iconst (v := nI 1) dX3_add_51 rfl ?_
  refine q_iadd dX3_add_52 ?_
  generalize (x161) + (nI 1) = z162
  refine t_puti 4 kX3 (by decide) wPX3_24 rfl dX3_add_53 hok gu155 rfl ⟨rfl, rfl⟩ (fun h hok => ?_)
  exact q_vret dX3_add_56 rfl ⟨rfl, hok, rfl⟩
set_option maxRecDepth 20000 in
set_option maxHeartbeats 4000000 in
theorem sX3_look (Sc : q_S) (Γ : Nat → q_K) (n : Nat) {a0 : Nat} (b0 : kLg Γ a0) (a1 : Int32) (a2 : Int32) : q_safe Sc Γ mX3_look [.ref a0, .int (a1), .int (a2)] n 0 0 (q_RI) := by
  intro h hok
  show q_A Sc mX3_look 0 [.ref a0, .int (a1), .int (a2), .retAddr 0] [] h n 0 0 (fun O h' n' => (q_RI) O ∧ q_ok Γ h' ∧ n' = n)
  refine q_aload_n dX3_look_0 rfl ?_
  obtain ⟨pu163, qu163, ru163, su163, gu163, au163, bu163, cu163, du163⟩ := id b0
  refine t_geti 4 kX3 (by decide) wPX3_24 dX3_look_1 hok gu163 rfl (fun x164 => ?_)
  refine q_iconst (v := nI 1) dX3_look_4 rfl ?_
  refine q_isub dX3_look_5 ?_
  generalize (x164) - (nI 1) = z165
  refine q_iload_n dX3_look_6 rfl ?_
  refine q_isub dX3_look_7 ?_
  generalize (z165) - (a1) = z166
  refine q_bipush (v := nI 40) dX3_look_8 rfl ?_
  refine t_callS (M' := mJ9_floorMod_7cf53) [.int (z166), .int (nI 40)] [] dX3_look_10 wPX3_31 wTJ9_floorMod_7cf53 wNJ9 iJ9_floorMod_7cf53 oJ9_floorMod_7cf53 rfl hok (sJ9_floorMod_7cf53 Sc Γ n (z166)) (Nat.le_of_ble_eq_true rfl) (Nat.le_of_ble_eq_true rfl) (Nat.le_of_ble_eq_true rfl) (Nat.le_of_ble_eq_true rfl) (Nat.le_of_ble_eq_true rfl) rfl (fun v167 h qv167 hok => ?_) (fun e168 h qe168 hok => absurd qe168 (by intro q; obtain ⟨_, q, _⟩ := q; cases q))
  obtain ⟨g169, qg169, bg169⟩ := qv167
  obtain rfl := Sum.inl.inj qg169
  refine t_istore [.ref a0, .int (a1), .int (a2), .int (nI g169)] (Or.inl ⟨3, rfl, rfl, dX3_look_13⟩) (by decide) rfl ?_
  refine q_iload_n dX3_look_14 rfl ?_
  rcases q_sw a2 0 3 (by decide) with hw170 | ⟨jw170, hw170, ew170⟩
  ·
    refine q_tableOut (tgt := 61) dX3_look_15 (by simpa using hw170) (by decide) ?_
    refine q_aload_n dX3_look_61 rfl ?_
    refine t_getr 3 kX3 (by decide) wPX3_21 dX3_look_62 hok gu163 rfl ?_
    refine q_iload_n dX3_look_65 rfl ?_
    refine t_iald dX3_look_66 hok du163 (by exact vp_in_nI (by omega) (by omega)) (fun x171 => ?_)
    exact q_iret dX3_look_67 rfl (rfl) ⟨⟨_, rfl⟩, hok, rfl⟩
  ·
    rcases (show jw170 = 0 ∨ jw170 = 1 ∨ jw170 = 2 by omega) with rfl | rfl | rfl
    ·
      refine q_tableIn (off := 25) (tgt := 40) dX3_look_15 (by rw [ew170]; decide) (by rw [ew170]; decide) (by rw [ew170]; rfl) (by decide) ?_
      refine q_aload_n dX3_look_40 rfl ?_
      refine t_getr 0 kX3 (by decide) wPX3_9 dX3_look_41 hok gu163 rfl ?_
      refine q_iload_n dX3_look_44 rfl ?_
      refine t_iald dX3_look_45 hok au163 (by exact vp_in_nI (by omega) (by omega)) (fun x172 => ?_)
      exact q_iret dX3_look_46 rfl (rfl) ⟨⟨_, rfl⟩, hok, rfl⟩
    ·
      refine q_tableIn (off := 32) (tgt := 47) dX3_look_15 (by rw [ew170]; decide) (by rw [ew170]; decide) (by rw [ew170]; rfl) (by decide) ?_
      refine q_aload_n dX3_look_47 rfl ?_
      refine t_getr 1 kX3 (by decide) wPX3_15 dX3_look_48 hok gu163 rfl ?_
      refine q_iload_n dX3_look_51 rfl ?_
      refine t_iald dX3_look_52 hok bu163 (by exact vp_in_nI (by omega) (by omega)) (fun x173 => ?_)
      exact q_iret dX3_look_53 rfl (rfl) ⟨⟨_, rfl⟩, hok, rfl⟩
    ·
      refine q_tableIn (off := 39) (tgt := 54) dX3_look_15 (by rw [ew170]; decide) (by rw [ew170]; decide) (by rw [ew170]; rfl) (by decide) ?_
      refine q_aload_n dX3_look_54 rfl ?_
      refine t_getr 2 kX3 (by decide) wPX3_18 dX3_look_55 hok gu163 rfl ?_
      refine q_iload_n dX3_look_58 rfl ?_
      refine t_iald dX3_look_59 hok cu163 (by exact vp_in_nI (by omega) (by omega)) (fun x174 => ?_)
      exact q_iret dX3_look_60 rfl (rfl) ⟨⟨_, rfl⟩, hok, rfl⟩
