theorem hat0a : ∀ w ∈ vx_atS "GroupFilters" 149 "java/lang/IndexOutOfBoundsException" ["java/lang/RuntimeException", "java/lang/Exception"], w ∈ lw_tbl := by decide +kernel
theorem hat0b : ∀ w ∈ vx_atS "GroupFilters" 149 "java/lang/IndexOutOfBoundsException" ["java/lang/RuntimeException", "java/lang/Exception"], q_okw w = true := by decide +kernel
theorem hat1a : ∀ w ∈ vx_atS "GroupFilters" 156 "java/lang/IllegalArgumentException" ["java/lang/RuntimeException", "java/lang/Exception"], w ∈ lw_tbl := by decide +kernel
theorem hat1b : ∀ w ∈ vx_atS "GroupFilters" 156 "java/lang/IllegalArgumentException" ["java/lang/RuntimeException", "java/lang/Exception"], q_okw w = true := by decide +kernel
theorem hatk0 : q_in (Cond.classLink "GroupFilters" 145 "java/lang/IndexOutOfBoundsException") := q_in_at 234 (by decide +kernel) rfl
theorem hatk1 : q_in (Cond.classLink "GroupFilters" 152 "java/lang/IllegalArgumentException") := q_in_at 304 (by decide +kernel) rfl
theorem hatn0 : q_in (Cond.initialized "java/lang/IndexOutOfBoundsException") := q_in_at 41 (by decide +kernel) rfl
theorem hatn1 : q_in (Cond.initialized "java/lang/IllegalArgumentException") := q_in_at 42 (by decide +kernel) rfl
theorem hatg0 : ∀ w ∈ Cond.classLink "GroupFilters" 145 "java/lang/IndexOutOfBoundsException" :: Cond.initialized "java/lang/IndexOutOfBoundsException" :: vx_atS "GroupFilters" 149 "java/lang/IndexOutOfBoundsException" ["java/lang/RuntimeException", "java/lang/Exception"], vx_ot w = true := by decide +kernel
theorem hatg1 : ∀ w ∈ Cond.classLink "GroupFilters" 152 "java/lang/IllegalArgumentException" :: Cond.initialized "java/lang/IllegalArgumentException" :: vx_atS "GroupFilters" 156 "java/lang/IllegalArgumentException" ["java/lang/RuntimeException", "java/lang/Exception"], vx_ot w = true := by decide +kernel
theorem sX4_checkIndex (Sc : q_S) (Γ : Nat → q_K) (n : Nat) (a0 a1 : Int32) : q_safe Sc Γ mX4_checkIndex [.int a0, .int a1] n 1 6 (q_RC0 a0 a1) := by
  intro h hok
  show q_A Sc mX4_checkIndex 0 [.int a0, .int a1] [] h n 1 6 (fun O h' n' => q_RC0 a0 a1 O ∧ q_ok Γ h' ∧ n' = n)
  have hthrow : q_A Sc mX4_checkIndex 9 [.int a0, .int a1] [] h n 1 6 (fun O h' n' => q_RC0 a0 a1 O ∧ q_ok Γ h' ∧ n' = n) :=
    q_throw (x := 0) (names := ["java/lang/RuntimeException", "java/lang/Exception"]) rfl (Or.inl ⟨rfl, rfl, rfl, rfl⟩) (by decide +kernel) (by decide +kernel) hatk0 hatn0 (fun w hw => ⟨hat0a w hw, hat0b w hw⟩) hatg0 dX4_checkIndex_9 dX4_checkIndex_12 dX4_checkIndex_13 dX4_checkIndex_15 dX4_checkIndex_18 rfl (Nat.le_of_ble_eq_true rfl) (Nat.le_of_ble_eq_true rfl) (Nat.le_refl _) (Nat.le_refl _) ⟨Or.inr rfl, hok, rfl⟩
  refine q_iload_n dX4_checkIndex_0 rfl ?_
  refine q_if_lt (tgt := 9) dX4_checkIndex_1 (by decide) (fun c1 => hthrow) (fun c1 => ?_)
  refine q_iload_n dX4_checkIndex_4 rfl ?_
  refine q_iload_n dX4_checkIndex_5 rfl ?_
  refine q_icmp_lt (tgt := 19) dX4_checkIndex_6 (by decide) (fun c2 => ?_) (fun c2 => hthrow)
  exact q_vret dX4_checkIndex_19 rfl ⟨Or.inl ⟨rfl, c1, fun q => by rw [Int32.lt_iff_toInt_lt] at c2; rw [Int32.le_iff_toInt_le] at q; omega⟩, hok, rfl⟩
theorem sX4_checkNumber (Sc : q_S) (Γ : Nat → q_K) (n : Nat) (a0 a1 a2 : Int32) : q_safe Sc Γ mX4_checkNumber [.int a0, .int a1, .int a2] n 1 6 (q_RC1 a0 a1 a2) := by
  intro h hok
  show q_A Sc mX4_checkNumber 0 [.int a0, .int a1, .int a2] [] h n 1 6 (fun O h' n' => q_RC1 a0 a1 a2 O ∧ q_ok Γ h' ∧ n' = n)
  have hthrow : q_A Sc mX4_checkNumber 10 [.int a0, .int a1, .int a2] [] h n 1 6 (fun O h' n' => q_RC1 a0 a1 a2 O ∧ q_ok Γ h' ∧ n' = n) :=
    q_throw (x := 1) (names := ["java/lang/RuntimeException", "java/lang/Exception"]) rfl (Or.inr ⟨rfl, rfl, rfl, rfl⟩) (by decide +kernel) (by decide +kernel) hatk1 hatn1 (fun w hw => ⟨hat1a w hw, hat1b w hw⟩) hatg1 dX4_checkNumber_10 dX4_checkNumber_13 dX4_checkNumber_14 dX4_checkNumber_16 dX4_checkNumber_19 rfl (Nat.le_of_ble_eq_true rfl) (Nat.le_of_ble_eq_true rfl) (Nat.le_refl _) (Nat.le_refl _) ⟨Or.inr rfl, hok, rfl⟩
  refine q_iload_n dX4_checkNumber_0 rfl ?_
  refine q_iload_n dX4_checkNumber_1 rfl ?_
  refine q_icmp_lt (tgt := 10) dX4_checkNumber_2 (by decide) (fun c1 => hthrow) (fun c1 => ?_)
  refine q_iload_n dX4_checkNumber_5 rfl ?_
  refine q_iload_n dX4_checkNumber_6 rfl ?_
  refine q_icmp_le (tgt := 20) dX4_checkNumber_7 (by decide) (fun c2 => ?_) (fun c2 => hthrow)
  exact q_vret dX4_checkNumber_20 rfl ⟨Or.inl ⟨rfl, c1, fun q => by rw [Int32.le_iff_toInt_le] at c2; rw [Int32.lt_iff_toInt_lt] at q; omega⟩, hok, rfl⟩
theorem q_chk2 {a : Int32} {B : Nat} (hB : B < 2 ^ 30) (h1 : ¬ a < nI 0) (h2 : ¬ nI B < a) : ∃ g, g ≤ B ∧ a = nI g := by
  rw [Int32.lt_iff_toInt_lt, nI_toInt (by decide)] at h1
  rw [Int32.lt_iff_toInt_lt, nI_toInt (by omega)] at h2
  obtain ⟨g, hg, e⟩ := vp_in_of (vp_in_iff.mpr ⟨by omega, by omega⟩ : vp_in a (B + 1)) (by omega)
  exact ⟨g, by omega, e⟩
def q_RP (l g s : Int32) (many : Nat) : q_O → Prop := fun O => (O = .inl none ∧ (∃ j, j < many ∧ l = nI j) ∧ (∃ j, j < 8 ∧ g = nI j) ∧ ∃ j, j < 16 ∧ s = nI j) ∨ O = .inr 0
theorem q_RP.v {l g s : Int32} {many : Nat} {v : Option Value} (h : q_RP l g s many (.inl v)) : v = none ∧ (∃ j, j < many ∧ l = nI j) ∧ (∃ j, j < 8 ∧ g = nI j) ∧ ∃ j, j < 16 ∧ s = nI j := by
  rcases h with ⟨h, h2⟩ | h
  · exact ⟨Sum.inl.inj h, h2⟩
  · cases h
theorem q_RP.x {l g s : Int32} {many v : Nat} (h : q_RP l g s many (.inr v)) : v = 0 := by
  rcases h with ⟨h, h2⟩ | h
  · cases h
  · exact Sum.inr.inj h
def q_RF (Γ : Nat → q_K) : q_O → Prop := fun O => (∃ j, O = .inl (some (.ref j)) ∧ kF Γ j) ∨ O = .inr 0
theorem q_RF.v {Γ : Nat → q_K} {v : Option Value} (h : q_RF Γ (.inl v)) : ∃ j, v = some (.ref j) ∧ kF Γ j := by
  rcases h with ⟨j, h, h2⟩ | h
  · exact ⟨j, Sum.inl.inj h, h2⟩
  · cases h
theorem q_RF.x {Γ : Nat → q_K} {v : Nat} (h : q_RF Γ (.inr v)) : v = 0 := by
  rcases h with ⟨j, h, h2⟩ | h
  · cases h
  · exact Sum.inr.inj h
theorem q_XI.v {k : Nat → Prop} {v : Option Value} (h : q_XI k (.inl v)) : ∃ x, v = some (.int x) := by
  rcases h with ⟨x, h⟩ | ⟨x, h, -⟩
  · exact ⟨x, Sum.inl.inj h⟩
  · cases h
theorem q_XI.x {k : Nat → Prop} {v : Nat} (h : q_XI k (.inr v)) : k v := by
  rcases h with ⟨x, h⟩ | ⟨x, h, h2⟩
  · cases h
  · rw [Sum.inr.inj h]; exact h2
theorem q_XB.v {k : Nat → Prop} {v : Option Value} (h : q_XB k (.inl v)) : ∃ x, v = some (.int x) ∧ q_bl x := by
  rcases h with ⟨x, h, h2⟩ | ⟨x, h, -⟩
  · exact ⟨x, Sum.inl.inj h, h2⟩
  · cases h
theorem q_XB.x {k : Nat → Prop} {v : Nat} (h : q_XB k (.inr v)) : k v := by
  rcases h with ⟨x, h, -⟩ | ⟨x, h, h2⟩
  · cases h
  · rw [Sum.inr.inj h]; exact h2

set_option maxRecDepth 20000 in
set_option maxHeartbeats 4000000 in
theorem sX4_checkPlace (Sc : q_S) (Γ : Nat → q_K) (n : Nat) {a0 many : Nat} (b0 : kGF Γ a0 many) (hm1 : 1 ≤ many) (hm4 : many ≤ 4) (a1 : Int32) (a2 : Int32) (a3 : Int32) : q_safe Sc Γ mX4_checkPlace [.ref a0, .int (a1), .int (a2), .int (a3)] n 3 18 (q_RP a1 a2 a3 many) := by
  intro h hok
  show q_A Sc mX4_checkPlace 0 [.ref a0, .int (a1), .int (a2), .int (a3)] [] h n 3 18 (fun O h' n' => (q_RP a1 a2 a3 many) O ∧ q_ok Γ h' ∧ n' = n)
  refine q_iload_n dX4_checkPlace_0 rfl ?_
  refine q_aload_n dX4_checkPlace_1 rfl ?_
  obtain ⟨pu369, qu369, ru369, gu369, au369, bu369, cu369, du369⟩ := id b0
  refine t_getr 0 kX4 (by decide) wPX4_20 dX4_checkPlace_2 hok gu369 rfl ?_
  refine t_alen dX4_checkPlace_5 hok au369 rfl ?_
  refine t_callS (M' := mX4_checkIndex) [.int (a1), .int (nI (ru369.length))] [] dX4_checkPlace_6 wPX4_34 wTX4_checkIndex wNX4 iX4_checkIndex oX4_checkIndex rfl hok (sX4_checkIndex Sc Γ n (a1) (nI (ru369.length))) (Nat.le_of_ble_eq_true rfl) (Nat.le_of_ble_eq_true rfl) (Nat.le_of_ble_eq_true rfl) (Nat.le_of_ble_eq_true rfl) (Nat.le_of_ble_eq_true rfl) rfl (fun v370 h qv370 hok => ?_) (fun e371 h qe371 hok => ?_)
  rotate_left
  · exact t_out rfl ⟨Or.inr (by rw [q_RC0.x qe371]), hok, rfl⟩
  obtain ⟨rfl, c372a, c372b⟩ := q_RC0.v qv370
  obtain ⟨g373, hg373, rfl⟩ := q_chk (by omega) c372a c372b
  refine q_iload_n dX4_checkPlace_9 rfl ?_
  refine q_bipush (v := nI 8) dX4_checkPlace_10 rfl ?_
  refine t_callS (M' := mX4_checkIndex) [.int (a2), .int (nI 8)] [] dX4_checkPlace_12 wPX4_34 wTX4_checkIndex wNX4 iX4_checkIndex oX4_checkIndex rfl hok (sX4_checkIndex Sc Γ n (a2) (nI 8)) (Nat.le_of_ble_eq_true rfl) (Nat.le_of_ble_eq_true rfl) (Nat.le_of_ble_eq_true rfl) (Nat.le_of_ble_eq_true rfl) (Nat.le_of_ble_eq_true rfl) rfl (fun v374 h qv374 hok => ?_) (fun e375 h qe375 hok => ?_)
  rotate_left
  · exact t_out rfl ⟨Or.inr (by rw [q_RC0.x qe375]), hok, rfl⟩
  obtain ⟨rfl, c376a, c376b⟩ := q_RC0.v qv374
  obtain ⟨g377, hg377, rfl⟩ := q_chk (by omega) c376a c376b
  refine q_iload_n dX4_checkPlace_15 rfl ?_
  refine q_bipush (v := nI 16) dX4_checkPlace_16 rfl ?_
  refine t_callS (M' := mX4_checkIndex) [.int (a3), .int (nI 16)] [] dX4_checkPlace_18 wPX4_34 wTX4_checkIndex wNX4 iX4_checkIndex oX4_checkIndex rfl hok (sX4_checkIndex Sc Γ n (a3) (nI 16)) (Nat.le_of_ble_eq_true rfl) (Nat.le_of_ble_eq_true rfl) (Nat.le_of_ble_eq_true rfl) (Nat.le_of_ble_eq_true rfl) (Nat.le_of_ble_eq_true rfl) rfl (fun v378 h qv378 hok => ?_) (fun e379 h qe379 hok => ?_)
  rotate_left
  · exact t_out rfl ⟨Or.inr (by rw [q_RC0.x qe379]), hok, rfl⟩
  obtain ⟨rfl, c380a, c380b⟩ := q_RC0.v qv378
  obtain ⟨g381, hg381, rfl⟩ := q_chk (by omega) c380a c380b
  exact q_vret dX4_checkPlace_21 rfl ⟨Or.inl ⟨rfl, ⟨_, by omega, rfl⟩, ⟨_, by omega, rfl⟩, ⟨_, by omega, rfl⟩⟩, hok, rfl⟩
set_option maxRecDepth 20000 in
set_option maxHeartbeats 4000000 in
theorem sX4_filterAt (Sc : q_S) (Γ : Nat → q_K) (n : Nat) {a0 many : Nat} (b0 : kGF Γ a0 many) (hm1 : 1 ≤ many) (hm4 : many ≤ 4) (a1 : Int32) (a2 : Int32) : q_safe Sc Γ mX4_filterAt [.ref a0, .int (a1), .int (a2)] n 2 12 (q_RF Γ) := by
  intro h hok
  show q_A Sc mX4_filterAt 0 [.ref a0, .int (a1), .int (a2)] [] h n 2 12 (fun O h' n' => (q_RF Γ) O ∧ q_ok Γ h' ∧ n' = n)
  refine q_iload_n dX4_filterAt_0 rfl ?_
  refine q_aload_n dX4_filterAt_1 rfl ?_
  obtain ⟨pu382, qu382, ru382, gu382, au382, bu382, cu382, du382⟩ := id b0
  refine t_getr 0 kX4 (by decide) wPX4_20 dX4_filterAt_2 hok gu382 rfl ?_
  refine t_alen dX4_filterAt_5 hok au382 rfl ?_
  refine t_callS (M' := mX4_checkIndex) [.int (a1), .int (nI (ru382.length))] [] dX4_filterAt_6 wPX4_34 wTX4_checkIndex wNX4 iX4_checkIndex oX4_checkIndex rfl hok (sX4_checkIndex Sc Γ n (a1) (nI (ru382.length))) (Nat.le_of_ble_eq_true rfl) (Nat.le_of_ble_eq_true rfl) (Nat.le_of_ble_eq_true rfl) (Nat.le_of_ble_eq_true rfl) (Nat.le_of_ble_eq_true rfl) rfl (fun v383 h qv383 hok => ?_) (fun e384 h qe384 hok => ?_)
  rotate_left
  · exact t_out rfl ⟨Or.inr (by rw [q_RC0.x qe384]), hok, rfl⟩
  obtain ⟨rfl, c385a, c385b⟩ := q_RC0.v qv383
  obtain ⟨g386, hg386, rfl⟩ := q_chk (by omega) c385a c385b
  refine q_iload_n dX4_filterAt_9 rfl ?_
  refine q_bipush (v := nI 8) dX4_filterAt_10 rfl ?_
  refine t_callS (M' := mX4_checkIndex) [.int (a2), .int (nI 8)] [] dX4_filterAt_12 wPX4_34 wTX4_checkIndex wNX4 iX4_checkIndex oX4_checkIndex rfl hok (sX4_checkIndex Sc Γ n (a2) (nI 8)) (Nat.le_of_ble_eq_true rfl) (Nat.le_of_ble_eq_true rfl) (Nat.le_of_ble_eq_true rfl) (Nat.le_of_ble_eq_true rfl) (Nat.le_of_ble_eq_true rfl) rfl (fun v387 h qv387 hok => ?_) (fun e388 h qe388 hok => ?_)
  rotate_left
  · exact t_out rfl ⟨Or.inr (by rw [q_RC0.x qe388]), hok, rfl⟩
  obtain ⟨rfl, c389a, c389b⟩ := q_RC0.v qv387
  obtain ⟨g390, hg390, rfl⟩ := q_chk (by omega) c389a c389b
  refine q_aload_n dX4_filterAt_15 rfl ?_
  refine t_getr 0 kX4 (by decide) wPX4_20 dX4_filterAt_16 hok gu382 rfl ?_
  refine q_iload_n dX4_filterAt_19 rfl ?_
  refine t_aald "GroupFilters$Link" dX4_filterAt_20 hok au382 rfl (by rw [bu382]; exact vp_in_nI (by omega) (by omega)) (fun p391 hp391 => ?_)
  have kp391 := cu382 _ _ hp391
  obtain ⟨pu392, qu392, ru392, su392, gu392, au392, bu392, cu392, du392, eu392, fu392⟩ := id kp391
  refine t_getr 1 kX1 (by decide) wPX4_89 dX4_filterAt_21 hok gu392 rfl ?_
  refine q_iload_n dX4_filterAt_24 rfl ?_
  refine t_aald "GroupFilters$Filter" dX4_filterAt_25 hok au392 rfl (by rw [bu392]; exact vp_in_nI (by omega) (by omega)) (fun p393 hp393 => ?_)
  have kp393 := cu392 _ _ hp393
  exact q_aret dX4_filterAt_26 rfl (Or.inl ⟨_, rfl⟩) ⟨Or.inl ⟨_, rfl, kp393⟩, hok, rfl⟩
set_option maxRecDepth 20000 in
set_option maxHeartbeats 4000000 in
theorem sX4_runClocks (Sc : q_S) (Γ : Nat → q_K) (n : Nat) {a0 many : Nat} (b0 : kGF Γ a0 many) (hm1 : 1 ≤ many) (hm4 : many ≤ 4) (a1 : Nat) (b1 : a1 ≤ 2000) : q_safe Sc Γ mX4_runClocks [.ref a0, .int (nI a1)] n 0 0 (q_RV) := by
  intro h hok
  show q_A Sc mX4_runClocks 0 [.ref a0, .int (nI a1), .retAddr 0, .retAddr 0, .retAddr 0, .retAddr 0] [] h n 0 0 (fun O h' n' => (q_RV) O ∧ q_ok Γ h' ∧ n' = n)
  refine q_iload_n dX4_runClocks_0 rfl ?_
  refine t_istore [.ref a0, .int (nI a1), .int (nI a1), .retAddr 0, .retAddr 0, .retAddr 0] (Or.inl ⟨2, rfl, rfl, dX4_runClocks_1⟩) (by decide) rfl ?_
  refine q_iconst (v := nI 0) dX4_runClocks_2 rfl ?_
  refine t_istore [.ref a0, .int (nI a1), .int (nI a1), .int (nI 0), .retAddr 0, .retAddr 0] (Or.inl ⟨3, rfl, rfl, dX4_runClocks_3⟩) (by decide) rfl ?_
  obtain ⟨pu394, qu394, ru394, gu394, au394, bu394, cu394, du394⟩ := id b0
  have hl395 : ∀ (d397 k396 : Nat) (x398 : Int32) (h : q_H), k396 + d397 = a1 → q_ok Γ h → q_A Sc mX4_runClocks 4 [.ref a0, .int (nI a1), .int (x398), .int (nI k396), .retAddr 0, .retAddr 0] [] h n 0 0 (fun O h' n' => (q_RV) O ∧ q_ok Γ h' ∧ n' = n) := by
    intro d397
    induction d397 with
    | zero =>
      intro k396 x398 h el395 hok
      refine q_iload_n dX4_runClocks_4 rfl ?_
      refine q_iload_n dX4_runClocks_5 rfl ?_
      refine t_icmp_ge_n (tgt := 112) (by omega) (by omega) dX4_runClocks_6 (by decide) (fun c399 => ?_) (fun c399 => ?_)
      rotate_left
      · exact absurd c399 (by omega)
      exact q_vret dX4_runClocks_112 rfl ⟨rfl, hok, rfl⟩
    | succ d397 ihl395 =>
      intro k396 x398 h el395 hok
      refine q_iload_n dX4_runClocks_4 rfl ?_
      refine q_iload_n dX4_runClocks_5 rfl ?_
      refine t_icmp_ge_n (tgt := 112) (by omega) (by omega) dX4_runClocks_6 (by decide) (fun c400 => ?_) (fun c400 => ?_)
      · exact absurd c400 (by omega)
      refine q_iload_n dX4_runClocks_9 rfl ?_
      refine q_if_le (tgt := 112) dX4_runClocks_10 (by decide) (fun c401 => ?_) (fun c401 => ?_)
      ·
        exact q_vret dX4_runClocks_112 rfl ⟨rfl, hok, rfl⟩
      ·
        refine q_iload_n dX4_runClocks_13 rfl ?_
        refine t_istore [.ref a0, .int (nI a1), .int (x398), .int (nI k396), .int (x398), .retAddr 0] (Or.inr ⟨rfl, dX4_runClocks_14⟩) (by decide) rfl ?_
        refine q_iconst (v := nI 0) dX4_runClocks_16 rfl ?_
        refine t_istore [.ref a0, .int (nI a1), .int (x398), .int (nI k396), .int (x398), .int (nI 0)] (Or.inr ⟨rfl, dX4_runClocks_17⟩) (by decide) rfl ?_
        have hl402 : ∀ (d404 k403 : Nat) (x405 : Int32) (h : q_H), k403 + d404 = ru394.length → q_ok Γ h → q_A Sc mX4_runClocks 19 [.ref a0, .int (nI a1), .int (x398), .int (nI k396), .int (x405), .int (nI k403)] [] h n 0 0 (fun O h' n' => (q_RV) O ∧ q_ok Γ h' ∧ n' = n) := by
          intro d404
          induction d404 with
          | zero =>
            intro k403 x405 h el402 hok
            refine q_iload dX4_runClocks_19 rfl ?_
            refine q_aload_n dX4_runClocks_21 rfl ?_
            refine t_getr 0 kX4 (by decide) wPX4_20 dX4_runClocks_22 hok gu394 rfl ?_
            refine t_alen dX4_runClocks_25 hok au394 rfl ?_
            refine t_icmp_ge_n (tgt := 52) (by omega) (by omega) dX4_runClocks_26 (by decide) (fun c406 => ?_) (fun c406 => ?_)
            rotate_left
            · exact absurd c406 (by omega)
            refine q_aload_n dX4_runClocks_52 rfl ?_
            refine t_getr 1 kX4 (by decide) wPX4_30 dX4_runClocks_53 hok gu394 rfl ?_
            refine q_dup dX4_runClocks_56 rfl ?_
            obtain ⟨pu407, qu407, ru407, su407, gu407, au407, bu407, cu407, du407⟩ := id du394
            refine t_geti 5 kX3 (by decide) wPX4_138 dX4_runClocks_57 hok gu407 rfl (fun x408 => ?_)
            refine q_iload dX4_runClocks_60 rfl ?_
            refine q_iadd dX4_runClocks_62 ?_
            generalize (x408) + (x405) = z409
            refine t_puti 5 kX3 (by decide) wPX4_138 rfl dX4_runClocks_63 hok gu407 rfl ⟨rfl, rfl⟩ (fun h hok => ?_)
            refine q_iconst (v := nI 0) dX4_runClocks_66 rfl ?_
            refine t_istore [.ref a0, .int (nI a1), .int (x398), .int (nI k396), .int (x405), .int (nI 0)] (Or.inr ⟨rfl, dX4_runClocks_67⟩) (by decide) rfl ?_
            have hl410 : ∀ (d412 k411 : Nat) (h : q_H), k411 + d412 = ru394.length → q_ok Γ h → q_A Sc mX4_runClocks 69 [.ref a0, .int (nI a1), .int (x398), .int (nI k396), .int (x405), .int (nI k411)] [] h n 0 0 (fun O h' n' => (q_RV) O ∧ q_ok Γ h' ∧ n' = n) := by
              intro d412
              induction d412 with
              | zero =>
                intro k411  h el410 hok
                refine q_iload dX4_runClocks_69 rfl ?_
                refine q_aload_n dX4_runClocks_71 rfl ?_
                refine t_getr 0 kX4 (by decide) wPX4_20 dX4_runClocks_72 hok gu394 rfl ?_
                refine t_alen dX4_runClocks_75 hok au394 rfl ?_
                refine t_icmp_ge_n (tgt := 101) (by omega) (by omega) dX4_runClocks_76 (by decide) (fun c413 => ?_) (fun c413 => ?_)
                rotate_left
                · exact absurd c413 (by omega)
                refine q_iload_n dX4_runClocks_101 rfl ?_
                refine q_iload dX4_runClocks_102 rfl ?_
                refine q_isub dX4_runClocks_104 ?_
                generalize (x398) - (x405) = z414
                refine t_istore [.ref a0, .int (nI a1), .int (z414), .int (nI k396), .int (x405), .int (nI k411)] (Or.inl ⟨2, rfl, rfl, dX4_runClocks_105⟩) (by decide) rfl ?_
                refine t_iinc_n [.ref a0, .int (nI a1), .int (z414), .int (nI (k396 + 1)), .int (x405), .int (nI k411)] dX4_runClocks_106 rfl (by decide) rfl ?_
                refine q_goto (tgt := 4) dX4_runClocks_109 (by decide) ?_
                refine q_weak [.ref a0, .int (nI a1), .int (z414), .int (nI (k396 + 1)), .retAddr 0, .retAddr 0] ⟨Or.inl rfl, Or.inl rfl, Or.inl rfl, Or.inl rfl, Or.inr ⟨0, rfl⟩, Or.inr ⟨0, rfl⟩, trivial⟩ ?_
                exact ihl395 (k396 + 1) (z414) h (by omega) hok
              | succ d412 ihl410 =>
                intro k411  h el410 hok
                refine q_iload dX4_runClocks_69 rfl ?_
                refine q_aload_n dX4_runClocks_71 rfl ?_
                refine t_getr 0 kX4 (by decide) wPX4_20 dX4_runClocks_72 hok gu394 rfl ?_
                refine t_alen dX4_runClocks_75 hok au394 rfl ?_
                refine t_icmp_ge_n (tgt := 101) (by omega) (by omega) dX4_runClocks_76 (by decide) (fun c415 => ?_) (fun c415 => ?_)
                · exact absurd c415 (by omega)
                refine q_aload_n dX4_runClocks_79 rfl ?_
                refine t_getr 0 kX4 (by decide) wPX4_20 dX4_runClocks_80 hok gu394 rfl ?_
                refine q_iload dX4_runClocks_83 rfl ?_
                refine t_aald "GroupFilters$Link" dX4_runClocks_85 hok au394 rfl (by rw [bu394]; exact vp_in_nI (by omega) (by omega)) (fun p416 hp416 => ?_)
                have kp416 := cu394 _ _ hp416
                refine q_aload_n dX4_runClocks_86 rfl ?_
                refine t_getr 1 kX4 (by decide) wPX4_30 dX4_runClocks_87 hok gu394 rfl ?_
                refine q_iload dX4_runClocks_90 rfl ?_
                obtain ⟨pu417, qu417, ru417, su417, gu417, au417, bu417, cu417, du417, eu417, fu417⟩ := id kp416
                refine t_callV (M' := mX1_runClock) [.ref qu394, .int (x405)] [] kX1 dX4_runClocks_92 wPX4_141v wIX1_runClock wSX1_runClock iX1_runClock oX1_runClock rfl hok gu417 (sX1_runClock Sc Γ n kp416 du394 (x405)) (Nat.le_of_ble_eq_true rfl) (Nat.le_of_ble_eq_true rfl) (Nat.le_of_ble_eq_true rfl) (Nat.le_of_ble_eq_true rfl) (Nat.le_of_ble_eq_true rfl) rfl (fun v418 h qv418 hok => ?_) (fun e419 h qe419 hok => absurd qe419 (by intro q; cases q))
                obtain rfl := Sum.inl.inj qv418
                refine t_iinc_n [.ref a0, .int (nI a1), .int (x398), .int (nI k396), .int (x405), .int (nI (k411 + 1))] dX4_runClocks_95 rfl (by decide) rfl ?_
                refine q_goto (tgt := 69) dX4_runClocks_98 (by decide) ?_
                exact ihl410 (k411 + 1)  h (by omega) hok
            exact hl410 (ru394.length) 0  h (by omega) hok
          | succ d404 ihl402 =>
            intro k403 x405 h el402 hok
            refine q_iload dX4_runClocks_19 rfl ?_
            refine q_aload_n dX4_runClocks_21 rfl ?_
            refine t_getr 0 kX4 (by decide) wPX4_20 dX4_runClocks_22 hok gu394 rfl ?_
            refine t_alen dX4_runClocks_25 hok au394 rfl ?_
            refine t_icmp_ge_n (tgt := 52) (by omega) (by omega) dX4_runClocks_26 (by decide) (fun c420 => ?_) (fun c420 => ?_)
            · exact absurd c420 (by omega)
            refine q_iload dX4_runClocks_29 rfl ?_
            refine q_aload_n dX4_runClocks_31 rfl ?_
            refine t_getr 0 kX4 (by decide) wPX4_20 dX4_runClocks_32 hok gu394 rfl ?_
            refine q_iload dX4_runClocks_35 rfl ?_
            refine t_aald "GroupFilters$Link" dX4_runClocks_37 hok au394 rfl (by rw [bu394]; exact vp_in_nI (by omega) (by omega)) (fun p421 hp421 => ?_)
            have kp421 := cu394 _ _ hp421
            obtain ⟨pu422, qu422, ru422, su422, gu422, au422, bu422, cu422, du422, eu422, fu422⟩ := id kp421
            refine t_geti 7 kX1 (by decide) wPX4_128 dX4_runClocks_38 hok gu422 rfl (fun x423 => ?_)
            refine t_callS (M' := mJ9_min_7cf53) [.int (x405), .int (x423)] [] dX4_runClocks_41 wPX4_9 wTJ9_min_7cf53 wNJ9 iJ9_min_7cf53 oJ9_min_7cf53 rfl hok (sJ9_min_7cf53 Sc Γ n (x405) (x423)) (Nat.le_of_ble_eq_true rfl) (Nat.le_of_ble_eq_true rfl) (Nat.le_of_ble_eq_true rfl) (Nat.le_of_ble_eq_true rfl) (Nat.le_of_ble_eq_true rfl) rfl (fun v424 h qv424 hok => ?_) (fun e425 h qe425 hok => absurd qe425 (by intro q; obtain ⟨_, q⟩ := q; cases q))
            obtain ⟨x426, qx426⟩ := qv424
            obtain rfl := Sum.inl.inj qx426
            refine t_istore [.ref a0, .int (nI a1), .int (x398), .int (nI k396), .int (x426), .int (nI k403)] (Or.inr ⟨rfl, dX4_runClocks_44⟩) (by decide) rfl ?_
            refine t_iinc_n [.ref a0, .int (nI a1), .int (x398), .int (nI k396), .int (x426), .int (nI (k403 + 1))] dX4_runClocks_46 rfl (by decide) rfl ?_
            refine q_goto (tgt := 19) dX4_runClocks_49 (by decide) ?_
            exact ihl402 (k403 + 1) (x426) h (by omega) hok
        exact hl402 (ru394.length) 0 (x398) h (by omega) hok
  exact hl395 (a1) 0 (nI a1) h (by omega) hok
