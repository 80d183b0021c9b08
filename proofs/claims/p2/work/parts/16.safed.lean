theorem hat0a : ∀ w ∈ vx_atS "GroupFilters" 149 "java/lang/IndexOutOfBoundsException" ["java/lang/RuntimeException", "java/lang/Exception"], w ∈ lw_tbl := by decide +kernel
theorem hat0b : ∀ w ∈ vx_atS "GroupFilters" 149 "java/lang/IndexOutOfBoundsException" ["java/lang/RuntimeException", "java/lang/Exception"], q_okw w = true := by decide +kernel
theorem hat1a : ∀ w ∈ vx_atS "GroupFilters" 156 "java/lang/IllegalArgumentException" ["java/lang/RuntimeException", "java/lang/Exception"], w ∈ lw_tbl := by decide +kernel
theorem hat1b : ∀ w ∈ vx_atS "GroupFilters" 156 "java/lang/IllegalArgumentException" ["java/lang/RuntimeException", "java/lang/Exception"], q_okw w = true := by decide +kernel
theorem hatk0 : q_in (Cond.classLink "GroupFilters" 145 "java/lang/IndexOutOfBoundsException") := q_in_at 234 (by decide +kernel) rfl
theorem hatk1 : q_in (Cond.classLink "GroupFilters" 152 "java/lang/IllegalArgumentException") := q_in_at 304 (by decide +kernel) rfl
theorem hatn0 : q_in (Cond.initialized "java/lang/IndexOutOfBoundsException") := q_in_at 41 (by decide +kernel) rfl
theorem hatn1 : q_in (Cond.initialized "java/lang/IllegalArgumentException") := q_in_at 42 (by decide +kernel) rfl
theorem hatg0 : ∀ w ∈ Cond.classLink "GroupFilters" 145 "java/lang/IndexOutOfBoundsException" :: Cond.initialized "java/lang/IndexOutOfBoundsException" :: vx_atS "GroupFilters" 149 "java/lang/IndexOutOfBoundsException" ["java/lang/RuntimeException", "java/lang/Exception"], vx_ot w = true := by decide +kernel
theorem hatg1 : ∀ w ∈ Cond.classLink "GroupFilters" 152 "java/lang/IllegalArgumentException" :: Cond.initialized "java/lang/IllegalArgumentException" :: vx_atS "GroupFilters" 156 "java/lang/IllegalArgumentException" ["java/lang/RuntimeException", "java/lang/Exception"], vx_ot w = true := by decide +kernel
theorem sX4_checkIndex (Sc : q_S) (Γ : Nat → q_K) (n : Nat) (a0 a1 : Int32) : q_safe Sc Γ mX4_checkIndex [.int a0, .int a1] n 1 6 (q_RC0 a0 a1) := by
  intro h hok
  show q_A Sc mX4_checkIndex 0 [.int a0, .int a1] [] h n 1 6 (fun O h' n' => q_RC0 a0 a1 O ∧ q_ok Γ h' ∧ n' = n)
  have hthrow : q_A Sc mX4_checkIndex 9 [.int a0, .int a1] [] h n 1 6 (fun O h' n' => q_RC0 a0 a1 O ∧ q_ok Γ h' ∧ n' = n) :=
    q_throw (x := 0) (names := ["java/lang/RuntimeException", "java/lang/Exception"]) rfl (Or.inl ⟨rfl, rfl, rfl, rfl⟩) (by decide +kernel) (by decide +kernel) hatk0 hatn0 (fun w hw => ⟨hat0a w hw, hat0b w hw⟩) hatg0 dX4_checkIndex_9 dX4_checkIndex_12 dX4_checkIndex_13 dX4_checkIndex_15 dX4_checkIndex_18 rfl (Nat.le_of_ble_eq_true rfl) (Nat.le_of_ble_eq_true rfl) (Nat.le_refl _) (Nat.le_refl _) ⟨Or.inr rfl, hok, rfl⟩
  refine q_iload_n dX4_checkIndex_0 rfl ?_
  refine q_if_lt (tgt := 9) dX4_checkIndex_1 (by decide) (fun c1 => hthrow) (fun c1 => ?_)
  refine q_iload_n dX4_checkIndex_4 rfl ?_
  refine q_iload_n dX4_checkIndex_5 rfl ?_
  refine q_icmp_lt (tgt := 19) dX4_checkIndex_6 (by decide) (fun c2 => ?_) (fun c2 => hthrow)
  exact q_vret dX4_checkIndex_19 rfl ⟨Or.inl ⟨rfl, c1, fun q => by rw [Int32.lt_iff_toInt_lt] at c2; rw [Int32.le_iff_toInt_le] at q; omega⟩, hok, rfl⟩
theorem sX4_checkNumber (Sc : q_S) (Γ : Nat → q_K) (n : Nat) (a0 a1 a2 : Int32) : q_safe Sc Γ mX4_checkNumber [.int a0, .int a1, .int a2] n 1 6 (q_RC1 a0 a1 a2) := by
  intro h hok
  show q_A Sc mX4_checkNumber 0 [.int a0, .int a1, .int a2] [] h n 1 6 (fun O h' n' => q_RC1 a0 a1 a2 O ∧ q_ok Γ h' ∧ n' = n)
  have hthrow : q_A Sc mX4_checkNumber 10 [.int a0, .int a1, .int a2] [] h n 1 6 (fun O h' n' => q_RC1 a0 a1 a2 O ∧ q_ok Γ h' ∧ n' = n) :=
    q_throw (x := 1) (names := ["java/lang/RuntimeException", "java/lang/Exception"]) rfl (Or.inr ⟨rfl, rfl, rfl, rfl⟩) (by decide +kernel) (by decide +kernel) hatk1 hatn1 (fun w hw => ⟨hat1a w hw, hat1b w hw⟩) hatg1 dX4_checkNumber_10 dX4_checkNumber_13 dX4_checkNumber_14 dX4_checkNumber_16 dX4_checkNumber_19 rfl (Nat.le_of_ble_eq_true rfl) (Nat.le_of_ble_eq_true rfl) (Nat.le_refl _) (Nat.le_refl _) ⟨Or.inr rfl, hok, rfl⟩
  refine q_iload_n dX4_checkNumber_0 rfl ?_
  refine q_iload_n dX4_checkNumber_1 rfl ?_
  refine q_icmp_lt (tgt := 10) dX4_checkNumber_2 (by decide) (fun c1 => hthrow) (fun c1 => ?_)
  refine q_iload_n dX4_checkNumber_5 rfl ?_
  refine q_iload_n dX4_checkNumber_6 rfl ?_
  refine q_icmp_le (tgt := 20) dX4_checkNumber_7 (by decide) (fun c2 => ?_) (fun c2 => hthrow)
  exact q_vret dX4_checkNumber_20 rfl ⟨Or.inl ⟨rfl, c1, fun q => by rw [Int32.le_iff_toInt_le] at c2; rw [Int32.lt_iff_toInt_lt] at q; omega⟩, hok, rfl⟩
theorem q_chk2 {a : Int32} {B : Nat} (hB : B < 2 ^ 30) (h1 : ¬ a < nI 0) (h2 : ¬ nI B < a) : ∃ g, g ≤ B ∧ a = nI g := by
  rw [Int32.lt_iff_toInt_lt, nI_toInt (by decide)] at h1
  rw [Int32.lt_iff_toInt_lt, nI_toInt (by omega)] at h2
  obtain ⟨g, hg, e⟩ := vp_in_of (vp_in_iff.mpr ⟨by omega, by omega⟩ : vp_in a (B + 1)) (by omega)
  exact ⟨g, by omega, e⟩
def q_RP (l g s : Int32) (many : Nat) : q_O → Prop := fun O => (O = .inl none ∧ (∃ j, j < many ∧ l = nI j) ∧ (∃ j, j < 8 ∧ g = nI j) ∧ ∃ j, j < 16 ∧ s = nI j) ∨ O = .inr 0
theorem q_RP.v {l g s : Int32} {many : Nat} {v : Option Value} (h : q_RP l g s many (.inl v)) : v = none ∧ (∃ j, j < many ∧ l = nI j) ∧ (∃ j, j < 8 ∧ g = nI j) ∧ ∃ j, j < 16 ∧ s = nI j := by
  rcases h with ⟨h, h2⟩ | h
  · exact ⟨Sum.inl.inj h, h2⟩
  · cases h
theorem q_RP.x {l g s : Int32} {many v : Nat} (h : q_RP l g s many (.inr v)) : v = 0 := by
  rcases h with ⟨h, h2⟩ | h
  · cases h
  · exact Sum.inr.inj h
def q_RF (Γ : Nat → q_K) : q_O → Prop := fun O => (∃ j, O = .inl (some (.ref j)) ∧ kF Γ j) ∨ O = .inr 0
theorem q_RF.v {Γ : Nat → q_K} {v : Option Value} (h : q_RF Γ (.inl v)) : ∃ j, v = some (.ref j) ∧ kF Γ j := by
  rcases h with ⟨j, h, h2⟩ | h
  · exact ⟨j, Sum.inl.inj h, h2⟩
  · cases h
theorem q_RF.x {Γ : Nat → q_K} {v : Nat} (h : q_RF Γ (.inr v)) : v = 0 := by
  rcases h with ⟨j, h, h2⟩ | h
  · cases h
  · exact Sum.inr.inj h
theorem q_XI.v {k : Nat → Prop} {v : Option Value} (h : q_XI k (.inl v)) : ∃ x, v = some (.int x) := by
  rcases h with ⟨x, h⟩ | ⟨x, h, -⟩
  · exact ⟨x, Sum.inl.inj h⟩
  · cases h
theorem q_XI.x {k : Nat → Prop} {v : Nat} (h : q_XI k (.inr v)) : k v := by
  rcases h with ⟨x, h⟩ | ⟨x, h, h2⟩
  · cases h
  · rw [Sum.inr.inj h]; exact h2
theorem q_XB.v {k : Nat → Prop} {v : Option Value} (h : q_XB k (.inl v)) : ∃ x, v = some (.int x) ∧ q_bl x := by
  rcases h with ⟨x, h, h2⟩ | ⟨x, h, -⟩
  · exact ⟨x, Sum.inl.inj h, h2⟩
  · cases h
theorem q_XB.x {k : Nat → Prop} {v : Nat} (h : q_XB k (.inr v)) : k v := by
  rcases h with ⟨x, h, -⟩ | ⟨x, h, h2⟩
  · cases h
  · rw [Sum.inr.inj h]; exact h2

set_option maxRecDepth 20000 in
set_option maxHeartbeats 4000000 in
theorem sX4_checkPlace (Sc : q_S) (Γ : Nat → q_K) (n : Nat) {a0 many : Nat} (b0 : kGF Γ a0 many) (hm1 : 1 ≤ many) (hm4 : many ≤ 4) (a1 : Int32) (a2 : Int32) (a3 : Int32) : q_safe Sc Γ mX4_checkPlace [.ref a0, .int (a1), .int (a2), .int (a3)] n 3 18 (q_RP a1 a2 a3 many) := by
  intro h hok
  show q_A Sc mX4_checkPlace 0 [.ref a0, .int (a1), .int (a2), .int (a3)] [] h n 3 18 (fun O h' n' => (q_RP a1 a2 a3 many) O ∧ q_ok Γ h' ∧ n' = n)
  refine q_iload_n dX4_checkPlace_0 rfl ?_
  refine q_aload_n dX4_checkPlace_1 rfl ?_
  obtain ⟨pu485, qu485, ru485, gu485, au485, bu485, cu485, du485⟩ := id b0
  refine t_getr 0 kX4 (by decide) wPX4_20 dX4_checkPlace_2 hok gu485 rfl ?_
  refine t_alen dX4_checkPlace_5 hok au485 rfl ?_
  refine t_callS (M' := mX4_checkIndex) [.int (a1), .int (nI (ru485.length))] [] dX4_checkPlace_6 wPX4_34 wTX4_checkIndex wNX4 iX4_checkIndex oX4_checkIndex rfl hok (sX4_checkIndex Sc Γ n (a1) (nI (ru485.length))) (Nat.le_of_ble_eq_true rfl) (Nat.le_of_ble_eq_true rfl) (Nat.le_of_ble_eq_true rfl) (Nat.le_of_ble_eq_true rfl) (Nat.le_of_ble_eq_true rfl) rfl (fun v486 h qv486 hok => ?_) (fun e487 h qe487 hok => ?_)
  rotate_left
  · exact t_out rfl ⟨Or.inr (by rw [q_RC0.x qe487]), hok, rfl⟩
  obtain ⟨rfl, c488a, c488b⟩ := q_RC0.v qv486
  obtain ⟨g489, hg489, rfl⟩ := q_chk (by omega) c488a c488b
  refine q_iload_n dX4_checkPlace_9 rfl ?_
  refine q_bipush (v := nI 8) dX4_checkPlace_10 rfl ?_
  refine t_callS (M' := mX4_checkIndex) [.int (a2), .int (nI 8)] [] dX4_checkPlace_12 wPX4_34 wTX4_checkIndex wNX4 iX4_checkIndex oX4_checkIndex rfl hok (sX4_checkIndex Sc Γ n (a2) (nI 8)) (Nat.le_of_ble_eq_true rfl) (Nat.le_of_ble_eq_true rfl) (Nat.le_of_ble_eq_true rfl) (Nat.le_of_ble_eq_true rfl) (Nat.le_of_ble_eq_true rfl) rfl (fun v490 h qv490 hok => ?_) (fun e491 h qe491 hok => ?_)
  rotate_left
  · exact t_out rfl ⟨Or.inr (by rw [q_RC0.x qe491]), hok, rfl⟩
  obtain ⟨rfl, c492a, c492b⟩ := q_RC0.v qv490
  obtain ⟨g493, hg493, rfl⟩ := q_chk (by omega) c492a c492b
  refine q_iload_n dX4_checkPlace_15 rfl ?_
  refine q_bipush (v := nI 16) dX4_checkPlace_16 rfl ?_
  refine t_callS (M' := mX4_checkIndex) [.int (a3), .int (nI 16)] [] dX4_checkPlace_18 wPX4_34 wTX4_checkIndex wNX4 iX4_checkIndex oX4_checkIndex rfl hok (sX4_checkIndex Sc Γ n (a3) (nI 16)) (Nat.le_of_ble_eq_true rfl) (Nat.le_of_ble_eq_true rfl) (Nat.le_of_ble_eq_true rfl) (Nat.le_of_ble_eq_true rfl) (Nat.le_of_ble_eq_true rfl) rfl (fun v494 h qv494 hok => ?_) (fun e495 h qe495 hok => ?_)
  rotate_left
  · exact t_out rfl ⟨Or.inr (by rw [q_RC0.x qe495]), hok, rfl⟩
  obtain ⟨rfl, c496a, c496b⟩ := q_RC0.v qv494
  obtain ⟨g497, hg497, rfl⟩ := q_chk (by omega) c496a c496b
  exact q_vret dX4_checkPlace_21 rfl ⟨Or.inl ⟨rfl, ⟨_, by omega, rfl⟩, ⟨_, by omega, rfl⟩, ⟨_, by omega, rfl⟩⟩, hok, rfl⟩
set_option maxRecDepth 20000 in
set_option maxHeartbeats 4000000 in
theorem sX4_filterAt (Sc : q_S) (Γ : Nat → q_K) (n : Nat) {a0 many : Nat} (b0 : kGF Γ a0 many) (hm1 : 1 ≤ many) (hm4 : many ≤ 4) (a1 : Int32) (a2 : Int32) : q_safe Sc Γ mX4_filterAt [.ref a0, .int (a1), .int (a2)] n 2 12 (q_RF Γ) := by
  intro h hok
  show q_A Sc mX4_filterAt 0 [.ref a0, .int (a1), .int (a2)] [] h n 2 12 (fun O h' n' => (q_RF Γ) O ∧ q_ok Γ h' ∧ n' = n)
  refine q_iload_n dX4_filterAt_0 rfl ?_
  refine q_aload_n dX4_filterAt_1 rfl ?_
  obtain ⟨pu498, qu498, ru498, gu498, au498, bu498, cu498, du498⟩ := id b0
  refine t_getr 0 kX4 (by decide) wPX4_20 dX4_filterAt_2 hok gu498 rfl ?_
  refine t_alen dX4_filterAt_5 hok au498 rfl ?_
  refine t_callS (M' := mX4_checkIndex) [.int (a1), .int (nI (ru498.length))] [] dX4_filterAt_6 wPX4_34 wTX4_checkIndex wNX4 iX4_checkIndex oX4_checkIndex rfl hok (sX4_checkIndex Sc Γ n (a1) (nI (ru498.length))) (Nat.le_of_ble_eq_true rfl) (Nat.le_of_ble_eq_true rfl) (Nat.le_of_ble_eq_true rfl) (Nat.le_of_ble_eq_true rfl) (Nat.le_of_ble_eq_true rfl) rfl (fun v499 h qv499 hok => ?_) (fun e500 h qe500 hok => ?_)
  rotate_left
  · exact t_out rfl ⟨Or.inr (by rw [q_RC0.x qe500]), hok, rfl⟩
  obtain ⟨rfl, c501a, c501b⟩ := q_RC0.v qv499
  obtain ⟨g502, hg502, rfl⟩ := q_chk (by omega) c501a c501b
  refine q_iload_n dX4_filterAt_9 rfl ?_
  refine q_bipush (v := nI 8) dX4_filterAt_10 rfl ?_
  refine t_callS (M' := mX4_checkIndex) [.int (a2), .int (nI 8)] [] dX4_filterAt_12 wPX4_34 wTX4_checkIndex wNX4 iX4_checkIndex oX4_checkIndex rfl hok (sX4_checkIndex Sc Γ n (a2) (nI 8)) (Nat.le_of_ble_eq_true rfl) (Nat.le_of_ble_eq_true rfl) (Nat.le_of_ble_eq_true rfl) (Nat.le_of_ble_eq_true rfl) (Nat.le_of_ble_eq_true rfl) rfl (fun v503 h qv503 hok => ?_) (fun e504 h qe504 hok => ?_)
  rotate_left
  · exact t_out rfl ⟨Or.inr (by rw [q_RC0.x qe504]), hok, rfl⟩
  obtain ⟨rfl, c505a, c505b⟩ := q_RC0.v qv503
  obtain ⟨g506, hg506, rfl⟩ := q_chk (by omega) c505a c505b
  refine q_aload_n dX4_filterAt_15 rfl ?_
  refine t_getr 0 kX4 (by decide) wPX4_20 dX4_filterAt_16 hok gu498 rfl ?_
  refine q_iload_n dX4_filterAt_19 rfl ?_
  refine t_aald "GroupFilters$Link" dX4_filterAt_20 hok au498 rfl (by rw [bu498]; exact vp_in_nI (by omega) (by omega)) (fun p507 hp507 => ?_)
  have kp507 := cu498 _ _ hp507
  obtain ⟨pu508, qu508, ru508, su508, gu508, au508, bu508, cu508, du508, eu508, fu508⟩ := id kp507
  refine t_getr 1 kX1 (by decide) wPX4_89 dX4_filterAt_21 hok gu508 rfl ?_
  refine q_iload_n dX4_filterAt_24 rfl ?_
  refine t_aald "GroupFilters$Filter" dX4_filterAt_25 hok au508 rfl (by rw [bu508]; exact vp_in_nI (by omega) (by omega)) (fun p509 hp509 => ?_)
  have kp509 := cu508 _ _ hp509
  exact q_aret dX4_filterAt_26 rfl (Or.inl ⟨_, rfl⟩) ⟨Or.inl ⟨_, rfl, kp509⟩, hok, rfl⟩
set_option maxRecDepth 20000 in
set_option maxHeartbeats 4000000 in
theorem sX4_runClocks (Sc : q_S) (Γ : Nat → q_K) (n : Nat) {a0 many : Nat} (b0 : kGF Γ a0 many) (hm1 : 1 ≤ many) (hm4 : many ≤ 4) (a1 : Nat) (b1 : a1 ≤ 2000) : q_safe Sc Γ mX4_runClocks [.ref a0, .int (nI a1)] n 0 0 (q_RV) := by
  intro h hok
  show q_A Sc mX4_runClocks 0 [.ref a0, .int (nI a1), .retAddr 0, .retAddr 0, .retAddr 0, .retAddr 0] [] h n 0 0 (fun O h' n' => (q_RV) O ∧ q_ok Γ h' ∧ n' = n)
  refine q_iload_n dX4_runClocks_0 rfl ?_
  refine t_istore [.ref a0, .int (nI a1), .int (nI a1), .retAddr 0, .retAddr 0, .retAddr 0] (Or.inl ⟨2, rfl, rfl, dX4_runClocks_1⟩) (by decide) rfl ?_
  refine q_iconst (v := nI 0) dX4_runClocks_2 rfl ?_
  refine t_istore [.ref a0, .int (nI a1), .int (nI a1), .int (nI 0), .retAddr 0, .retAddr 0] (Or.inl ⟨3, rfl, rfl, dX4_runClocks_3⟩) (by decide) rfl ?_
  obtain ⟨pu510, qu510, ru510, gu510, au510, bu510, cu510, du510⟩ := id b0
  have hl511 : ∀ (d513 k512 : Nat) (x514 : Int32) (h : q_H), k512 + d513 = a1 → q_ok Γ h → q_A Sc mX4_runClocks 4 [.ref a0, .int (nI a1), .int (x514), .int (nI k512), .retAddr 0, .retAddr 0] [] h n 0 0 (fun O h' n' => (q_RV) O ∧ q_ok Γ h' ∧ n' = n) := by
    intro d513
    induction d513 with
    | zero =>
      intro k512 x514 h el511 hok
      refine q_iload_n dX4_runClocks_4 rfl ?_
      refine q_iload_n dX4_runClocks_5 rfl ?_
      refine t_icmp_ge_n (tgt := 112) (by omega) (by omega) dX4_runClocks_6 (by decide) (fun c515 => ?_) (fun c515 => ?_)
      rotate_left
      · exact absurd c515 (by omega)
      exact q_vret dX4_runClocks_112 rfl ⟨rfl, hok, rfl⟩
    | succ d513 ihl511 =>
      intro k512 x514 h el511 hok
      refine q_iload_n dX4_runClocks_4 rfl ?_
      refine q_iload_n dX4_runClocks_5 rfl ?_
      refine t_icmp_ge_n (tgt := 112) (by omega) (by omega) dX4_runClocks_6 (by decide) (fun c516 => ?_) (fun c516 => ?_)
      · exact absurd c516 (by omega)
      refine q_iload_n dX4_runClocks_9 rfl ?_
      refine q_if_le (tgt := 112) dX4_runClocks_10 (by decide) (fun c517 => ?_) (fun c517 => ?_)
      ·
        exact q_vret dX4_runClocks_112 rfl ⟨rfl, hok, rfl⟩
      ·
        refine q_iload_n dX4_runClocks_13 rfl ?_
        refine t_istore [.ref a0, .int (nI a1), .int (x514), .int (nI k512), .int (x514), .retAddr 0] (Or.inr ⟨rfl, dX4_runClocks_14⟩) (by decide) rfl ?_
        refine q_iconst (v := nI 0) dX4_runClocks_16 rfl ?_
        refine t_istore [.ref a0, .int (nI a1), .int (x514), .int (nI k512), .int (x514), .int (nI 0)] (Or.inr ⟨rfl, dX4_runClocks_17⟩) (by decide) rfl ?_
        have hl518 : ∀ (d520 k519 : Nat) (x521 : Int32) (h : q_H), k519 + d520 = ru510.length → q_ok Γ h → q_A Sc mX4_runClocks 19 [.ref a0, .int (nI a1), .int (x514), .int (nI k512), .int (x521), .int (nI k519)] [] h n 0 0 (fun O h' n' => (q_RV) O ∧ q_ok Γ h' ∧ n' = n) := by
          intro d520
          induction d520 with
          | zero =>
            intro k519 x521 h el518 hok
            refine q_iload dX4_runClocks_19 rfl ?_
            refine q_aload_n dX4_runClocks_21 rfl ?_
            refine t_getr 0 kX4 (by decide) wPX4_20 dX4_runClocks_22 hok gu510 rfl ?_
            refine t_alen dX4_runClocks_25 hok au510 rfl ?_
            refine t_icmp_ge_n (tgt := 52) (by omega) (by omega) dX4_runClocks_26 (by decide) (fun c522 => ?_) (fun c522 => ?_)
            rotate_left
            · exact absurd c522 (by omega)
            refine q_aload_n dX4_runClocks_52 rfl ?_
            refine t_getr 1 kX4 (by decide) wPX4_30 dX4_runClocks_53 hok gu510 rfl ?_
            refine q_dup dX4_runClocks_56 rfl ?_
            obtain ⟨pu523, qu523, ru523, su523, gu523, au523, bu523, cu523, du523⟩ := id du510
            refine t_geti 5 kX3 (by decide) wPX4_138 dX4_runClocks_57 hok gu523 rfl (fun x524 => ?_)
            refine q_iload dX4_runClocks_60 rfl ?_
            refine q_iadd dX4_runClocks_62 ?_
            generalize (x524) + (x521) = z525
            refine t_puti 5 kX3 (by decide) wPX4_138 rfl dX4_runClocks_63 hok gu523 rfl ⟨rfl, rfl⟩ (fun h hok => ?_)
            refine q_iconst (v := nI 0) dX4_runClocks_66 rfl ?_
            refine t_istore [.ref a0, .int (nI a1), .int (x514), .int (nI k512), .int (x521), .int (nI 0)] (Or.inr ⟨rfl, dX4_runClocks_67⟩) (by decide) rfl ?_
            have hl526 : ∀ (d528 k527 : Nat) (h : q_H), k527 + d528 = ru510.length → q_ok Γ h → q_A Sc mX4_runClocks 69 [.ref a0, .int (nI a1), .int (x514), .int (nI k512), .int (x521), .int (nI k527)] [] h n 0 0 (fun O h' n' => (q_RV) O ∧ q_ok Γ h' ∧ n' = n) := by
              intro d528
              induction d528 with
              | zero =>
                intro k527  h el526 hok
                refine q_iload dX4_runClocks_69 rfl ?_
                refine q_aload_n dX4_runClocks_71 rfl ?_
                refine t_getr 0 kX4 (by decide) wPX4_20 dX4_runClocks_72 hok gu510 rfl ?_
                refine t_alen dX4_runClocks_75 hok au510 rfl ?_
                refine t_icmp_ge_n (tgt := 101) (by omega) (by omega) dX4_runClocks_76 (by decide) (fun c529 => ?_) (fun c529 => ?_)
                rotate_left
                · exact absurd c529 (by omega)
                refine q_iload_n dX4_runClocks_101 rfl ?_
                refine q_iload dX4_runClocks_102 rfl ?_
                refine q_isub dX4_runClocks_104 ?_
                generalize (x514) - (x521) = z530
                refine t_istore [.ref a0, .int (nI a1), .int (z530), .int (nI k512), .int (x521), .int (nI k527)] (Or.inl ⟨2, rfl, rfl, dX4_runClocks_105⟩) (by decide) rfl ?_
                refine t_iinc_n [.ref a0, .int (nI a1), .int (z530), .int (nI (k512 + 1)), .int (x521), .int (nI k527)] dX4_runClocks_106 rfl (by decide) rfl ?_
                refine q_goto (tgt := 4) dX4_runClocks_109 (by decide) ?_
                refine q_weak [.ref a0, .int (nI a1), .int (z530), .int (nI (k512 + 1)), .retAddr 0, .retAddr 0] ⟨Or.inl rfl, Or.inl rfl, Or.inl rfl, Or.inl rfl, Or.inr ⟨0, rfl⟩, Or.inr ⟨0, rfl⟩, trivial⟩ ?_
                exact ihl511 (k512 + 1) (z530) h (by omega) hok
              | succ d528 ihl526 =>
                intro k527  h el526 hok
                refine q_iload dX4_runClocks_69 rfl ?_
                refine q_aload_n dX4_runClocks_71 rfl ?_
                refine t_getr 0 kX4 (by decide) wPX4_20 dX4_runClocks_72 hok gu510 rfl ?_
                refine t_alen dX4_runClocks_75 hok au510 rfl ?_
                refine t_icmp_ge_n (tgt := 101) (by omega) (by omega) dX4_runClocks_76 (by decide) (fun c531 => ?_) (fun c531 => ?_)
                · exact absurd c531 (by omega)
                refine q_aload_n dX4_runClocks_79 rfl ?_
                refine t_getr 0 kX4 (by decide) wPX4_20 dX4_runClocks_80 hok gu510 rfl ?_
                refine q_iload dX4_runClocks_83 rfl ?_
                refine t_aald "GroupFilters$Link" dX4_runClocks_85 hok au510 rfl (by rw [bu510]; exact vp_in_nI (by omega) (by omega)) (fun p532 hp532 => ?_)
                have kp532 := cu510 _ _ hp532
                refine q_aload_n dX4_runClocks_86 rfl ?_
                refine t_getr 1 kX4 (by decide) wPX4_30 dX4_runClocks_87 hok gu510 rfl ?_
                refine q_iload dX4_runClocks_90 rfl ?_
                obtain ⟨pu533, qu533, ru533, su533, gu533, au533, bu533, cu533, du533, eu533, fu533⟩ := id kp532
                refine t_callV (M' := mX1_runClock) [.ref qu510, .int (x521)] [] kX1 dX4_runClocks_92 wPX4_141v wIX1_runClock wSX1_runClock iX1_runClock oX1_runClock rfl hok gu533 (sX1_runClock Sc Γ n kp532 du510 (x521)) (Nat.le_of_ble_eq_true rfl) (Nat.le_of_ble_eq_true rfl) (Nat.le_of_ble_eq_true rfl) (Nat.le_of_ble_eq_true rfl) (Nat.le_of_ble_eq_true rfl) rfl (fun v534 h qv534 hok => ?_) (fun e535 h qe535 hok => absurd qe535 (by intro q; cases q))
                obtain rfl := Sum.inl.inj qv534
                refine t_iinc_n [.ref a0, .int (nI a1), .int (x514), .int (nI k512), .int (x521), .int (nI (k527 + 1))] dX4_runClocks_95 rfl (by decide) rfl ?_
                refine q_goto (tgt := 69) dX4_runClocks_98 (by decide) ?_
                exact ihl526 (k527 + 1)  h (by omega) hok
            exact hl526 (ru510.length) 0  h (by omega) hok
          | succ d520 ihl518 =>
            intro k519 x521 h el518 hok
            refine q_iload dX4_runClocks_19 rfl ?_
            refine q_aload_n dX4_runClocks_21 rfl ?_
            refine t_getr 0 kX4 (by decide) wPX4_20 dX4_runClocks_22 hok gu510 rfl ?_
            refine t_alen dX4_runClocks_25 hok au510 rfl ?_
            refine t_icmp_ge_n (tgt := 52) (by omega) (by omega) dX4_runClocks_26 (by decide) (fun c536 => ?_) (fun c536 => ?_)
            · exact absurd c536 (by omega)
            refine q_iload dX4_runClocks_29 rfl ?_
            refine q_aload_n dX4_runClocks_31 rfl ?_
            refine t_getr 0 kX4 (by decide) wPX4_20 dX4_runClocks_32 hok gu510 rfl ?_
            refine q_iload dX4_runClocks_35 rfl ?_
            refine t_aald "GroupFilters$Link" dX4_runClocks_37 hok au510 rfl (by rw [bu510]; exact vp_in_nI (by omega) (by omega)) (fun p537 hp537 => ?_)
            have kp537 := cu510 _ _ hp537
            obtain ⟨pu538, qu538, ru538, su538, gu538, au538, bu538, cu538, du538, eu538, fu538⟩ := id kp537
            refine t_geti 7 kX1 (by decide) wPX4_128 dX4_runClocks_38 hok gu538 rfl (fun x539 => ?_)
            refine t_callS (M' := mJ9_min_7cf53) [.int (x521), .int (x539)] [] dX4_runClocks_41 wPX4_9 wTJ9_min_7cf53 wNJ9 iJ9_min_7cf53 oJ9_min_7cf53 rfl hok (sJ9_min_7cf53 Sc Γ n (x521) (x539)) (Nat.le_of_ble_eq_true rfl) (Nat.le_of_ble_eq_true rfl) (Nat.le_of_ble_eq_true rfl) (Nat.le_of_ble_eq_true rfl) (Nat.le_of_ble_eq_true rfl) rfl (fun v540 h qv540 hok => ?_) (fun e541 h qe541 hok => absurd qe541 (by intro q; obtain ⟨_, q⟩ := q; cases q))
            obtain ⟨x542, qx542⟩ := qv540
            obtain rfl := Sum.inl.inj qx542
            refine t_istore [.ref a0, .int (nI a1), .int (x514), .int (nI k512), .int (x542), .int (nI k519)] (Or.inr ⟨rfl, dX4_runClocks_44⟩) (by decide) rfl ?_
            refine t_iinc_n [.ref a0, .int (nI a1), .int (x514), .int (nI k512), .int (x542), .int (nI (k519 + 1))] dX4_runClocks_46 rfl (by decide) rfl ?_
            refine q_goto (tgt := 19) dX4_runClocks_49 (by decide) ?_
            exact ihl518 (k519 + 1) (x542) h (by omega) hok
        exact hl518 (ru510.length) 0 (x514) h (by omega) hok
  exact hl511 (a1) 0 (nI a1) h (by omega) hok
