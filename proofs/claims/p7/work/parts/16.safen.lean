/-! ===== settings, exactly ===== -/
theorem q_lt0 {a : Int32} : a < 0 ↔ a.toInt < 0 := by rw [Int32.lt_iff_toInt_lt]; rfl
theorem q_le0 {a : Int32} : a ≤ 0 ↔ a.toInt ≤ 0 := by rw [Int32.le_iff_toInt_le]; rfl
def q_hS (l r q d : Int) (many k v : Nat) : Prop := (k = 1 ∧ (l < 0 ∨ (many : Int) ≤ l)) ∨ (k = 2 ∧ 0 ≤ l ∧ l < many ∧ (r < 1 ∨ 7 < r ∨ q < 1 ∨ 200 < q ∨ d < 1 ∨ q < d)) ∨ (k = 0 ∧ 0 ≤ l ∧ l < many ∧ 1 ≤ r ∧ r ≤ 7 ∧ 1 ≤ q ∧ q ≤ 200 ∧ 1 ≤ d ∧ d ≤ q ∧ (v : Int) = r * q + d)
theorem q_hS.un {l r q d : Int} {many k v k' v' : Nat} (h1 : q_hS l r q d many k v) (h2 : q_hS l r q d many k' v') : k = k' ∧ (k = 0 → v = v') := by
  generalize e : r * q = z at *
  unfold q_hS at h1 h2
  rw [e] at h1 h2
  omega
def q_sO (l r q d : Int) (many : Nat) : q_O → Prop := fun O => ∃ k v, q_hS l r q d many k v ∧ ((k = 0 ∧ O = .inl (some (.int (nI v)))) ∨ (k = 1 ∧ O = .inr 0) ∨ (k = 2 ∧ O = .inr 1))
def q_cI (a b : Int) : q_O → Prop := fun O => (O = .inl none ∧ 0 ≤ a ∧ a < b) ∨ (O = .inr 0 ∧ (a < 0 ∨ b ≤ a))
def q_cN (a b c : Int) : q_O → Prop := fun O => (O = .inl none ∧ b ≤ a ∧ a ≤ c) ∨ (O = .inr 1 ∧ (a < b ∨ c < a))
theorem q_cI.v {a b : Int} {v : Option Value} (h : q_cI a b (.inl v)) : v = none ∧ 0 ≤ a ∧ a < b := by
  rcases h with ⟨h, h2⟩ | ⟨h, -⟩
  · exact ⟨Sum.inl.inj h, h2⟩
  · cases h
theorem q_cI.x {a b : Int} {v : Nat} (h : q_cI a b (.inr v)) : v = 0 ∧ (a < 0 ∨ b ≤ a) := by
  rcases h with ⟨h, h2⟩ | ⟨h, h2⟩
  · cases h
  · exact ⟨Sum.inr.inj h, h2⟩
theorem q_cN.v {a b c : Int} {v : Option Value} (h : q_cN a b c (.inl v)) : v = none ∧ b ≤ a ∧ a ≤ c := by
  rcases h with ⟨h, h2⟩ | ⟨h, -⟩
  · exact ⟨Sum.inl.inj h, h2⟩
  · cases h
theorem q_cN.x {a b c : Int} {v : Nat} (h : q_cN a b c (.inr v)) : v = 1 ∧ (a < b ∨ c < a) := by
  rcases h with ⟨h, h2⟩ | ⟨h, h2⟩
  · cases h
  · exact ⟨Sum.inr.inj h, h2⟩
theorem eX4_checkIndex (Sc : q_S) (Γ : Nat → q_K) (n : Nat) (a0 a1 : Int32) : q_safe Sc Γ mX4_checkIndex [.int a0, .int a1] n 1 6 (q_cI a0.toInt a1.toInt) := by
  intro h hok
  show q_A Sc mX4_checkIndex 0 [.int a0, .int a1] [] h n 1 6 (fun O h' n' => q_cI a0.toInt a1.toInt O ∧ q_ok Γ h' ∧ n' = n)
  have hthrow : (a0.toInt < 0 ∨ a1.toInt ≤ a0.toInt) → q_A Sc mX4_checkIndex 9 [.int a0, .int a1] [] h n 1 6 (fun O h' n' => q_cI a0.toInt a1.toInt O ∧ q_ok Γ h' ∧ n' = n) := fun hx =>
    q_throw (x := 0) (names := ["java/lang/RuntimeException", "java/lang/Exception"]) rfl (Or.inl ⟨rfl, rfl, rfl, rfl⟩) (by decide +kernel) (by decide +kernel) hatk0 hatn0 (fun w hw => ⟨hat0a w hw, hat0b w hw⟩) hatg0 dX4_checkIndex_9 dX4_checkIndex_12 dX4_checkIndex_13 dX4_checkIndex_15 dX4_checkIndex_18 rfl (Nat.le_of_ble_eq_true rfl) (Nat.le_of_ble_eq_true rfl) (Nat.le_refl _) (Nat.le_refl _) ⟨Or.inr ⟨rfl, hx⟩, hok, rfl⟩
  refine q_iload_n dX4_checkIndex_0 rfl ?_
  refine q_if_lt (tgt := 9) dX4_checkIndex_1 (by decide) (fun c1 => hthrow (Or.inl (q_lt0.mp c1))) (fun c1 => ?_)
  refine q_iload_n dX4_checkIndex_4 rfl ?_
  refine q_iload_n dX4_checkIndex_5 rfl ?_
  rw [q_lt0] at c1
  refine q_icmp_lt (tgt := 19) dX4_checkIndex_6 (by decide) (fun c2 => ?_) (fun c2 => hthrow (Or.inr (by rw [Int32.lt_iff_toInt_lt] at c2; omega)))
  exact q_vret dX4_checkIndex_19 rfl ⟨Or.inl ⟨rfl, by omega, Int32.lt_iff_toInt_lt.mp c2⟩, hok, rfl⟩
theorem eX4_checkNumber (Sc : q_S) (Γ : Nat → q_K) (n : Nat) (a0 a1 a2 : Int32) : q_safe Sc Γ mX4_checkNumber [.int a0, .int a1, .int a2] n 1 6 (q_cN a0.toInt a1.toInt a2.toInt) := by
  intro h hok
  show q_A Sc mX4_checkNumber 0 [.int a0, .int a1, .int a2] [] h n 1 6 (fun O h' n' => q_cN a0.toInt a1.toInt a2.toInt O ∧ q_ok Γ h' ∧ n' = n)
  have hthrow : (a0.toInt < a1.toInt ∨ a2.toInt < a0.toInt) → q_A Sc mX4_checkNumber 10 [.int a0, .int a1, .int a2] [] h n 1 6 (fun O h' n' => q_cN a0.toInt a1.toInt a2.toInt O ∧ q_ok Γ h' ∧ n' = n) := fun hx =>
    q_throw (x := 1) (names := ["java/lang/RuntimeException", "java/lang/Exception"]) rfl (Or.inr ⟨rfl, rfl, rfl, rfl⟩) (by decide +kernel) (by decide +kernel) hatk1 hatn1 (fun w hw => ⟨hat1a w hw, hat1b w hw⟩) hatg1 dX4_checkNumber_10 dX4_checkNumber_13 dX4_checkNumber_14 dX4_checkNumber_16 dX4_checkNumber_19 rfl (Nat.le_of_ble_eq_true rfl) (Nat.le_of_ble_eq_true rfl) (Nat.le_refl _) (Nat.le_refl _) ⟨Or.inr ⟨rfl, hx⟩, hok, rfl⟩
  refine q_iload_n dX4_checkNumber_0 rfl ?_
  refine q_iload_n dX4_checkNumber_1 rfl ?_
  refine q_icmp_lt (tgt := 10) dX4_checkNumber_2 (by decide) (fun c1 => hthrow (Or.inl (Int32.lt_iff_toInt_lt.mp c1))) (fun c1 => ?_)
  refine q_iload_n dX4_checkNumber_5 rfl ?_
  refine q_iload_n dX4_checkNumber_6 rfl ?_
  rw [Int32.lt_iff_toInt_lt] at c1
  refine q_icmp_le (tgt := 20) dX4_checkNumber_7 (by decide) (fun c2 => ?_) (fun c2 => hthrow (Or.inr (by rw [Int32.le_iff_toInt_le] at c2; omega)))
  exact q_vret dX4_checkNumber_20 rfl ⟨Or.inl ⟨rfl, by omega, Int32.le_iff_toInt_le.mp c2⟩, hok, rfl⟩
theorem rX1_asks (Sc : q_S) (Γ : Nat → q_K) (n i : Nat) {ps : List (Nat × Nat)} (hg : Γ i = (4, 1, ps)) {z : Nat} (hp : ps[6]? = some (0, z)) : q_safe Sc Γ mX1_asks [.ref i] n 0 0 q_RB := by
  intro h hok
  show q_A Sc mX1_asks 0 [.ref i] [] h n 0 0 (fun O h' n' => q_RB O ∧ q_ok Γ h' ∧ n' = n)
  refine q_aload_n dX1_asks_0 rfl ?_
  refine t_geti 6 kX1 (by decide) wPX1_34 dX1_asks_1 hok hg hp (fun x => ?_)
  refine q_sipush (v := nI 500) dX1_asks_4 rfl ?_
  refine q_icmp_ne (tgt := 14) dX1_asks_7 (by decide) (fun c => ?_) (fun c => ?_)
  · refine q_iconst (v := nI 0) dX1_asks_14 rfl ?_
    exact q_iret dX1_asks_15 rfl (rfl) ⟨⟨_, rfl, Or.inl rfl⟩, hok, rfl⟩
  · refine q_iconst (v := nI 1) dX1_asks_10 rfl ?_
    refine q_goto (tgt := 15) dX1_asks_11 (by decide) ?_
    exact q_iret dX1_asks_15 rfl (rfl) ⟨⟨_, rfl, Or.inr rfl⟩, hok, rfl⟩
theorem eX1_set (Sc : q_S) (Γ : Nat → q_K) (n i fa ma a b c : Nat) (hg : Γ i = (4, 1, [(0, 0), (1, fa), (1, ma), (0, 0), (0, 0), (0, 0), (0, 0), (0, 0)])) (h : q_H) (hok : q_ok Γ h) : q_A Sc mX1_set 0 [.ref i, .int (nI a), .int (nI b), .int (nI c)] [] h n 0 0 (fun O h' n' => O = .inl none ∧ q_ok (gset Γ i (4, 1, [(0, 0), (1, fa), (1, ma), (2, a), (2, b), (2, c), (0, 0), (0, 0)])) h' ∧ n' = n) := by
  refine q_aload_n dX1_set_0 rfl ?_
  refine q_iload_n dX1_set_1 rfl ?_
  refine c_put 3 (p := (2, a)) kX1 (by decide) wQX1_41 (Or.inl rfl) dX1_set_2 hok hg (by exact Nat.le_of_ble_eq_true rfl) ⟨rfl, rfl⟩ (by rfl) (fun h hok => ?_)
  refine q_aload_n dX1_set_5 rfl ?_
  refine q_iload_n dX1_set_6 rfl ?_
  refine c_put 4 (p := (2, b)) kX1 (by decide) wQX1_44 (Or.inl rfl) dX1_set_7 hok gs_at (by exact Nat.le_of_ble_eq_true rfl) ⟨rfl, rfl⟩ (by rfl) (fun h hok => ?_)
  refine q_aload_n dX1_set_10 rfl ?_
  refine q_iload_n dX1_set_11 rfl ?_
  refine c_put 5 (p := (2, c)) kX1 (by decide) wQX1_47 (Or.inl rfl) dX1_set_12 hok gs_at (by exact Nat.le_of_ble_eq_true rfl) ⟨rfl, rfl⟩ (by rfl) (fun h hok => ?_)
  have hok : q_ok (gset Γ i (4, 1, [(0, 0), (1, fa), (1, ma), (2, a), (2, b), (2, c), (0, 0), (0, 0)])) h := gs_gs (gs_gs hok)
  refine q_aload_n dX1_set_15 rfl ?_
  refine t_callV (M' := mX1_asks) [] [] kX1 dX1_set_16 wPX1_50v wIX1_asks wSX1_asks iX1_asks oX1_asks rfl hok gs_at (rX1_asks Sc _ n i gs_at rfl) (Nat.le_of_ble_eq_true rfl) (Nat.le_of_ble_eq_true rfl) (Nat.le_of_ble_eq_true rfl) (Nat.le_of_ble_eq_true rfl) (Nat.le_of_ble_eq_true rfl) rfl (fun v h qv hok => ?_) (fun x h qx hok => absurd qx (by intro q; obtain ⟨_, q, _⟩ := q; cases q))
  obtain ⟨x, qx, -⟩ := qv
  obtain rfl := Sum.inl.inj qx
  refine q_if_eq (tgt := 27) dX1_set_19 (by decide) (fun c1 => ?_) (fun c1 => ?_)
  · exact q_vret dX1_set_27 rfl ⟨rfl, hok, rfl⟩
  · refine q_aload_n dX1_set_22 rfl ?_
    refine q_iload_n dX1_set_23 rfl ?_
    refine t_puti 7 kX1 (by decide) wPX1_54 rfl dX1_set_24 hok gs_at rfl ⟨rfl, rfl⟩ (fun h hok => ?_)
    exact q_vret dX1_set_27 rfl ⟨rfl, hok, rfl⟩
theorem eX1_grace (Sc : q_S) (Γ : Nat → q_K) (n i fa ma a b c : Nat) (hg : Γ i = (4, 1, [(0, 0), (1, fa), (1, ma), (2, a), (2, b), (2, c), (0, 0), (0, 0)])) : q_safe Sc Γ mX1_grace [.ref i] n 0 0 (fun O => O = .inl (some (.int (nI (a * b + c))))) := by
  intro h hok
  show q_A Sc mX1_grace 0 [.ref i] [] h n 0 0 (fun O h' n' => O = .inl (some (.int (nI (a * b + c)))) ∧ q_ok Γ h' ∧ n' = n)
  refine q_aload_n dX1_grace_0 rfl ?_
  refine t_getc 3 kX1 (by decide) wPX1_41 dX1_grace_1 hok hg rfl ?_
  refine q_aload_n dX1_grace_4 rfl ?_
  refine t_getc 4 kX1 (by decide) wPX1_44 dX1_grace_5 hok hg rfl ?_
  refine t_imul_n dX1_grace_8 ?_
  refine q_aload_n dX1_grace_9 rfl ?_
  refine t_getc 5 kX1 (by decide) wPX1_47 dX1_grace_10 hok hg rfl ?_
  refine t_iadd_n dX1_grace_13 ?_
  exact q_iret dX1_grace_14 rfl (rfl) ⟨rfl, hok, rfl⟩
theorem q_PE {fa ma a b c : Nat} : ∀ e, q_okc (4, 1, [(0, 0), (1, fa), (1, ma), (2, a), (2, b), (2, c), (0, 0), (0, 0)]) e → q_okc (4, 1, [(0, 0), (1, fa), (1, ma), (0, 0), (0, 0), (0, 0), (0, 0), (0, 0)]) e := by
  rintro e ⟨fs, rfl, f0, _, rfl, m0, f1, _, rfl, m1, f2, _, rfl, m2, f3, _, rfl, m3, f4, _, rfl, m4, f5, _, rfl, m5, hr⟩
  exact ⟨_, rfl, f0, _, rfl, m0, f1, _, rfl, m1, f2, _, rfl, m2, f3, _, rfl, ⟨_, m3⟩, f4, _, rfl, ⟨_, m4⟩, f5, _, rfl, ⟨_, m5⟩, hr⟩
set_option maxHeartbeats 4000000 in
theorem eX4_settings (Sc : q_S) (Γ : Nat → q_K) (n : Nat) {g many : Nat} (hG : kGF Γ g many) (hm1 : 1 ≤ many) (hm4 : many ≤ 4) (l r q d : Int32) : q_safe Sc Γ mX4_settings [.ref g, .int l, .int r, .int q, .int d] n 4 24 (q_sO l.toInt r.toInt q.toInt d.toInt many) := by
  intro h hok
  show q_A Sc mX4_settings 0 [.ref g, .int l, .int r, .int q, .int d] [] h n 4 24 (fun O h' n' => q_sO l.toInt r.toInt q.toInt d.toInt many O ∧ q_ok Γ h' ∧ n' = n)
  obtain ⟨la, lg, ps, g0, g1, g2, g3, g4⟩ := hG
  have e1 : (nI 1).toInt = 1 := rfl
  have e7 : (nI 7).toInt = 7 := rfl
  have e200 : (nI 200).toInt = 200 := rfl
  have em : (nI many).toInt = many := nI_toInt (by omega)
  refine q_iload_n dX4_settings_0 rfl ?_
  refine q_aload_n dX4_settings_1 rfl ?_
  refine t_getr 0 kX4 (by decide) wPX4_20 dX4_settings_2 hok g0 rfl ?_
  refine t_alen dX4_settings_5 hok g1 rfl ?_
  rw [g2]
  refine t_callS (M' := mX4_checkIndex) [.int l, .int (nI many)] [] dX4_settings_6 wPX4_34 wTX4_checkIndex wNX4 iX4_checkIndex oX4_checkIndex rfl hok (eX4_checkIndex Sc Γ n l (nI many)) (Nat.le_of_ble_eq_true rfl) (Nat.le_of_ble_eq_true rfl) (Nat.le_of_ble_eq_true rfl) (Nat.le_of_ble_eq_true rfl) (Nat.le_of_ble_eq_true rfl) rfl (fun v h qv hok => ?_) (fun x h qx hok => ?_)
  rotate_left
  · obtain ⟨rfl, hx⟩ := q_cI.x qx
    rw [em] at hx
    exact t_out rfl ⟨⟨1, 0, Or.inl ⟨rfl, hx⟩, Or.inr (Or.inl ⟨rfl, rfl⟩)⟩, hok, rfl⟩
  obtain ⟨rfl, hl0, hl1⟩ := q_cI.v qv
  rw [em] at hl1
  refine q_iload_n dX4_settings_9 rfl ?_
  refine q_iconst (v := nI 1) dX4_settings_10 rfl ?_
  refine q_bipush (v := nI 7) dX4_settings_11 rfl ?_
  refine t_callS (M' := mX4_checkNumber) [.int r, .int (nI 1), .int (nI 7)] [] dX4_settings_13 wPX4_38 wTX4_checkNumber wNX4 iX4_checkNumber oX4_checkNumber rfl hok (eX4_checkNumber Sc Γ n r (nI 1) (nI 7)) (Nat.le_of_ble_eq_true rfl) (Nat.le_of_ble_eq_true rfl) (Nat.le_of_ble_eq_true rfl) (Nat.le_of_ble_eq_true rfl) (Nat.le_of_ble_eq_true rfl) rfl (fun v h qv hok => ?_) (fun x h qx hok => ?_)
  rotate_left
  · obtain ⟨rfl, hx⟩ := q_cN.x qx
    rw [e1, e7] at hx
    exact t_out rfl ⟨⟨2, 0, Or.inr (Or.inl ⟨rfl, hl0, hl1, by omega⟩), Or.inr (Or.inr ⟨rfl, rfl⟩)⟩, hok, rfl⟩
  obtain ⟨rfl, hr0, hr1⟩ := q_cN.v qv
  rw [e1] at hr0
  rw [e7] at hr1
  refine q_iload_n dX4_settings_16 rfl ?_
  refine q_iconst (v := nI 1) dX4_settings_17 rfl ?_
  refine q_sipush (v := nI 200) dX4_settings_18 rfl ?_
  refine t_callS (M' := mX4_checkNumber) [.int q, .int (nI 1), .int (nI 200)] [] dX4_settings_21 wPX4_38 wTX4_checkNumber wNX4 iX4_checkNumber oX4_checkNumber rfl hok (eX4_checkNumber Sc Γ n q (nI 1) (nI 200)) (Nat.le_of_ble_eq_true rfl) (Nat.le_of_ble_eq_true rfl) (Nat.le_of_ble_eq_true rfl) (Nat.le_of_ble_eq_true rfl) (Nat.le_of_ble_eq_true rfl) rfl (fun v h qv hok => ?_) (fun x h qx hok => ?_)
  rotate_left
  · obtain ⟨rfl, hx⟩ := q_cN.x qx
    rw [e1, e200] at hx
    exact t_out rfl ⟨⟨2, 0, Or.inr (Or.inl ⟨rfl, hl0, hl1, by omega⟩), Or.inr (Or.inr ⟨rfl, rfl⟩)⟩, hok, rfl⟩
  obtain ⟨rfl, hq0, hq1⟩ := q_cN.v qv
  rw [e1] at hq0
  rw [e200] at hq1
  refine q_iload dX4_settings_24 rfl ?_
  refine q_iconst (v := nI 1) dX4_settings_26 rfl ?_
  refine q_iload_n dX4_settings_27 rfl ?_
  refine t_callS (M' := mX4_checkNumber) [.int d, .int (nI 1), .int q] [] dX4_settings_28 wPX4_38 wTX4_checkNumber wNX4 iX4_checkNumber oX4_checkNumber rfl hok (eX4_checkNumber Sc Γ n d (nI 1) q) (Nat.le_of_ble_eq_true rfl) (Nat.le_of_ble_eq_true rfl) (Nat.le_of_ble_eq_true rfl) (Nat.le_of_ble_eq_true rfl) (Nat.le_of_ble_eq_true rfl) rfl (fun v h qv hok => ?_) (fun x h qx hok => ?_)
  rotate_left
  · obtain ⟨rfl, hx⟩ := q_cN.x qx
    rw [e1] at hx
    exact t_out rfl ⟨⟨2, 0, Or.inr (Or.inl ⟨rfl, hl0, hl1, by omega⟩), Or.inr (Or.inr ⟨rfl, rfl⟩)⟩, hok, rfl⟩
  obtain ⟨rfl, hd0, hd1⟩ := q_cN.v qv
  rw [e1] at hd0
  obtain ⟨j, hj, rfl⟩ := vp_in_of (vp_in_iff.mpr ⟨hl0, hl1⟩ : vp_in l many) (by omega)
  obtain ⟨a, ha, rfl⟩ := vp_in_of (vp_in_iff.mpr ⟨by omega, by omega⟩ : vp_in r 8) (by omega)
  obtain ⟨b, hb, rfl⟩ := vp_in_of (vp_in_iff.mpr ⟨by omega, by omega⟩ : vp_in q 201) (by omega)
  obtain ⟨c, hc, rfl⟩ := vp_in_of (vp_in_iff.mpr ⟨by omega, by omega⟩ : vp_in d 201) (by omega)
  refine q_aload_n dX4_settings_31 rfl ?_
  refine t_getr 0 kX4 (by decide) wPX4_20 dX4_settings_32 hok g0 rfl ?_
  refine q_iload_n dX4_settings_35 rfl ?_
  refine t_aald "GroupFilters$Link" dX4_settings_36 hok g1 rfl (by rw [g2]; exact vp_in_nI (by omega) (by omega)) (fun p hp => ?_)
  obtain ⟨fa, ma, fl, ml, k0, -⟩ := g3 _ _ hp
  have hne0 : g ≠ p.2 := fun e => absurd (congrArg (fun z : q_K => z.2.1) (g0.symm.trans ((congrArg Γ e).trans k0))) (by decide : ¬ (4 = 1))
  have hne1 : la ≠ p.2 := fun e => absurd (congrArg (fun z : q_K => z.1) (g1.symm.trans ((congrArg Γ e).trans k0))) (by decide : ¬ (3 = 4))
  refine q_iload_n dX4_settings_37 rfl ?_
  refine q_iload_n dX4_settings_38 rfl ?_
  refine q_iload dX4_settings_39 rfl ?_
  obtain ⟨fs, hf1, -⟩ := hok.o k0
  refine q_callV (M' := mX1_set) [.int (nI a), .int (nI b), .int (nI c)] [] kX1 dX4_settings_41 wPX4_42v wIX1_set wSX1_set iX1_set oX1_set rfl hf1 (eX1_set Sc Γ n p.2 fa ma a b c k0 h hok) (Nat.le_of_ble_eq_true rfl) (Nat.le_of_ble_eq_true rfl) (Nat.le_of_ble_eq_true rfl) (Nat.le_of_ble_eq_true rfl) (Nat.le_of_ble_eq_true rfl) rfl (fun v h n' hP => ?_) (fun x h n' hP => by cases hP.1)
  obtain ⟨ev, hok, rfl⟩ := hP
  obtain rfl := Sum.inl.inj ev
  refine q_aload_n dX4_settings_44 rfl ?_
  refine t_getr 0 kX4 (by decide) wPX4_20 dX4_settings_45 hok ((gs_ne hne0).trans g0) rfl ?_
  refine q_iload_n dX4_settings_48 rfl ?_
  refine t_aald "GroupFilters$Link" dX4_settings_49 hok ((gs_ne hne1).trans g1) rfl (by rw [g2]; exact vp_in_nI (by omega) (by omega)) (fun p2 hp2 => ?_)
  obtain rfl : p = p2 := Option.some.inj (hp.symm.trans hp2)
  refine t_callV (M' := mX1_grace) [] [] kX1 dX4_settings_50 wPX4_45v wIX1_grace wSX1_grace iX1_grace oX1_grace rfl hok gs_at (eX1_grace Sc _ _ p.2 fa ma a b c gs_at) (Nat.le_of_ble_eq_true rfl) (Nat.le_of_ble_eq_true rfl) (Nat.le_of_ble_eq_true rfl) (Nat.le_of_ble_eq_true rfl) (Nat.le_of_ble_eq_true rfl) rfl (fun v h qv hok => ?_) (fun x h qx hok => absurd qx (by intro q; cases q))
  obtain rfl := Sum.inl.inj qv
  have hok2 := gs_back hok (by rw [k0]; exact q_PE)
  have ea : (nI a).toInt = a := nI_toInt (by omega)
  have eb : (nI b).toInt = b := nI_toInt (by omega)
  have ec : (nI c).toInt = c := nI_toInt (by omega)
  exact q_iret dX4_settings_53 rfl (rfl) ⟨⟨0, a * b + c, Or.inr (Or.inr ⟨rfl, hl0, hl1, hr0, hr1, hq0, hq1, hd0, hd1, by rw [ea, eb, ec, Int.natCast_add, Int.natCast_mul]⟩), Or.inl ⟨rfl, rfl⟩⟩, hok2, rfl⟩

def q_eB (P : Prop) : q_O → Prop := fun O => ∃ x, O = .inl (some (.int x)) ∧ ((x = nI 1 ∧ P) ∨ (x = nI 0 ∧ ¬ P))
theorem eX5_in (Sc : q_S) (Γ : Nat → q_K) (n : Nat) (a0 a1 a2 : Int32) : q_safe Sc Γ mX5_in [.int a0, .int a1, .int a2] n 0 0 (q_eB (a1.toInt ≤ a0.toInt ∧ a0.toInt ≤ a2.toInt)) := by
  intro h hok
  show q_A Sc mX5_in 0 [.int a0, .int a1, .int a2] [] h n 0 0 (fun O h' n' => q_eB (a1.toInt ≤ a0.toInt ∧ a0.toInt ≤ a2.toInt) O ∧ q_ok Γ h' ∧ n' = n)
  have hz : ¬ (a1.toInt ≤ a0.toInt ∧ a0.toInt ≤ a2.toInt) → q_A Sc mX5_in 14 [.int a0, .int a1, .int a2] [] h n 0 0 (fun O h' n' => q_eB (a1.toInt ≤ a0.toInt ∧ a0.toInt ≤ a2.toInt) O ∧ q_ok Γ h' ∧ n' = n) := fun hx => by
    refine q_iconst (v := nI 0) dX5_in_14 rfl ?_
    exact q_iret dX5_in_15 rfl (rfl) ⟨⟨_, rfl, Or.inr ⟨rfl, hx⟩⟩, hok, rfl⟩
  refine q_iload_n dX5_in_0 rfl ?_
  refine q_iload_n dX5_in_1 rfl ?_
  refine q_icmp_lt (tgt := 14) dX5_in_2 (by decide) (fun c => hz (by rw [Int32.lt_iff_toInt_lt] at c; omega)) (fun c => ?_)
  refine q_iload_n dX5_in_5 rfl ?_
  refine q_iload_n dX5_in_6 rfl ?_
  rw [Int32.lt_iff_toInt_lt] at c
  refine q_icmp_gt (tgt := 14) dX5_in_7 (by decide) (fun c2 => hz (by rw [Int32.lt_iff_toInt_lt] at c2; omega)) (fun c2 => ?_)
  rw [Int32.lt_iff_toInt_lt] at c2
  refine q_iconst (v := nI 1) dX5_in_10 rfl ?_
  refine q_goto (tgt := 15) dX5_in_11 (by decide) ?_
  exact q_iret dX5_in_15 rfl (rfl) ⟨⟨_, rfl, Or.inl ⟨rfl, by omega, by omega⟩⟩, hok, rfl⟩
theorem eX5_isLink (Sc : q_S) (Γ : Nat → q_K) (n o ml th s : Nat) (hml : ml ≤ 4) (a : Int32) : q_mod Sc Γ o ml mX5_isLink [.ref o, .int a] n th s (fun O th' s' => q_eB (0 ≤ a.toInt ∧ a.toInt < ml) O ∧ th' = th ∧ s' = s) := by
  intro h hok
  show q_A Sc mX5_isLink 0 [.ref o, .int a] [] h n 0 0 (fun O h' n' => ∃ th' s', (q_eB (0 ≤ a.toInt ∧ a.toInt < ml) O ∧ th' = th ∧ s' = s) ∧ q_ok (mG Γ o ml th' s') h' ∧ n' = n)
  have em : (nI ml).toInt = ml := nI_toInt (by omega)
  have hz : ¬ (0 ≤ a.toInt ∧ a.toInt < ml) → q_A Sc mX5_isLink 16 [.ref o, .int a] [] h n 0 0 (fun O h' n' => ∃ th' s', (q_eB (0 ≤ a.toInt ∧ a.toInt < ml) O ∧ th' = th ∧ s' = s) ∧ q_ok (mG Γ o ml th' s') h' ∧ n' = n) := fun hx => by
    refine q_iconst (v := nI 0) dX5_isLink_16 rfl ?_
    exact q_iret dX5_isLink_17 rfl (rfl) ⟨th, s, ⟨⟨_, rfl, Or.inr ⟨rfl, hx⟩⟩, rfl, rfl⟩, hok, rfl⟩
  refine q_iload_n dX5_isLink_0 rfl ?_
  refine q_if_lt (tgt := 16) dX5_isLink_1 (by decide) (fun c => hz (by rw [q_lt0] at c; omega)) (fun c => ?_)
  rw [q_lt0] at c
  refine q_iload_n dX5_isLink_4 rfl ?_
  refine q_aload_n dX5_isLink_5 rfl ?_
  refine t_getc 1 kX5 (by decide) wPX5_59 dX5_isLink_6 hok mG_o rfl ?_
  refine q_icmp_ge (tgt := 16) dX5_isLink_9 (by decide) (fun c2 => hz (by rw [Int32.le_iff_toInt_le] at c2; omega)) (fun c2 => ?_)
  rw [Int32.le_iff_toInt_le] at c2
  refine q_iconst (v := nI 1) dX5_isLink_12 rfl ?_
  refine q_goto (tgt := 17) dX5_isLink_13 (by decide) ?_
  exact q_iret dX5_isLink_17 rfl (rfl) ⟨th, s, ⟨⟨_, rfl, Or.inl ⟨rfl, by omega, by omega⟩⟩, rfl, rfl⟩, hok, rfl⟩
theorem eX5_thrown (Sc : q_S) (Γ : Nat → q_K) (n o ml th s : Nat) : q_mod Sc Γ o ml mX5_thrown [.ref o] n th s (fun O th' s' => O = .inl (some (.int (nI th))) ∧ th' = th ∧ s' = s) := by
  intro h hok
  show q_A Sc mX5_thrown 0 [.ref o] [] h n 0 0 (fun O h' n' => ∃ th' s', (O = .inl (some (.int (nI th))) ∧ th' = th ∧ s' = s) ∧ q_ok (mG Γ o ml th' s') h' ∧ n' = n)
  refine q_aload_n dX5_thrown_0 rfl ?_
  refine t_getc 0 kX5 (by decide) wPX5_66 dX5_thrown_1 hok mG_o rfl ?_
  exact q_iret dX5_thrown_4 rfl (rfl) ⟨th, s, ⟨rfl, rfl, rfl⟩, hok, rfl⟩
theorem q_up_at {h : q_H} {i : Nat} {c : q_C} : q_up h i c i = c := if_pos rfl
theorem q_up_ne {h : q_H} {i j : Nat} {c : q_C} (e : j ≠ i) : q_up h i c j = h j := if_neg e
theorem eX5_grace (Sc : q_S) (Γ : Nat → q_K) (n o ml th s j : Nat) (hj : j < 4) (h : q_H) (hok : q_ok (mG Γ o ml th s) h) {a1 a2 a3 : List Int32} (h1 : h (o + 1) = .inr (.inl (0, a1))) (h2 : h (o + 2) = .inr (.inl (0, a2))) (h3 : h (o + 3) = .inr (.inl (0, a3))) (l1 : a1.length = 4) (l2 : a2.length = 4) (l3 : a3.length = 4) : q_A Sc mX5_grace 0 [.ref o, .int (nI j)] [] h n 0 0 (fun O h' n' => O = .inl (some (.int (a1.getD j 0 * a2.getD j 0 + a3.getD j 0))) ∧ h' = h ∧ n' = n) := by
  have ej : (nI j).toNatClampNeg = j := nI_clamp (by omega)
  refine q_aload_n dX5_grace_0 rfl ?_
  refine t_getr 2 kX5 (by decide) wPX5_7 dX5_grace_1 hok mG_o rfl ?_
  refine q_iload_n dX5_grace_4 rfl ?_
  refine q_iald dX5_grace_5 h1 rfl (by rw [l1]; exact vp_in_nI (by omega) (by omega)) ?_
  refine q_aload_n dX5_grace_6 rfl ?_
  refine t_getr 3 kX5 (by decide) wPX5_13 dX5_grace_7 hok mG_o rfl ?_
  refine q_iload_n dX5_grace_10 rfl ?_
  refine q_iald dX5_grace_11 h2 rfl (by rw [l2]; exact vp_in_nI (by omega) (by omega)) ?_
  refine q_imul dX5_grace_12 ?_
  refine q_aload_n dX5_grace_13 rfl ?_
  refine t_getr 4 kX5 (by decide) wPX5_16 dX5_grace_14 hok mG_o rfl ?_
  refine q_iload_n dX5_grace_17 rfl ?_
  refine q_iald dX5_grace_18 h3 rfl (by rw [l3]; exact vp_in_nI (by omega) (by omega)) ?_
  refine q_iadd dX5_grace_19 ?_
  rw [ej]
  exact q_iret dX5_grace_20 rfl (rfl) ⟨rfl, rfl, rfl⟩
set_option maxHeartbeats 4000000 in
theorem eX5_settings (Sc : q_S) (Γ : Nat → q_K) (n o ml th s : Nat) (hB : mB Γ o) (hml : ml ≤ 4) (l r q d : Int32) : q_mod Sc Γ o ml mX5_settings [.ref o, .int l, .int r, .int q, .int d] n th s (fun O th' s' => ∃ v x, q_hS l.toInt r.toInt q.toInt d.toInt ml th' v ∧ O = .inl (some (.int x)) ∧ (th' = 0 → x = nI v) ∧ s' = s) := by
  intro h hok
  show q_A Sc mX5_settings 0 [.ref o, .int l, .int r, .int q, .int d] [] h n 0 0 (fun O h' n' => ∃ th' s', (∃ v x, q_hS l.toInt r.toInt q.toInt d.toInt ml th' v ∧ O = .inl (some (.int x)) ∧ (th' = 0 → x = nI v) ∧ s' = s) ∧ q_ok (mG Γ o ml th' s') h' ∧ n' = n)
  have hJ : ∀ (k v : Nat) (h : q_H), q_ok (mG Γ o ml th s) h → q_hS l.toInt r.toInt q.toInt d.toInt ml k v → q_A Sc mX5_settings 49 [.ref o, .int l, .int r, .int q, .int d] [.int (nI k), .ref o] h n 0 0 (fun O h' n' => ∃ th' s', (∃ v x, q_hS l.toInt r.toInt q.toInt d.toInt ml th' v ∧ O = .inl (some (.int x)) ∧ (th' = 0 → x = nI v) ∧ s' = s) ∧ q_ok (mG Γ o ml th' s') h' ∧ n' = n) := by
    intro k v h hok hk
    refine t_putc 0 (z' := k) kX5 (by decide) wPX5_66 rfl dX5_settings_49 hok mG_o rfl ⟨rfl, rfl⟩ (fun h hok => ?_)
    replace hok := mG_setT hok
    refine q_aload_n dX5_settings_52 rfl ?_
    refine t_getc 0 kX5 (by decide) wPX5_66 dX5_settings_53 hok mG_o rfl ?_
    have hk0 := id hk
    rcases hk with ⟨rfl, -⟩ | ⟨rfl, -⟩ | ⟨rfl, hl0, hl1, hr0, hr1, hq0, hq1, hd0, hd1, hv⟩
    · refine q_if_le (tgt := 61) dX5_settings_56 (by decide) (fun c => absurd c (by decide)) (fun c => ?_)
      refine q_iconst (v := nI 0) dX5_settings_59 rfl ?_
      exact q_iret dX5_settings_60 rfl (rfl) ⟨1, s, ⟨v, _, hk0, rfl, fun z => absurd z (by decide), rfl⟩, hok, rfl⟩
    · refine q_if_le (tgt := 61) dX5_settings_56 (by decide) (fun c => absurd c (by decide)) (fun c => ?_)
      refine q_iconst (v := nI 0) dX5_settings_59 rfl ?_
      exact q_iret dX5_settings_60 rfl (rfl) ⟨2, s, ⟨v, _, hk0, rfl, fun z => absurd z (by decide), rfl⟩, hok, rfl⟩
    · refine q_if_le (tgt := 61) dX5_settings_56 (by decide) (fun c => ?_) (fun c => absurd (by decide) c)
      obtain ⟨j, hj, rfl⟩ := vp_in_of (vp_in_iff.mpr ⟨hl0, hl1⟩ : vp_in l ml) (by omega)
      obtain ⟨a, ha, rfl⟩ := vp_in_of (vp_in_iff.mpr ⟨by omega, by omega⟩ : vp_in r 8) (by omega)
      obtain ⟨b, hb, rfl⟩ := vp_in_of (vp_in_iff.mpr ⟨by omega, by omega⟩ : vp_in q 201) (by omega)
      obtain ⟨e, he, rfl⟩ := vp_in_of (vp_in_iff.mpr ⟨by omega, by omega⟩ : vp_in d 201) (by omega)
      have ej : (nI j).toNatClampNeg = j := nI_clamp (by omega)
      obtain ⟨a1, h1, l1⟩ := hok.i (mG_a0 hB)
      obtain ⟨a2, h2, l2⟩ := hok.i (mG_a1 hB)
      obtain ⟨a3, h3, l3⟩ := hok.i (mG_a2 hB)
      obtain ⟨a6, h6, l6⟩ := hok.i (mG_a5 hB)
      refine q_aload_n dX5_settings_61 rfl ?_
      refine t_getr 2 kX5 (by decide) wPX5_7 dX5_settings_62 hok mG_o rfl ?_
      refine q_iload_n dX5_settings_65 rfl ?_
      refine q_iload_n dX5_settings_66 rfl ?_
      refine q_iast dX5_settings_67 h1 rfl (by rw [l1]; exact vp_in_nI (by omega) (by omega)) ?_
      rw [ej]
      have hok := hok.up (i := o + 1) (c := .inr (.inl (0, a1.set j (nI a)))) (by rw [mG_a0 hB]; exact ⟨_, rfl, by rw [List.length_set]; exact l1⟩)
      refine q_aload_n dX5_settings_68 rfl ?_
      refine t_getr 3 kX5 (by decide) wPX5_13 dX5_settings_69 hok mG_o rfl ?_
      refine q_iload_n dX5_settings_72 rfl ?_
      refine q_iload_n dX5_settings_73 rfl ?_
      refine q_iast dX5_settings_74 ((q_up_ne (by omega)).trans h2) rfl (by rw [l2]; exact vp_in_nI (by omega) (by omega)) ?_
      rw [ej]
      have hok := hok.up (i := o + 2) (c := .inr (.inl (0, a2.set j (nI b)))) (by rw [mG_a1 hB]; exact ⟨_, rfl, by rw [List.length_set]; exact l2⟩)
      refine q_aload_n dX5_settings_75 rfl ?_
      refine t_getr 4 kX5 (by decide) wPX5_16 dX5_settings_76 hok mG_o rfl ?_
      refine q_iload_n dX5_settings_79 rfl ?_
      refine q_iload dX5_settings_80 rfl ?_
      refine q_iast dX5_settings_82 ((q_up_ne (by omega)).trans ((q_up_ne (by omega)).trans h3)) rfl (by rw [l3]; exact vp_in_nI (by omega) (by omega)) ?_
      rw [ej]
      have hok := hok.up (i := o + 3) (c := .inr (.inl (0, a3.set j (nI e)))) (by rw [mG_a2 hB]; exact ⟨_, rfl, by rw [List.length_set]; exact l3⟩)
      refine q_aload_n dX5_settings_83 rfl ?_
      refine t_getr 7 kX5 (by decide) wPX5_25 dX5_settings_84 hok mG_o rfl ?_
      refine q_iload_n dX5_settings_87 rfl ?_
      refine q_iload_n dX5_settings_88 rfl ?_
      refine q_iast dX5_settings_89 ((q_up_ne (by omega)).trans ((q_up_ne (by omega)).trans ((q_up_ne (by omega)).trans h6))) rfl (by rw [l6]; exact vp_in_nI (by omega) (by omega)) ?_
      rw [ej]
      have hok := hok.up (i := o + 6) (c := .inr (.inl (0, a6.set j (nI b)))) (by rw [mG_a5 hB]; exact ⟨_, rfl, by rw [List.length_set]; exact l6⟩)
      refine q_aload_n dX5_settings_90 rfl ?_
      refine q_iload_n dX5_settings_91 rfl ?_
      obtain ⟨fs, hf1, -⟩ := hok.o mG_o
      refine q_callV (M' := mX5_grace) [.int (nI j)] [] kX5 dX5_settings_92 wPX5_98v wIX5_grace wSX5_grace iX5_grace oX5_grace rfl hf1 (eX5_grace Sc Γ n o ml 0 s j (by omega) _ hok (a1 := a1.set j (nI a)) (a2 := a2.set j (nI b)) (a3 := a3.set j (nI e)) ((q_up_ne (by omega)).trans ((q_up_ne (by omega)).trans ((q_up_ne (by omega)).trans q_up_at))) ((q_up_ne (by omega)).trans ((q_up_ne (by omega)).trans q_up_at)) ((q_up_ne (by omega)).trans q_up_at) (by rw [List.length_set]; exact l1) (by rw [List.length_set]; exact l2) (by rw [List.length_set]; exact l3)) (Nat.le_of_ble_eq_true rfl) (Nat.le_of_ble_eq_true rfl) (Nat.le_of_ble_eq_true rfl) (Nat.le_of_ble_eq_true rfl) (Nat.le_of_ble_eq_true rfl) rfl (fun v h n' hP => ?_) (fun x h n' hP => by cases hP.1)
      obtain ⟨ev, rfl, rfl⟩ := hP
      obtain rfl := Sum.inl.inj ev
      have g : ∀ (w : List Int32) (x : Int32), w.length = 4 → (w.set j x).getD j 0 = x := fun w x hw => by
        rw [List.getD_eq_getElem?_getD, List.getElem?_set_self (by omega)]
        rfl
      rw [g _ _ l1, g _ _ l2, g _ _ l3, pk_mul, nI_add]
      have ea : (nI a).toInt = a := nI_toInt (by omega)
      have eb : (nI b).toInt = b := nI_toInt (by omega)
      have ee : (nI e).toInt = e := nI_toInt (by omega)
      exact q_iret dX5_settings_95 rfl (rfl) ⟨0, s, ⟨_, _, hk0, rfl, fun _ => congrArg nI (by rw [ea, eb, ee] at hv; omega), rfl⟩, hok, rfl⟩
  have e1 : (nI 1).toInt = 1 := rfl
  have e7 : (nI 7).toInt = 7 := rfl
  have e200 : (nI 200).toInt = 200 := rfl
  refine q_aload_n dX5_settings_0 rfl ?_
  refine q_aload_n dX5_settings_1 rfl ?_
  refine q_iload_n dX5_settings_2 rfl ?_
  refine t_callM (M' := mX5_isLink) [.int l] [.ref o] dX5_settings_3 wPX5_117v wIX5_isLink wSX5_isLink iX5_isLink oX5_isLink rfl hok (eX5_isLink Sc Γ n o ml th s hml l) (Nat.le_of_ble_eq_true rfl) (Nat.le_of_ble_eq_true rfl) (Nat.le_of_ble_eq_true rfl) rfl (fun _ _ _ q => by obtain ⟨⟨_, q, _⟩, _⟩ := q; cases q) (fun v h th' s' qv hok => ?_)
  obtain ⟨⟨x, qx, hx⟩, et, es⟩ := qv
  rw [et, es] at hok
  obtain rfl := Sum.inl.inj qx
  rcases hx with ⟨rfl, hl⟩ | ⟨rfl, hl⟩
  rotate_left
  · refine q_if_ne (tgt := 13) dX5_settings_6 (by decide) (fun c => absurd rfl c) (fun c => ?_)
    refine q_iconst (v := nI 1) dX5_settings_9 rfl ?_
    refine q_goto (tgt := 49) dX5_settings_10 (by decide) ?_
    exact hJ 1 0 h hok (Or.inl ⟨rfl, by omega⟩)
  refine q_if_ne (tgt := 13) dX5_settings_6 (by decide) (fun c => ?_) (fun c => absurd c (by decide))
  have hbad : ∀ h, q_ok (mG Γ o ml th s) h → (r.toInt < 1 ∨ 7 < r.toInt ∨ q.toInt < 1 ∨ 200 < q.toInt ∨ d.toInt < 1 ∨ q.toInt < d.toInt) → q_A Sc mX5_settings 48 [.ref o, .int l, .int r, .int q, .int d] [.ref o] h n 0 0 (fun O h' n' => ∃ th' s', (∃ v x, q_hS l.toInt r.toInt q.toInt d.toInt ml th' v ∧ O = .inl (some (.int x)) ∧ (th' = 0 → x = nI v) ∧ s' = s) ∧ q_ok (mG Γ o ml th' s') h' ∧ n' = n) := fun h hok hx => by
    refine q_iconst (v := nI 2) dX5_settings_48 rfl ?_
    exact hJ 2 0 h hok (Or.inr (Or.inl ⟨rfl, hl.1, hl.2, hx⟩))
  refine q_iload_n dX5_settings_13 rfl ?_
  refine q_iconst (v := nI 1) dX5_settings_14 rfl ?_
  refine q_bipush (v := nI 7) dX5_settings_15 rfl ?_
  refine t_callS (M' := mX5_in) [.int r, .int (nI 1), .int (nI 7)] [.ref o] dX5_settings_17 wPX5_120 wTX5_in wNX5 iX5_in oX5_in rfl hok (eX5_in Sc _ n r (nI 1) (nI 7)) (Nat.le_of_ble_eq_true rfl) (Nat.le_of_ble_eq_true rfl) (Nat.le_of_ble_eq_true rfl) (Nat.le_of_ble_eq_true rfl) (Nat.le_of_ble_eq_true rfl) rfl (fun v h qv hok => ?_) (fun x h qx hok => absurd qx (by intro q; obtain ⟨_, q, _⟩ := q; cases q))
  obtain ⟨x, qx, hx⟩ := qv
  obtain rfl := Sum.inl.inj qx
  rw [e1, e7] at hx
  rcases hx with ⟨rfl, hr⟩ | ⟨rfl, hr⟩
  rotate_left
  · exact q_if_eq (tgt := 48) dX5_settings_20 (by decide) (fun c => hbad h hok (by omega)) (fun c => absurd rfl c)
  refine q_if_eq (tgt := 48) dX5_settings_20 (by decide) (fun c => absurd c (by decide)) (fun c => ?_)
  refine q_iload_n dX5_settings_23 rfl ?_
  refine q_iconst (v := nI 1) dX5_settings_24 rfl ?_
  refine q_sipush (v := nI 200) dX5_settings_25 rfl ?_
  refine t_callS (M' := mX5_in) [.int q, .int (nI 1), .int (nI 200)] [.ref o] dX5_settings_28 wPX5_120 wTX5_in wNX5 iX5_in oX5_in rfl hok (eX5_in Sc _ n q (nI 1) (nI 200)) (Nat.le_of_ble_eq_true rfl) (Nat.le_of_ble_eq_true rfl) (Nat.le_of_ble_eq_true rfl) (Nat.le_of_ble_eq_true rfl) (Nat.le_of_ble_eq_true rfl) rfl (fun v h qv hok => ?_) (fun x h qx hok => absurd qx (by intro q; obtain ⟨_, q, _⟩ := q; cases q))
  obtain ⟨x, qx, hx⟩ := qv
  obtain rfl := Sum.inl.inj qx
  rw [e1, e200] at hx
  rcases hx with ⟨rfl, hq⟩ | ⟨rfl, hq⟩
  rotate_left
  · exact q_if_eq (tgt := 48) dX5_settings_31 (by decide) (fun c => hbad h hok (by omega)) (fun c => absurd rfl c)
  refine q_if_eq (tgt := 48) dX5_settings_31 (by decide) (fun c => absurd c (by decide)) (fun c => ?_)
  refine q_iload dX5_settings_34 rfl ?_
  refine q_iconst (v := nI 1) dX5_settings_36 rfl ?_
  refine q_iload_n dX5_settings_37 rfl ?_
  refine t_callS (M' := mX5_in) [.int d, .int (nI 1), .int (q)] [.ref o] dX5_settings_38 wPX5_120 wTX5_in wNX5 iX5_in oX5_in rfl hok (eX5_in Sc _ n d (nI 1) (q)) (Nat.le_of_ble_eq_true rfl) (Nat.le_of_ble_eq_true rfl) (Nat.le_of_ble_eq_true rfl) (Nat.le_of_ble_eq_true rfl) (Nat.le_of_ble_eq_true rfl) rfl (fun v h qv hok => ?_) (fun x h qx hok => absurd qx (by intro q; obtain ⟨_, q, _⟩ := q; cases q))
  obtain ⟨x, qx, hx⟩ := qv
  obtain rfl := Sum.inl.inj qx
  rw [e1] at hx
  rcases hx with ⟨rfl, hd⟩ | ⟨rfl, hd⟩
  rotate_left
  · exact q_if_eq (tgt := 48) dX5_settings_41 (by decide) (fun c => hbad h hok (by omega)) (fun c => absurd rfl c)
  refine q_if_eq (tgt := 48) dX5_settings_41 (by decide) (fun c => absurd c (by decide)) (fun c => ?_)
  refine q_iconst (v := nI 0) dX5_settings_44 rfl ?_
  refine q_goto (tgt := 49) dX5_settings_45 (by decide) ?_
  have hrq : 0 ≤ r.toInt * q.toInt := Int.mul_nonneg (by omega) (by omega)
  exact hJ 0 (r.toInt * q.toInt + d.toInt).toNat h hok (Or.inr (Or.inr ⟨rfl, hl.1, hl.2, hr.1, hr.2, hq.1, hq.2, hd.1, hd.2, Int.toNat_of_nonneg (by omega)⟩))

