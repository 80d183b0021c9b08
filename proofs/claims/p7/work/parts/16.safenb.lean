theorem nI_tn {j : Nat} (h : j < 2 ^ 31) : (nI j).toInt.toNat = j := by
  rw [nI_toInt h]
  rfl
abbrev q_ok3 (l g s : Int) (many : Nat) : Prop := 0 ≤ l ∧ l < many ∧ 0 ≤ g ∧ g < 8 ∧ 0 ≤ s ∧ s < 16
abbrev q_ok2 (l m : Int) (many : Nat) : Prop := 0 ≤ l ∧ l < many ∧ 0 ≤ m ∧ m < 6
abbrev q_ok4 (l m g v : Int) (many : Nat) : Prop := 0 ≤ l ∧ l < many ∧ 0 ≤ m ∧ m < 6 ∧ 0 ≤ g ∧ g < 8 ∧ 0 ≤ v ∧ v ≤ 65535
theorem q_tnat {a : Int32} {B : Nat} (hB : B < 2 ^ 30) (h0 : 0 ≤ a.toInt) (h1 : a.toInt < B) : ∃ j, j < B ∧ a = nI j := by
  obtain ⟨j, hj, e⟩ := vp_in_of (vp_in_iff.mpr ⟨h0, h1⟩ : vp_in a B) (by omega)
  exact ⟨j, hj, e⟩
set_option maxHeartbeats 4000000 in
theorem eX4_checkPlace (Sc : q_S) (Γ : Nat → q_K) (n : Nat) {X many : Nat} (hG : kGF Γ X many) (hm1 : 1 ≤ many) (hm4 : many ≤ 4) (l g s : Int32) : q_safe Sc Γ mX4_checkPlace [.ref X, .int l, .int g, .int s] n 3 18 (fun O => (O = .inl none ∧ q_ok3 l.toInt g.toInt s.toInt many) ∨ (O = .inr 0 ∧ ¬ q_ok3 l.toInt g.toInt s.toInt many)) := by
  intro h hok
  show q_A Sc mX4_checkPlace 0 [.ref X, .int l, .int g, .int s] [] h n 3 18 (fun O h' n' => ((O = .inl none ∧ q_ok3 l.toInt g.toInt s.toInt many) ∨ (O = .inr 0 ∧ ¬ q_ok3 l.toInt g.toInt s.toInt many)) ∧ q_ok Γ h' ∧ n' = n)
  obtain ⟨la, lg, ps, g0, g1, g2, g3, g4⟩ := hG
  have em : (nI many).toInt = many := nI_toInt (by omega)
  have e8 : (nI 8).toInt = 8 := rfl
  have e16 : (nI 16).toInt = 16 := rfl
  refine q_iload_n dX4_checkPlace_0 rfl ?_
  refine q_aload_n dX4_checkPlace_1 rfl ?_
  refine t_getr 0 kX4 (by decide) wPX4_20 dX4_checkPlace_2 hok g0 rfl ?_
  refine t_alen dX4_checkPlace_5 hok g1 rfl ?_
  rw [g2]
  refine t_callS (M' := mX4_checkIndex) [.int l, .int (nI many)] [] dX4_checkPlace_6 wPX4_34 wTX4_checkIndex wNX4 iX4_checkIndex oX4_checkIndex rfl hok (eX4_checkIndex Sc Γ n l (nI many)) (Nat.le_of_ble_eq_true rfl) (Nat.le_of_ble_eq_true rfl) (Nat.le_of_ble_eq_true rfl) (Nat.le_of_ble_eq_true rfl) (Nat.le_of_ble_eq_true rfl) rfl (fun v h qv hok => ?_) (fun x h qx hok => ?_)
  rotate_left
  · obtain ⟨rfl, hx⟩ := q_cI.x qx
    rw [em] at hx
    exact t_out rfl ⟨Or.inr ⟨rfl, fun q => by omega⟩, hok, rfl⟩
  obtain ⟨rfl, hl0, hl1⟩ := q_cI.v qv
  rw [em] at hl1
  refine q_iload_n dX4_checkPlace_9 rfl ?_
  refine q_bipush (v := nI 8) dX4_checkPlace_10 rfl ?_
  refine t_callS (M' := mX4_checkIndex) [.int g, .int (nI 8)] [] dX4_checkPlace_12 wPX4_34 wTX4_checkIndex wNX4 iX4_checkIndex oX4_checkIndex rfl hok (eX4_checkIndex Sc Γ n g (nI 8)) (Nat.le_of_ble_eq_true rfl) (Nat.le_of_ble_eq_true rfl) (Nat.le_of_ble_eq_true rfl) (Nat.le_of_ble_eq_true rfl) (Nat.le_of_ble_eq_true rfl) rfl (fun v h qv hok => ?_) (fun x h qx hok => ?_)
  rotate_left
  · obtain ⟨rfl, hx⟩ := q_cI.x qx
    rw [e8] at hx
    exact t_out rfl ⟨Or.inr ⟨rfl, fun q => by omega⟩, hok, rfl⟩
  obtain ⟨rfl, hg0, hg1⟩ := q_cI.v qv
  rw [e8] at hg1
  refine q_iload_n dX4_checkPlace_15 rfl ?_
  refine q_bipush (v := nI 16) dX4_checkPlace_16 rfl ?_
  refine t_callS (M' := mX4_checkIndex) [.int s, .int (nI 16)] [] dX4_checkPlace_18 wPX4_34 wTX4_checkIndex wNX4 iX4_checkIndex oX4_checkIndex rfl hok (eX4_checkIndex Sc Γ n s (nI 16)) (Nat.le_of_ble_eq_true rfl) (Nat.le_of_ble_eq_true rfl) (Nat.le_of_ble_eq_true rfl) (Nat.le_of_ble_eq_true rfl) (Nat.le_of_ble_eq_true rfl) rfl (fun v h qv hok => ?_) (fun x h qx hok => ?_)
  rotate_left
  · obtain ⟨rfl, hx⟩ := q_cI.x qx
    rw [e16] at hx
    exact t_out rfl ⟨Or.inr ⟨rfl, fun q => by omega⟩, hok, rfl⟩
  obtain ⟨rfl, hs0, hs1⟩ := q_cI.v qv
  rw [e16] at hs1
  exact q_vret dX4_checkPlace_21 rfl ⟨Or.inl ⟨rfl, hl0, hl1, hg0, hg1, hs0, hs1⟩, hok, rfl⟩
theorem kGm.eqs {Γ : Nat → q_K} {X many la lg : Nat} {f e : Nat → Int32} {ps : List (Nat × Nat)} (h : kGm Γ X many f e) (g0 : Γ X = (4, 4, [(1, la), (1, lg)])) (g1 : Γ la = (3, 2, ps)) : la = X + 1 ∧ lg = X + 2 + 37 * many ∧ ps = (List.range many).map (fun l => (1, X + 2 + 37 * l)) := by
  have h1 := g0.symm.trans h.1
  simp only [Prod.mk.injEq, List.cons.injEq, true_and, and_true] at h1
  obtain ⟨rfl, rfl⟩ := h1
  have h2 := g1.symm.trans h.2.1
  simp only [Prod.mk.injEq, true_and] at h2
  exact ⟨rfl, rfl, h2⟩

def q_wO (l g s : Int32) (many : Nat) (f e : Nat → Int32) : q_O → Prop := fun O => (q_ok3 l.toInt g.toInt s.toInt many ∧ q_any (fun m => q_wn (f (48 * l.toInt.toNat + 8 * m + g.toInt.toNat)) (e (48 * l.toInt.toNat + 8 * m + g.toInt.toNat)) s) O) ∨ (¬ q_ok3 l.toInt g.toInt s.toInt many ∧ O = .inr 0)
set_option maxHeartbeats 4000000 in
theorem eX4_wanted (Sc : q_S) (Γ : Nat → q_K) (n : Nat) {X many : Nat} {f e : Nat → Int32} (hG : kGF Γ X many) (hM : kGm Γ X many f e) (hm1 : 1 ≤ many) (hm4 : many ≤ 4) (l g s : Int32) : q_safe Sc Γ mX4_wanted [.ref X, .int l, .int g, .int s] n 3 18 (q_wO l g s many f e) := by
  intro h hok
  show q_A Sc mX4_wanted 0 [.ref X, .int l, .int g, .int s] [] h n 3 18 (fun O h' n' => q_wO l g s many f e O ∧ q_ok Γ h' ∧ n' = n)
  obtain ⟨la, lg, ps, g0, g1, g2, g3, g4⟩ := id hG
  refine q_aload_n dX4_wanted_0 rfl ?_
  refine q_iload_n dX4_wanted_1 rfl ?_
  refine q_iload_n dX4_wanted_2 rfl ?_
  refine q_iload_n dX4_wanted_3 rfl ?_
  refine t_callV (M' := mX4_checkPlace) [.int l, .int g, .int s] [] kX4 dX4_wanted_4 wPX4_82v wIX4_checkPlace wSX4_checkPlace iX4_checkPlace oX4_checkPlace rfl hok g0 (eX4_checkPlace Sc Γ n hG hm1 hm4 l g s) (Nat.le_of_ble_eq_true rfl) (Nat.le_of_ble_eq_true rfl) (Nat.le_of_ble_eq_true rfl) (Nat.le_of_ble_eq_true rfl) (Nat.le_of_ble_eq_true rfl) rfl (fun v h qv hok => ?_) (fun x h qx hok => ?_)
  rotate_left
  · rcases qx with ⟨qx, -⟩ | ⟨qx, hno⟩
    · cases qx
    · obtain rfl := Sum.inr.inj qx
      exact t_out rfl ⟨Or.inr ⟨hno, rfl⟩, hok, rfl⟩
  rcases qv with ⟨qv, hyes⟩ | ⟨qv, -⟩
  rotate_left
  · cases qv
  obtain rfl := Sum.inl.inj qv
  obtain ⟨rfl, rfl, rfl⟩ := hM.eqs g0 g1
  have hy := id hyes
  obtain ⟨hl0, hl1, hg0, hg1, hs0, hs1⟩ := hyes
  obtain ⟨j, hj, rfl⟩ := q_tnat (by omega) hl0 hl1
  obtain ⟨k, hk, rfl⟩ := q_tnat (B := 8) (by omega) hg0 hg1
  refine q_aload_n dX4_wanted_7 rfl ?_
  refine t_getr 0 kX4 (by decide) wPX4_20 dX4_wanted_8 hok g0 rfl ?_
  refine q_iload_n dX4_wanted_11 rfl ?_
  refine t_aald "GroupFilters$Link" dX4_wanted_12 hok g1 rfl (by rw [g2]; exact vp_in_nI (by omega) (by omega)) (fun p hp => ?_)
  rw [nI_clamp (by omega), q_PK_at hj] at hp
  obtain rfl := Option.some.inj hp
  refine q_iload_n dX4_wanted_13 rfl ?_
  refine q_iload_n dX4_wanted_14 rfl ?_
  have hm := hM.2.2 j hj
  refine t_callV (M' := mX1_hasMemberFor) [.int (nI k), .int s] [] kX1 dX4_wanted_15 wPX4_85v wIX1_hasMemberFor wSX1_hasMemberFor iX1_hasMemberFor oX1_hasMemberFor rfl hok hm.1.1 (eX1_hasMemberFor Sc Γ n hm k hk s) (Nat.le_of_ble_eq_true rfl) (Nat.le_of_ble_eq_true rfl) (Nat.le_of_ble_eq_true rfl) (Nat.le_of_ble_eq_true rfl) (Nat.le_of_ble_eq_true rfl) rfl (fun v h qv hok => ?_) (fun x h qx hok => absurd qx (by intro q; obtain ⟨_, q, _⟩ := q; cases q))
  obtain ⟨x, ex, hx⟩ := qv
  obtain rfl := Sum.inl.inj ex
  have hb : q_bl x := by
    rcases hx with ⟨rfl, -⟩ | ⟨rfl, -⟩
    · exact Or.inr rfl
    · exact Or.inl rfl
  refine q_iret dX4_wanted_18 rfl (q_bl.nar hb) ⟨Or.inl ⟨hy, ?_⟩, hok, rfl⟩
  rw [nI_tn (by omega), nI_tn (by omega)]
  exact ⟨x, rfl, hx⟩

def q_aO (l m : Int32) (many : Nat) (f e : Nat → Int32) : q_O → Prop := fun O => (q_ok2 l.toInt m.toInt many ∧ O = .inl (some (.int (nI (q_nn (fun g => f (48 * l.toInt.toNat + 8 * m.toInt.toNat + g)) (fun g => e (48 * l.toInt.toNat + 8 * m.toInt.toNat + g)) 8))))) ∨ (¬ q_ok2 l.toInt m.toInt many ∧ O = .inr 0)
set_option maxHeartbeats 4000000 in
theorem eX4_answer (Sc : q_S) (Γ : Nat → q_K) (n : Nat) {X many : Nat} {f e : Nat → Int32} (hG : kGF Γ X many) (hM : kGm Γ X many f e) (hm1 : 1 ≤ many) (hm4 : many ≤ 4) (l m : Int32) : q_safe Sc Γ mX4_answer [.ref X, .int l, .int m] n 2 12 (q_aO l m many f e) := by
  intro h hok
  show q_A Sc mX4_answer 0 [.ref X, .int l, .int m] [] h n 2 12 (fun O h' n' => q_aO l m many f e O ∧ q_ok Γ h' ∧ n' = n)
  obtain ⟨la, lg, ps, g0, g1, g2, g3, g4⟩ := id hG
  have em : (nI many).toInt = many := nI_toInt (by omega)
  have e6 : (nI 6).toInt = 6 := rfl
  refine q_iload_n dX4_answer_0 rfl ?_
  refine q_aload_n dX4_answer_1 rfl ?_
  refine t_getr 0 kX4 (by decide) wPX4_20 dX4_answer_2 hok g0 rfl ?_
  refine t_alen dX4_answer_5 hok g1 rfl ?_
  rw [g2]
  refine t_callS (M' := mX4_checkIndex) [.int l, .int (nI many)] [] dX4_answer_6 wPX4_34 wTX4_checkIndex wNX4 iX4_checkIndex oX4_checkIndex rfl hok (eX4_checkIndex Sc Γ n l (nI many)) (Nat.le_of_ble_eq_true rfl) (Nat.le_of_ble_eq_true rfl) (Nat.le_of_ble_eq_true rfl) (Nat.le_of_ble_eq_true rfl) (Nat.le_of_ble_eq_true rfl) rfl (fun v h qv hok => ?_) (fun x h qx hok => ?_)
  rotate_left
  · obtain ⟨rfl, hx⟩ := q_cI.x qx
    rw [em] at hx
    exact t_out rfl ⟨Or.inr ⟨fun q => by omega, rfl⟩, hok, rfl⟩
  obtain ⟨rfl, hl0, hl1⟩ := q_cI.v qv
  rw [em] at hl1
  refine q_iload_n dX4_answer_9 rfl ?_
  refine q_bipush (v := nI 6) dX4_answer_10 rfl ?_
  refine t_callS (M' := mX4_checkIndex) [.int m, .int (nI 6)] [] dX4_answer_12 wPX4_34 wTX4_checkIndex wNX4 iX4_checkIndex oX4_checkIndex rfl hok (eX4_checkIndex Sc Γ n m (nI 6)) (Nat.le_of_ble_eq_true rfl) (Nat.le_of_ble_eq_true rfl) (Nat.le_of_ble_eq_true rfl) (Nat.le_of_ble_eq_true rfl) (Nat.le_of_ble_eq_true rfl) rfl (fun v h qv hok => ?_) (fun x h qx hok => ?_)
  rotate_left
  · obtain ⟨rfl, hx⟩ := q_cI.x qx
    rw [e6] at hx
    exact t_out rfl ⟨Or.inr ⟨fun q => by omega, rfl⟩, hok, rfl⟩
  obtain ⟨rfl, hg0, hg1⟩ := q_cI.v qv
  rw [e6] at hg1
  have hy : q_ok2 l.toInt m.toInt many := ⟨hl0, hl1, hg0, hg1⟩
  obtain ⟨rfl, rfl, rfl⟩ := hM.eqs g0 g1
  obtain ⟨j, hj, rfl⟩ := q_tnat (by omega) hl0 hl1
  obtain ⟨k, hk, rfl⟩ := q_tnat (B := 6) (by omega) hg0 hg1
  refine q_aload_n dX4_answer_15 rfl ?_
  refine t_getr 0 kX4 (by decide) wPX4_20 dX4_answer_16 hok g0 rfl ?_
  refine q_iload_n dX4_answer_19 rfl ?_
  refine t_aald "GroupFilters$Link" dX4_answer_20 hok g1 rfl (by rw [g2]; exact vp_in_nI (by omega) (by omega)) (fun p hp => ?_)
  have kp := g3 _ _ hp
  rw [nI_clamp (by omega), q_PK_at hj] at hp
  obtain rfl := Option.some.inj hp
  refine q_aload_n dX4_answer_21 rfl ?_
  refine t_getr 1 kX4 (by decide) wPX4_30 dX4_answer_22 hok g0 rfl ?_
  refine q_iload_n dX4_answer_25 rfl ?_
  have hm := hM.2.2 j hj
  refine t_callV (M' := mX1_letAnswer) [.ref (X + 2 + 37 * many), .int (nI k)] [] kX1 dX4_answer_26 wPX4_78v wIX1_letAnswer wSX1_letAnswer iX1_letAnswer oX1_letAnswer rfl hok hm.1.1 (eX1_letAnswer Sc Γ n kp g4 hm k hk) (Nat.le_of_ble_eq_true rfl) (Nat.le_of_ble_eq_true rfl) (Nat.le_of_ble_eq_true rfl) (Nat.le_of_ble_eq_true rfl) (Nat.le_of_ble_eq_true rfl) rfl (fun v h qv hok => ?_) (fun x h qx hok => absurd qx (by intro q; cases q))
  obtain rfl := Sum.inl.inj qv
  refine q_iret dX4_answer_29 rfl (rfl) ⟨Or.inl ⟨hy, ?_⟩, hok, rfl⟩
  rw [nI_tn (by omega), nI_tn (by omega)]

def q_mf (f : Nat → Int32) (l m g v : Int32) (many : Nat) (y : Int32) : Nat → Int32 := if q_ok4 l.toInt m.toInt g.toInt v.toInt many then fupd f (48 * l.toInt.toNat + 8 * m.toInt.toNat + g.toInt.toNat) y else f
theorem q_mf_no {f : Nat → Int32} {l m g v y : Int32} {many : Nat} (h : ¬ q_ok4 l.toInt m.toInt g.toInt v.toInt many) : q_mf f l m g v many y = f := if_neg h
theorem q_mf_yes {f : Nat → Int32} {v y : Int32} {many j k i : Nat} (hj : j < 2 ^ 31) (hk : k < 2 ^ 31) (hi : i < 2 ^ 31) (h : q_ok4 (nI j).toInt (nI k).toInt (nI i).toInt v.toInt many) : q_mf f (nI j) (nI k) (nI i) v many y = fupd f (48 * j + 8 * k + i) y := by
  unfold q_mf
  rw [if_pos h, nI_tn hj, nI_tn hk, nI_tn hi]
theorem fupd_at {F : Nat → Int32} {j : Nat} {x : Int32} : fupd F j x j = x := if_pos rfl
theorem fupd_ne {F : Nat → Int32} {j k : Nat} {x : Int32} (h : k ≠ j) : fupd F j x k = F k := if_neg h
theorem q_rg_fu {f : Nat → Int32} {b g : Nat} {v : Int32} : q_rg 8 (fupd (fun g => f (b + g)) g v) = q_rg 8 (fun k => fupd f (b + g) v (b + k)) := q_rg_cg fun k hk => by
  by_cases h : k = g
  · subst h
    rw [fupd_at, fupd_at]
  · rw [fupd_ne h, fupd_ne (by omega)]
theorem q_rg_fo {f : Nat → Int32} {b b' g : Nat} {v : Int32} (h : ∀ k, k < 8 → b' + k ≠ b + g) : q_rg 8 (fun k => f (b' + k)) = q_rg 8 (fun k => fupd f (b + g) v (b' + k)) := q_rg_cg fun k hk => (fupd_ne (h k hk)).symm
theorem kGm.set {Γ : Nat → q_K} {X many l m g : Nat} {f e : Nat → Int32} {v x : Int32} (h : kGm Γ X many f e) (hl : l < many) (hm : m < 6) (hg : g < 8) : kGm (gset (gset Γ (X + 2 + 37 * l + 20 + 3 * m) (8, 0, q_rg 8 (fupd (fun g => f (48 * l + 8 * m + g)) g v))) (X + 2 + 37 * l + 21 + 3 * m) (9, 0, q_rg 8 (fupd (fun g => e (48 * l + 8 * m + g)) g x))) X many (fupd f (48 * l + 8 * m + g) v) (fupd e (48 * l + 8 * m + g) x) := by
  refine ⟨(gs_ne (by omega)).trans ((gs_ne (by omega)).trans h.1), (gs_ne (by omega)).trans ((gs_ne (by omega)).trans h.2.1), fun l2 hl2 => ?_⟩
  by_cases hll : l2 = l
  · subst hll
    obtain ⟨⟨o1, o2, o3⟩, o4⟩ := h.2.2 l2 hl2
    refine ⟨⟨(gs_ne (by omega)).trans ((gs_ne (by omega)).trans o1), (gs_ne (by omega)).trans ((gs_ne (by omega)).trans o2), fun m2 hm2 => (gs_ne (by omega)).trans ((gs_ne (by omega)).trans (o3 m2 hm2))⟩, fun m2 hm2 => ?_⟩
    by_cases hmm : m2 = m
    · subst hmm
      exact ⟨(gs_ne (by omega)).trans (gs_at.trans (by rw [q_rg_fu])), gs_at.trans (by rw [q_rg_fu])⟩
    · obtain ⟨p1, p2⟩ := o4 m2 hm2
      refine ⟨(gs_ne (by omega)).trans ((gs_ne (by omega)).trans (p1.trans ?_)), (gs_ne (by omega)).trans ((gs_ne (by omega)).trans (p2.trans ?_))⟩
      · rw [q_rg_fo (b := 48 * l2 + 8 * m) (g := g) (v := v) (fun k hk => by omega)]
      · rw [q_rg_fo (b := 48 * l2 + 8 * m) (g := g) (v := x) (fun k hk => by omega)]
  · exact (h.2.2 l2 hl2).of (fun j h1 h2 => (gs_ne (by omega)).trans (gs_ne (by omega))) (fun j h1 h2 => ⟨fupd_ne (by omega), fupd_ne (by omega)⟩)
set_option maxHeartbeats 4000000 in
theorem eX4_member (Sc : q_S) (Γ : Nat → q_K) (n : Nat) {X many : Nat} {f e : Nat → Int32} (hG : kGF Γ X many) (hM : kGm Γ X many f e) (hm1 : 1 ≤ many) (hm4 : many ≤ 4) (l m g ex v : Int32) (hx : q_bl ex) (h : q_H) (hok : q_ok Γ h) : q_A Sc mX4_member 0 [.ref X, .int l, .int m, .int g, .int ex, .int v, .retAddr 0] [] h n 4 24 (fun O h' n' => (q_XI (fun x => x < 2)) O ∧ n' = n ∧ ∃ Γ' : Nat → q_K, q_ok Γ' h' ∧ fr89 Γ Γ' ∧ (∀ j, X + 2 + 37 * many ≤ j → Γ' j = Γ j) ∧ (∀ j, j < X → Γ' j = Γ j) ∧ kGm Γ' X many (q_mf f l m g v many v) (q_mf e l m g v many ex)) := by
  obtain ⟨la, lg, ps, g0, g1, g2, g3, g4⟩ := id hG
  have em : (nI many).toInt = many := nI_toInt (by omega)
  have e6 : (nI 6).toInt = 6 := rfl
  have e8 : (nI 8).toInt = 8 := rfl
  have e0 : (nI 0).toInt = 0 := rfl
  have e65 : (65535 : Int32).toInt = 65535 := rfl
  refine q_iload_n dX4_member_0 rfl ?_
  refine q_aload_n dX4_member_1 rfl ?_
  refine t_getr 0 kX4 (by decide) wPX4_20 dX4_member_2 hok g0 rfl ?_
  refine t_alen dX4_member_5 hok g1 rfl ?_
  rw [g2]
  refine t_callS (M' := mX4_checkIndex) [.int l, .int (nI many)] [] dX4_member_6 wPX4_34 wTX4_checkIndex wNX4 iX4_checkIndex oX4_checkIndex rfl hok (eX4_checkIndex Sc Γ n l (nI many)) (Nat.le_of_ble_eq_true rfl) (Nat.le_of_ble_eq_true rfl) (Nat.le_of_ble_eq_true rfl) (Nat.le_of_ble_eq_true rfl) (Nat.le_of_ble_eq_true rfl) rfl (fun v h qv hok => ?_) (fun x h qx hok => ?_)
  rotate_left
  · obtain ⟨rfl, hx⟩ := q_cI.x qx
    rw [em] at hx
    exact t_out rfl ⟨Or.inr ⟨_, rfl, by decide⟩, rfl, Γ, hok, fr89.rf, fun _ _ => rfl, fun _ _ => rfl, by rw [q_mf_no (by omega), q_mf_no (by omega)]; exact hM⟩
  obtain ⟨rfl, hl0, hl1⟩ := q_cI.v qv
  rw [em] at hl1
  refine q_iload_n dX4_member_9 rfl ?_
  refine q_bipush (v := nI 6) dX4_member_10 rfl ?_
  refine t_callS (M' := mX4_checkIndex) [.int m, .int (nI 6)] [] dX4_member_12 wPX4_34 wTX4_checkIndex wNX4 iX4_checkIndex oX4_checkIndex rfl hok (eX4_checkIndex Sc Γ n m (nI 6)) (Nat.le_of_ble_eq_true rfl) (Nat.le_of_ble_eq_true rfl) (Nat.le_of_ble_eq_true rfl) (Nat.le_of_ble_eq_true rfl) (Nat.le_of_ble_eq_true rfl) rfl (fun v h qv hok => ?_) (fun x h qx hok => ?_)
  rotate_left
  · obtain ⟨rfl, hx⟩ := q_cI.x qx
    rw [e6] at hx
    exact t_out rfl ⟨Or.inr ⟨_, rfl, by decide⟩, rfl, Γ, hok, fr89.rf, fun _ _ => rfl, fun _ _ => rfl, by rw [q_mf_no (by omega), q_mf_no (by omega)]; exact hM⟩
  obtain ⟨rfl, hk0, hk1⟩ := q_cI.v qv
  rw [e6] at hk1
  refine q_iload_n dX4_member_15 rfl ?_
  refine q_bipush (v := nI 8) dX4_member_16 rfl ?_
  refine t_callS (M' := mX4_checkIndex) [.int g, .int (nI 8)] [] dX4_member_18 wPX4_34 wTX4_checkIndex wNX4 iX4_checkIndex oX4_checkIndex rfl hok (eX4_checkIndex Sc Γ n g (nI 8)) (Nat.le_of_ble_eq_true rfl) (Nat.le_of_ble_eq_true rfl) (Nat.le_of_ble_eq_true rfl) (Nat.le_of_ble_eq_true rfl) (Nat.le_of_ble_eq_true rfl) rfl (fun v h qv hok => ?_) (fun x h qx hok => ?_)
  rotate_left
  · obtain ⟨rfl, hx⟩ := q_cI.x qx
    rw [e8] at hx
    exact t_out rfl ⟨Or.inr ⟨_, rfl, by decide⟩, rfl, Γ, hok, fr89.rf, fun _ _ => rfl, fun _ _ => rfl, by rw [q_mf_no (by omega), q_mf_no (by omega)]; exact hM⟩
  obtain ⟨rfl, hg0, hg1⟩ := q_cI.v qv
  rw [e8] at hg1
  refine q_iload dX4_member_21 rfl ?_
  refine q_iconst (v := nI 0) dX4_member_23 rfl ?_
  refine q_ldc dX4_member_24 wPX4_49 ?_
  refine t_callS (M' := mX4_checkNumber) [.int v, .int (nI 0), .int (65535)] [] dX4_member_26 wPX4_38 wTX4_checkNumber wNX4 iX4_checkNumber oX4_checkNumber rfl hok (eX4_checkNumber Sc Γ n v (nI 0) (65535)) (Nat.le_of_ble_eq_true rfl) (Nat.le_of_ble_eq_true rfl) (Nat.le_of_ble_eq_true rfl) (Nat.le_of_ble_eq_true rfl) (Nat.le_of_ble_eq_true rfl) rfl (fun w h qv hok => ?_) (fun x h qx hok => ?_)
  rotate_left
  · obtain ⟨rfl, hx2⟩ := q_cN.x qx
    rw [e0, e65] at hx2
    exact t_out rfl ⟨Or.inr ⟨_, rfl, by decide⟩, rfl, Γ, hok, fr89.rf, fun _ _ => rfl, fun _ _ => rfl, by rw [q_mf_no (by omega), q_mf_no (by omega)]; exact hM⟩
  obtain ⟨rfl, hv0, hv1⟩ := q_cN.v qv
  rw [e0] at hv0
  rw [e65] at hv1
  have hy : q_ok4 l.toInt m.toInt g.toInt v.toInt many := ⟨hl0, hl1, hk0, hk1, hg0, hg1, hv0, hv1⟩
  obtain ⟨rfl, rfl, rfl⟩ := hM.eqs g0 g1
  obtain ⟨j, hj, rfl⟩ := q_tnat (by omega) hl0 hl1
  obtain ⟨k, hk, rfl⟩ := q_tnat (B := 6) (by omega) hk0 hk1
  obtain ⟨i, hi, rfl⟩ := q_tnat (B := 8) (by omega) hg0 hg1
  obtain ⟨y1, y2, y3, y4, y5, -⟩ := id g4
  refine q_aload_n dX4_member_29 rfl ?_
  refine t_getr 1 kX4 (by decide) wPX4_30 dX4_member_30 hok g0 rfl ?_
  refine t_geti 4 kX3 (by decide) wPX4_50 dX4_member_33 hok y5 rfl (fun c0 => ?_)
  refine t_istore [.ref X, .int (nI j), .int (nI k), .int (nI i), .int ex, .int v, .int c0] (Or.inr ⟨rfl, dX4_member_36⟩) (by decide) rfl ?_
  refine q_aload_n dX4_member_38 rfl ?_
  refine t_getr 0 kX4 (by decide) wPX4_20 dX4_member_39 hok g0 rfl ?_
  refine q_iload_n dX4_member_42 rfl ?_
  refine t_aald "GroupFilters$Link" dX4_member_43 hok g1 rfl (by rw [g2]; exact vp_in_nI (by omega) (by omega)) (fun p hp => ?_)
  have kp := g3 _ _ hp
  rw [nI_clamp (by omega), q_PK_at hj] at hp
  obtain rfl := Option.some.inj hp
  refine q_aload_n dX4_member_44 rfl ?_
  refine t_getr 1 kX4 (by decide) wPX4_30 dX4_member_45 hok g0 rfl ?_
  refine q_iload_n dX4_member_48 rfl ?_
  refine q_iload_n dX4_member_49 rfl ?_
  refine q_iload dX4_member_50 rfl ?_
  refine q_iload dX4_member_52 rfl ?_
  have hm := hM.2.2 j hj
  obtain ⟨fs, hf1, -⟩ := hok.o hm.1.1
  refine q_callV (M' := mX1_changeWish) [.ref (X + 2 + 37 * many), .int (nI k), .int (nI i), .int ex, .int v] [] kX1 dX4_member_54 wPX4_74v wIX1_changeWish wSX1_changeWish iX1_changeWish oX1_changeWish rfl hf1 (eX1_changeWish Sc Γ n kp g4 hm k hk i hi ex v hx h hok) (Nat.le_of_ble_eq_true rfl) (Nat.le_of_ble_eq_true rfl) (Nat.le_of_ble_eq_true rfl) (Nat.le_of_ble_eq_true rfl) (Nat.le_of_ble_eq_true rfl) rfl (fun w h n' hP => ?_) (fun x h n' hP => by cases hP.1)
  obtain ⟨ev, hok, rfl⟩ := hP
  obtain rfl := Sum.inl.inj ev
  have hfr := (fr89.s8 (k := (8, 0, q_rg 8 (fupd (fun g => f (48 * j + 8 * k + g)) i v))) (hm.2 k hk).1).tr (fr89.s9 (k := (9, 0, q_rg 8 (fupd (fun g => e (48 * j + 8 * k + g)) i ex))) ((gs_ne (by omega)).trans (hm.2 k hk).2))
  refine q_aload_n dX4_member_57 rfl ?_
  refine t_getr 1 kX4 (by decide) wPX4_30 dX4_member_58 hok (hfr.at g0 (by decide) (by decide)) rfl ?_
  refine t_geti 4 kX3 (by decide) wPX4_50 dX4_member_61 hok (hfr.at y5 (by decide) (by decide)) rfl (fun c1 => ?_)
  refine q_iload dX4_member_64 rfl ?_
  refine q_isub dX4_member_66 ?_
  refine q_iret dX4_member_67 rfl (rfl) ⟨Or.inl ⟨_, rfl⟩, rfl, _, hok, hfr, fun a ha => (gs_ne (by omega)).trans (gs_ne (by omega)), fun a ha => (gs_ne (by omega)).trans (gs_ne (by omega)), ?_⟩
  rw [q_mf_yes (by omega) (by omega) (by omega) hy, q_mf_yes (by omega) (by omega) (by omega) hy]
  exact hM.set hj hk hi

set_option maxHeartbeats 4000000 in
theorem eX4_clear (Sc : q_S) (Γ : Nat → q_K) (n : Nat) {X many : Nat} {f e : Nat → Int32} (hG : kGF Γ X many) (hM : kGm Γ X many f e) (hm1 : 1 ≤ many) (hm4 : many ≤ 4) (h : q_H) (hok : q_ok Γ h) : q_A Sc mX4_clear 0 [.ref X, .retAddr 0] [] h n 0 0 (fun O h' n' => O = .inl none ∧ n' = n ∧ ∃ Γ' : Nat → q_K, q_ok Γ' h' ∧ fr89 Γ Γ' ∧ (∀ j, X + 2 + 37 * many ≤ j → Γ' j = Γ j) ∧ (∀ j, j < X → Γ' j = Γ j) ∧ kGm Γ' X many z0 z0) := by
  obtain ⟨la, lg, ps, g0, g1, g2, g3, g4⟩ := id hG
  obtain ⟨rfl, rfl, rfl⟩ := hM.eqs g0 g1
  have hl : ∀ (d i : Nat) (Γi : Nat → q_K) (h : q_H), i + d = many → q_ok Γi h → fr89 Γ Γi → (∀ j, X + 2 + 37 * many ≤ j → Γi j = Γ j) → (∀ j, j < X → Γi j = Γ j) → (∀ l, l < many → kMe Γi (X + 2 + 37 * l)) → (∀ l, l < i → kMm Γi (X + 2 + 37 * l) l z0 z0) → q_A Sc mX4_clear 2 [.ref X, .int (nI i)] [] h n 0 0 (fun O h' n' => O = .inl none ∧ n' = n ∧ ∃ Γ' : Nat → q_K, q_ok Γ' h' ∧ fr89 Γ Γ' ∧ (∀ j, X + 2 + 37 * many ≤ j → Γ' j = Γ j) ∧ (∀ j, j < X → Γ' j = Γ j) ∧ kGm Γ' X many z0 z0) := by
    intro d
    induction d with
    | zero =>
      intro i Γi h hid hok hfr hf1 hf2 hme hz
      have k0 := hfr.at g0 (by decide) (by decide)
      have k1 := hfr.at g1 (by decide) (by decide)
      refine q_iload_n dX4_clear_2 rfl ?_
      refine q_aload_n dX4_clear_3 rfl ?_
      refine t_getr 0 kX4 (by decide) wPX4_20 dX4_clear_4 hok k0 rfl ?_
      refine t_alen dX4_clear_7 hok k1 rfl ?_
      rw [g2]
      refine t_icmp_ge_n (tgt := 26) (by omega) (by omega) dX4_clear_8 (by decide) (fun c => ?_) (fun c => absurd c (by omega))
      refine q_aload_n dX4_clear_26 rfl ?_
      refine t_getr 1 kX4 (by decide) wPX4_30 dX4_clear_27 hok k0 rfl ?_
      have k4 := g4.fr hfr
      obtain ⟨y1, y2, y3, y4, y5, -⟩ := id k4
      refine t_callV (M' := mX3_reset) [] [] kX3 dX4_clear_30 wPX4_137v wIX3_reset wSX3_reset iX3_reset oX3_reset rfl hok y5 (sX3_reset Sc Γi n k4) (Nat.le_of_ble_eq_true rfl) (Nat.le_of_ble_eq_true rfl) (Nat.le_of_ble_eq_true rfl) (Nat.le_of_ble_eq_true rfl) (Nat.le_of_ble_eq_true rfl) rfl (fun v h qv hok => ?_) (fun x h qx hok => absurd qx (by intro q; cases q))
      obtain rfl := Sum.inl.inj qv
      exact q_vret dX4_clear_33 rfl ⟨rfl, rfl, Γi, hok, hfr, hf1, hf2, k0, k1, fun l hl => hz l (by omega)⟩
    | succ d ih =>
      intro i Γi h hid hok hfr hf1 hf2 hme hz
      have k0 := hfr.at g0 (by decide) (by decide)
      have k1 := hfr.at g1 (by decide) (by decide)
      refine q_iload_n dX4_clear_2 rfl ?_
      refine q_aload_n dX4_clear_3 rfl ?_
      refine t_getr 0 kX4 (by decide) wPX4_20 dX4_clear_4 hok k0 rfl ?_
      refine t_alen dX4_clear_7 hok k1 rfl ?_
      rw [g2]
      refine t_icmp_ge_n (tgt := 26) (by omega) (by omega) dX4_clear_8 (by decide) (fun c => absurd c (by omega)) (fun c => ?_)
      refine q_aload_n dX4_clear_11 rfl ?_
      refine t_getr 0 kX4 (by decide) wPX4_20 dX4_clear_12 hok k0 rfl ?_
      refine q_iload_n dX4_clear_15 rfl ?_
      refine t_aald "GroupFilters$Link" dX4_clear_16 hok k1 rfl (by rw [g2]; exact vp_in_nI (by omega) (by omega)) (fun p hp => ?_)
      have kp := (g3 _ _ hp).fr hfr
      rw [nI_clamp (by omega), q_PK_at (show i < many by omega)] at hp
      obtain rfl := Option.some.inj hp
      have hm := hme i (by omega)
      obtain ⟨fs, hf9, -⟩ := hok.o hm.1.1
      refine q_callV (M' := mX1_reset) [] [] kX1 dX4_clear_17 wPX4_134v wIX1_reset wSX1_reset iX1_reset oX1_reset rfl hf9 (eX1_reset Sc Γi n _ kp hm h hok) (Nat.le_of_ble_eq_true rfl) (Nat.le_of_ble_eq_true rfl) (Nat.le_of_ble_eq_true rfl) (Nat.le_of_ble_eq_true rfl) (Nat.le_of_ble_eq_true rfl) rfl (fun v h n' hP => ?_) (fun x h n' hP => by cases hP.1)
      obtain ⟨ev, rfl, Γ', hok, hfr2, hfm, hmm⟩ := hP
      obtain rfl := Sum.inl.inj ev
      refine t_iinc_n [.ref X, .int (nI (i + 1))] dX4_clear_20 rfl (by decide) rfl ?_
      refine q_goto (tgt := 2) dX4_clear_23 (by decide) ?_
      refine ih (i + 1) Γ' h (by omega) hok (hfr.tr hfr2) (fun j hj => (hfm j (by omega)).trans (hf1 j hj)) (fun j hj => (hfm j (by omega)).trans (hf2 j hj)) (fun l hl => ?_) (fun l hl => ?_)
      · by_cases hll : l = i
        · subst hll
          exact (hmm l).e
        · obtain ⟨⟨o1, o2, o3⟩, o4⟩ := hme l hl
          have ag : ∀ j, X + 2 + 37 * l ≤ j → j < X + 2 + 37 * l + 37 → Γ' j = Γi j := fun j h1 h2 => hfm j (by omega)
          exact ⟨⟨(ag _ (by omega) (by omega)).trans o1, (ag _ (by omega) (by omega)).trans o2, fun m hm => (ag _ (by omega) (by omega)).trans (o3 m hm)⟩, fun m hm => by
            obtain ⟨⟨F, hF⟩, E, hE⟩ := o4 m hm
            exact ⟨⟨F, (ag _ (by omega) (by omega)).trans hF⟩, E, (ag _ (by omega) (by omega)).trans hE⟩⟩
      · by_cases hll : l = i
        · subst hll
          exact hmm l
        · exact (hz l (by omega)).of (fun j h1 h2 => hfm j (by omega)) (fun _ _ _ => ⟨rfl, rfl⟩)
  refine q_iconst (v := nI 0) dX4_clear_0 rfl ?_
  refine t_istore [.ref X, .int (nI 0)] (Or.inl ⟨1, rfl, rfl, dX4_clear_1⟩) (by decide) rfl ?_
  exact hl many 0 Γ h (by omega) hok fr89.rf (fun _ _ => rfl) (fun _ _ => rfl) (fun l hl => (hM.2.2 l hl).e) (fun l hl => absurd hl (by omega))

