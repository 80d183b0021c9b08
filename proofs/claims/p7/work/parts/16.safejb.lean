def q_hd (a s : Int32) : Int32 := if (a >>> (s &&& 31)) &&& nI 1 = 0 then nI 0 else nI 1
theorem eX4_holds (Sc : q_S) (Γ : Nat → q_K) (n : Nat) (a s : Int32) : q_safe Sc Γ mX4_holds [.int a, .int s] n 0 0 (fun O => O = .inl (some (.int (q_hd a s)))) := by
  intro h hok
  show q_A Sc mX4_holds 0 [.int a, .int s] [] h n 0 0 (fun O h' n' => (O = .inl (some (.int (q_hd a s)))) ∧ q_ok Γ h' ∧ n' = n)
  refine q_iload_n dX4_holds_0 rfl ?_
  refine q_iload_n dX4_holds_1 rfl ?_
  refine q_ishr dX4_holds_2 ?_
  refine q_iconst (v := nI 1) dX4_holds_3 rfl ?_
  refine q_iand dX4_holds_4 ?_
  refine q_if_eq (tgt := 12) dX4_holds_5 (by decide) (fun c => ?_) (fun c => ?_)
  · refine q_iconst (v := nI 0) dX4_holds_12 rfl ?_
    exact q_iret dX4_holds_13 rfl (rfl) ⟨by unfold q_hd; rw [if_pos c], hok, rfl⟩
  · refine q_iconst (v := nI 1) dX4_holds_8 rfl ?_
    refine q_goto (tgt := 13) dX4_holds_9 (by decide) ?_
    exact q_iret dX4_holds_13 rfl (rfl) ⟨by unfold q_hd; rw [if_neg c], hok, rfl⟩

def q_wn (x e s : Int32) : Int32 := if q_hd x s = e then nI 0 else nI 1
theorem eX2_wants (Sc : q_S) (Γ : Nat → q_K) (n : Nat) {i a b : Nat} {F E : Nat → Int32} (hi : Γ i = (4, 2, [(1, a), (1, b)])) (ha : Γ a = (8, 0, q_rg 8 F)) (hb : Γ b = (9, 0, q_rg 8 E)) (g : Nat) (hg : g < 8) (s : Int32) : q_safe Sc Γ mX2_wants [.ref i, .int (nI g), .int s] n 0 0 (fun O => O = .inl (some (.int (q_wn (F g) (E g) s)))) := by
  intro h hok
  show q_A Sc mX2_wants 0 [.ref i, .int (nI g), .int s] [] h n 0 0 (fun O h' n' => (O = .inl (some (.int (q_wn (F g) (E g) s)))) ∧ q_ok Γ h' ∧ n' = n)
  refine q_aload_n dX2_wants_0 rfl ?_
  refine t_getr 0 kX2 (by decide) wPX2_9 dX2_wants_1 hok hi rfl ?_
  refine q_iload_n dX2_wants_4 rfl ?_
  refine x_iald (by decide) dX2_wants_5 hok ha hg ?_
  refine q_iload_n dX2_wants_6 rfl ?_
  refine t_callS (M' := mX4_holds) [.int (F g), .int s] [] dX2_wants_7 wPX2_19 wTX4_holds wNX4 iX4_holds oX4_holds rfl hok (eX4_holds Sc Γ n (F g) s) (Nat.le_of_ble_eq_true rfl) (Nat.le_of_ble_eq_true rfl) (Nat.le_of_ble_eq_true rfl) (Nat.le_of_ble_eq_true rfl) (Nat.le_of_ble_eq_true rfl) rfl (fun v h qv hok => ?_) (fun x h qx hok => absurd qx (by intro q; cases q))
  obtain rfl := Sum.inl.inj qv
  refine q_aload_n dX2_wants_10 rfl ?_
  refine t_getr 1 kX2 (by decide) wPX2_15 dX2_wants_11 hok hi rfl ?_
  refine q_iload_n dX2_wants_14 rfl ?_
  refine x_zald (by decide) dX2_wants_15 hok hb hg ?_
  refine q_icmp_eq (tgt := 23) dX2_wants_16 (by decide) (fun c => ?_) (fun c => ?_)
  · refine q_iconst (v := nI 0) dX2_wants_23 rfl ?_
    exact q_iret dX2_wants_24 rfl (rfl) ⟨by unfold q_wn; rw [if_pos c], hok, rfl⟩
  · refine q_iconst (v := nI 1) dX2_wants_19 rfl ?_
    refine q_goto (tgt := 24) dX2_wants_20 (by decide) ?_
    exact q_iret dX2_wants_24 rfl (rfl) ⟨by unfold q_wn; rw [if_neg c], hok, rfl⟩
theorem gs_sw {Γ : Nat → q_K} {a b : Nat} {x x' y : q_K} {h : q_H} (hab : a ≠ b) (hok : q_ok (gset (gset (gset Γ a x) b y) a x') h) : q_ok (gset (gset Γ a x') b y) h := fun j => by
  have h1 := hok j
  by_cases hj : j = b
  · subst hj
    rw [gs_ne (Ne.symm hab), gs_at] at h1
    rw [gs_at]
    exact h1
  · by_cases hja : j = a
    · subst hja
      rw [gs_at] at h1
      rw [gs_ne hj, gs_at]
      exact h1
    · rw [gs_ne hja, gs_ne hj, gs_ne hja] at h1
      rw [gs_ne hj, gs_ne hja]
      exact h1
theorem k_ne {Γ : Nat → q_K} {i j t t' : Nat} {r r' : Nat × List (Nat × Nat)} (hi : Γ i = (t, r)) (hj : Γ j = (t', r')) (h : t ≠ t') : i ≠ j := fun e => h (congrArg Prod.fst (hi.symm.trans ((congrArg Γ e).trans hj)))

set_option maxHeartbeats 4000000 in
theorem eX2_reset (Sc : q_S) (Γ : Nat → q_K) (n : Nat) {i a b : Nat} {F E : Nat → Int32} (hi : Γ i = (4, 2, [(1, a), (1, b)])) (ha : Γ a = (8, 0, q_rg 8 F)) (hb : Γ b = (9, 0, q_rg 8 E)) (h : q_H) (hok : q_ok Γ h) : q_A Sc mX2_reset 0 [.ref i, .retAddr 0] [] h n 0 0 (fun O h' n' => O = .inl none ∧ q_ok (gset (gset Γ a (8, 0, q_rg 8 z0)) b (9, 0, q_rg 8 z0)) h' ∧ n' = n) := by
  have hab : a ≠ b := k_ne ha hb (by decide)
  have hia : i ≠ a := k_ne hi ha (by decide)
  have hib : i ≠ b := k_ne hi hb (by decide)
  have hl : ∀ (d k : Nat) (F E : Nat → Int32) (h : q_H), k + d = 8 → (∀ j, j < k → F j = nI 0 ∧ E j = nI 0) → q_ok (gset (gset Γ a (8, 0, q_rg 8 F)) b (9, 0, q_rg 8 E)) h → q_A Sc mX2_reset 2 [.ref i, .int (nI k)] [] h n 0 0 (fun O h' n' => O = .inl none ∧ q_ok (gset (gset Γ a (8, 0, q_rg 8 z0)) b (9, 0, q_rg 8 z0)) h' ∧ n' = n) := by
    intro d
    induction d with
    | zero =>
      intro k F E h hk hz hok
      refine q_iload_n dX2_reset_2 rfl ?_
      refine q_bipush (v := nI 8) dX2_reset_3 rfl ?_
      refine t_icmp_ge_n (tgt := 28) (by omega) (by omega) dX2_reset_5 (by decide) (fun c => ?_) (fun c => absurd c (by omega))
      rw [q_rg_cg (N := 8) (F := F) (F' := z0) (fun j hj => (hz j (by omega)).1), q_rg_cg (N := 8) (F := E) (F' := z0) (fun j hj => (hz j (by omega)).2)] at hok
      exact q_vret dX2_reset_28 rfl ⟨rfl, hok, rfl⟩
    | succ d ih =>
      intro k F E h hk hz hok
      refine q_iload_n dX2_reset_2 rfl ?_
      refine q_bipush (v := nI 8) dX2_reset_3 rfl ?_
      refine t_icmp_ge_n (tgt := 28) (by omega) (by omega) dX2_reset_5 (by decide) (fun c => absurd c (by omega)) (fun c => ?_)
      refine q_aload_n dX2_reset_8 rfl ?_
      refine t_getr 0 kX2 (by decide) wPX2_9 dX2_reset_9 hok ((gs_ne hib).trans ((gs_ne hia).trans hi)) rfl ?_
      refine q_iload_n dX2_reset_12 rfl ?_
      refine q_iconst (v := nI 0) dX2_reset_13 rfl ?_
      refine x_iast (by decide) dX2_reset_14 hok ((gs_ne hab).trans gs_at) (show k < 8 by omega) (fun h hok => ?_)
      have hok := gs_sw hab hok
      refine q_aload_n dX2_reset_15 rfl ?_
      refine t_getr 1 kX2 (by decide) wPX2_15 dX2_reset_16 hok ((gs_ne hib).trans ((gs_ne hia).trans hi)) rfl ?_
      refine q_iload_n dX2_reset_19 rfl ?_
      refine q_iconst (v := nI 0) dX2_reset_20 rfl ?_
      refine x_zast (by decide) dX2_reset_21 hok gs_at (show k < 8 by omega) rfl (fun h hok => ?_)
      have hok := gs_gs hok
      refine t_iinc_n [.ref i, .int (nI (k + 1))] dX2_reset_22 rfl (by decide) rfl ?_
      refine q_goto (tgt := 2) dX2_reset_25 (by decide) ?_
      refine ih (k + 1) _ _ h (by omega) (fun j hj => ?_) hok
      by_cases hjk : j = k
      · subst hjk
        exact ⟨if_pos rfl, if_pos rfl⟩
      · exact ⟨(if_neg hjk).trans (hz j (by omega)).1, (if_neg hjk).trans (hz j (by omega)).2⟩
  refine q_iconst (v := nI 0) dX2_reset_0 rfl ?_
  refine t_istore [.ref i, .int (nI 0)] (Or.inl ⟨1, rfl, rfl, dX2_reset_1⟩) (by decide) rfl ?_
  refine hl 8 0 F E h rfl (fun j hj => absurd hj (by omega)) ?_
  have h1 := gs_id ha hok
  exact gs_id ((gs_ne (Ne.symm hab)).trans hb) h1

set_option maxHeartbeats 4000000 in
theorem eX1_reset (Sc : q_S) (Γ : Nat → q_K) (n B : Nat) (hk : kLk Γ B) (hm : kMe Γ B) (h : q_H) (hok : q_ok Γ h) : q_A Sc mX1_reset 0 [.ref B, .retAddr 0] [] h n 0 0 (fun O h' n' => O = .inl none ∧ n' = n ∧ ∃ Γ' : Nat → q_K, q_ok Γ' h' ∧ fr89 Γ Γ' ∧ (∀ j, j < B + 19 ∨ B + 37 ≤ j → Γ' j = Γ j) ∧ ∀ l, kMm Γ' B l z0 z0) := by
  obtain ⟨fa, ma, fl, ml, g0, g1, g2, g3, -⟩ := id hk
  have hl2 : ∀ (d m : Nat) (Γm : Nat → q_K) (h : q_H), m + d = 6 → fr89 Γ Γm → (∀ j, j < B + 19 ∨ B + 37 ≤ j → Γm j = Γ j) → kMe Γm B → (∀ m', m' < m → Γm (B + 20 + 3 * m') = (8, 0, q_rg 8 z0) ∧ Γm (B + 21 + 3 * m') = (9, 0, q_rg 8 z0)) → q_ok Γm h → q_A Sc mX1_reset 25 [.ref B, .int (nI m)] [] h n 0 0 (fun O h' n' => O = .inl none ∧ n' = n ∧ ∃ Γ' : Nat → q_K, q_ok Γ' h' ∧ fr89 Γ Γ' ∧ (∀ j, j < B + 19 ∨ B + 37 ≤ j → Γ' j = Γ j) ∧ ∀ l, kMm Γ' B l z0 z0) := by
    intro d
    induction d with
    | zero =>
      intro m Γm h hmd hfr hfm hme hz hok
      obtain rfl : m = 6 := by omega
      refine q_iload_n dX1_reset_25 rfl ?_
      refine q_bipush (v := nI 6) dX1_reset_26 rfl ?_
      refine t_icmp_ge_n (tgt := 46) (by omega) (by omega) dX1_reset_28 (by decide) (fun c => ?_) (fun c => absurd c (by omega))
      refine q_aload_n dX1_reset_46 rfl ?_
      refine q_sipush (v := nI 500) dX1_reset_47 rfl ?_
      refine t_puti 6 kX1 (by decide) wPX1_34 rfl dX1_reset_50 hok hme.1.1 rfl ⟨rfl, rfl⟩ (fun h hok => ?_)
      refine q_aload_n dX1_reset_53 rfl ?_
      refine q_iconst (v := nI 2) dX1_reset_54 rfl ?_
      refine q_bipush (v := nI 20) dX1_reset_55 rfl ?_
      refine q_iconst (v := nI 4) dX1_reset_57 rfl ?_
      refine t_callV (M' := mX1_set) [.int (nI 2), .int (nI 20), .int (nI 4)] [] kX1 dX1_reset_58 wPX1_37v wIX1_set wSX1_set iX1_set oX1_set rfl hok hme.1.1 (sX1_set Sc Γm n (hk.fr hfr) (nI 2) (nI 20) (nI 4)) (Nat.le_of_ble_eq_true rfl) (Nat.le_of_ble_eq_true rfl) (Nat.le_of_ble_eq_true rfl) (Nat.le_of_ble_eq_true rfl) (Nat.le_of_ble_eq_true rfl) rfl (fun v h qv hok => ?_) (fun x h qx hok => absurd qx (by intro q; cases q))
      obtain rfl := Sum.inl.inj qv
      exact q_vret dX1_reset_61 rfl ⟨rfl, rfl, Γm, hok, hfr, hfm, fun l => ⟨hme.1, fun m hm => hz m (by omega)⟩⟩
    | succ d ih =>
      intro m Γm h hmd hfr hfm hme hz hok
      refine q_iload_n dX1_reset_25 rfl ?_
      refine q_bipush (v := nI 6) dX1_reset_26 rfl ?_
      refine t_icmp_ge_n (tgt := 46) (by omega) (by omega) dX1_reset_28 (by decide) (fun c => absurd c (by omega)) (fun c => ?_)
      obtain ⟨⟨F, hF⟩, E, hE⟩ := hme.2 m (by omega)
      refine q_aload_n dX1_reset_31 rfl ?_
      refine t_getr 2 kX1 (by decide) wPX1_19 dX1_reset_32 hok hme.1.1 rfl ?_
      refine q_iload_n dX1_reset_35 rfl ?_
      refine t_aald "GroupFilters$Member" dX1_reset_36 hok hme.1.2.1 rfl (by rw [List.length_map, List.length_range]; exact vp_in_nI (by omega) (by omega)) (fun p hp => ?_)
      rw [nI_clamp (by omega), q_PM_at (by omega)] at hp
      obtain rfl := Option.some.inj hp
      have ho := hme.1.2.2 m (by omega)
      obtain ⟨fs, hf1, -⟩ := hok.o ho
      refine q_callV (M' := mX2_reset) [] [] kX2 dX1_reset_37 wPX1_33v wIX2_reset wSX2_reset iX2_reset oX2_reset rfl hf1 (eX2_reset Sc Γm n ho hF hE h hok) (Nat.le_of_ble_eq_true rfl) (Nat.le_of_ble_eq_true rfl) (Nat.le_of_ble_eq_true rfl) (Nat.le_of_ble_eq_true rfl) (Nat.le_of_ble_eq_true rfl) rfl (fun v h n' hP => ?_) (fun x h n' hP => by cases hP.1)
      obtain ⟨ev, hok, rfl⟩ := hP
      obtain rfl := Sum.inl.inj ev
      have hE2 : gset Γm (B + 20 + 3 * m) (8, 0, q_rg 8 z0) (B + 21 + 3 * m) = (9, 0, q_rg 8 E) := (gs_ne (by omega)).trans hE
      have hfr2 : fr89 Γm (gset (gset Γm (B + 20 + 3 * m) (8, 0, q_rg 8 z0)) (B + 21 + 3 * m) (9, 0, q_rg 8 z0)) := (fr89.s8 hF).tr (fr89.s9 hE2)
      refine t_iinc_n [.ref B, .int (nI (m + 1))] dX1_reset_40 rfl (by decide) rfl ?_
      refine q_goto (tgt := 25) dX1_reset_43 (by decide) ?_
      refine ih (m + 1) _ h (by omega) (hfr.tr hfr2) (fun j hj => ?_) ⟨hme.1.fr hfr2, fun m2 hm2 => ?_⟩ (fun m2 hm2 => ?_) hok
      · rw [gs_ne (by omega), gs_ne (by omega)]
        exact hfm j hj
      · by_cases hmm : m2 = m
        · subst hmm
          exact ⟨⟨_, (gs_ne (by omega)).trans gs_at⟩, _, gs_at⟩
        · obtain ⟨⟨F2, hF2⟩, E2, hE3⟩ := hme.2 m2 hm2
          exact ⟨⟨F2, (gs_ne (by omega)).trans ((gs_ne (by omega)).trans hF2)⟩, E2, (gs_ne (by omega)).trans ((gs_ne (by omega)).trans hE3)⟩
      · by_cases hmm : m2 = m
        · subst hmm
          exact ⟨(gs_ne (by omega)).trans gs_at, gs_at⟩
        · obtain ⟨q1, q2⟩ := hz m2 (by omega)
          exact ⟨(gs_ne (by omega)).trans ((gs_ne (by omega)).trans q1), (gs_ne (by omega)).trans ((gs_ne (by omega)).trans q2)⟩
  have hl1 : ∀ (d k : Nat) (h : q_H), k + d = 8 → q_ok Γ h → q_A Sc mX1_reset 2 [.ref B, .int (nI k)] [] h n 0 0 (fun O h' n' => O = .inl none ∧ n' = n ∧ ∃ Γ' : Nat → q_K, q_ok Γ' h' ∧ fr89 Γ Γ' ∧ (∀ j, j < B + 19 ∨ B + 37 ≤ j → Γ' j = Γ j) ∧ ∀ l, kMm Γ' B l z0 z0) := by
    intro d
    induction d with
    | zero =>
      intro k h hkd hok
      refine q_iload_n dX1_reset_2 rfl ?_
      refine q_bipush (v := nI 8) dX1_reset_3 rfl ?_
      refine t_icmp_ge_n (tgt := 23) (by omega) (by omega) dX1_reset_5 (by decide) (fun c => ?_) (fun c => absurd c (by omega))
      refine q_iconst (v := nI 0) dX1_reset_23 rfl ?_
      refine t_istore [.ref B, .int (nI 0)] (Or.inl ⟨1, rfl, rfl, dX1_reset_24⟩) (by decide) rfl ?_
      exact hl2 6 0 Γ h rfl fr89.rf (fun _ _ => rfl) hm (fun m hm => absurd hm (by omega)) hok
    | succ d ih =>
      intro k h hkd hok
      refine q_iload_n dX1_reset_2 rfl ?_
      refine q_bipush (v := nI 8) dX1_reset_3 rfl ?_
      refine t_icmp_ge_n (tgt := 23) (by omega) (by omega) dX1_reset_5 (by decide) (fun c => absurd c (by omega)) (fun c => ?_)
      refine q_aload_n dX1_reset_8 rfl ?_
      refine t_getr 1 kX1 (by decide) wPX1_11 dX1_reset_9 hok g0 rfl ?_
      refine q_iload_n dX1_reset_12 rfl ?_
      refine t_aald "GroupFilters$Filter" dX1_reset_13 hok g1 rfl (by rw [g2]; exact vp_in_nI (by omega) (by omega)) (fun p hp => ?_)
      have kp := g3 _ _ hp
      obtain ⟨t, k1, k2⟩ := id kp
      refine t_callV (M' := mX0_reset) [] [] kX0 dX1_reset_14 wPX1_32v wIX0_reset wSX0_reset iX0_reset oX0_reset rfl hok k1 (sX0_reset Sc Γ n kp) (Nat.le_of_ble_eq_true rfl) (Nat.le_of_ble_eq_true rfl) (Nat.le_of_ble_eq_true rfl) (Nat.le_of_ble_eq_true rfl) (Nat.le_of_ble_eq_true rfl) rfl (fun v h qv hok => ?_) (fun x h qx hok => absurd qx (by intro q; cases q))
      obtain rfl := Sum.inl.inj qv
      refine t_iinc_n [.ref B, .int (nI (k + 1))] dX1_reset_17 rfl (by decide) rfl ?_
      refine q_goto (tgt := 2) dX1_reset_20 (by decide) ?_
      exact ih (k + 1) h (by omega) hok
  refine q_iconst (v := nI 0) dX1_reset_0 rfl ?_
  refine t_istore [.ref B, .int (nI 0)] (Or.inl ⟨1, rfl, rfl, dX1_reset_1⟩) (by decide) rfl ?_
  exact hl1 8 0 h rfl hok

theorem q_wn_bl (x e s : Int32) : q_wn x e s = nI 0 ∨ q_wn x e s = nI 1 := by
  unfold q_wn
  split
  · exact Or.inl rfl
  · exact Or.inr rfl
def q_any (P : Nat → Int32) : q_O → Prop := fun O => ∃ x, O = .inl (some (.int x)) ∧ ((x = nI 1 ∧ ∃ m, m < 6 ∧ P m = nI 1) ∨ (x = nI 0 ∧ ∀ m, m < 6 → P m = nI 0))
set_option maxHeartbeats 4000000 in
theorem eX1_hasMemberFor (Sc : q_S) (Γ : Nat → q_K) (n : Nat) {B l : Nat} {f e : Nat → Int32} (hm : kMm Γ B l f e) (g : Nat) (hg : g < 8) (s : Int32) : q_safe Sc Γ mX1_hasMemberFor [.ref B, .int (nI g), .int s] n 0 0 (q_any (fun m => q_wn (f (48 * l + 8 * m + g)) (e (48 * l + 8 * m + g)) s)) := by
  intro h hok
  generalize hP : (fun m => q_wn (f (48 * l + 8 * m + g)) (e (48 * l + 8 * m + g)) s) = P
  show q_A Sc mX1_hasMemberFor 0 [.ref B, .int (nI g), .int s, .retAddr 0] [] h n 0 0 (fun O h' n' => (∃ x, O = .inl (some (.int x)) ∧ ((x = nI 1 ∧ ∃ m, m < 6 ∧ P m = nI 1) ∨ (x = nI 0 ∧ ∀ m, m < 6 → P m = nI 0))) ∧ q_ok Γ h' ∧ n' = n)
  have hl : ∀ (d m : Nat) (h : q_H), m + d = 6 → (∀ m', m' < m → P m' = nI 0) → q_ok Γ h → q_A Sc mX1_hasMemberFor 2 [.ref B, .int (nI g), .int s, .int (nI m)] [] h n 0 0 (fun O h' n' => (∃ x, O = .inl (some (.int x)) ∧ ((x = nI 1 ∧ ∃ m, m < 6 ∧ P m = nI 1) ∨ (x = nI 0 ∧ ∀ m, m < 6 → P m = nI 0))) ∧ q_ok Γ h' ∧ n' = n) := by
    intro d
    induction d with
    | zero =>
      intro m h hmd hz hok
      refine q_iload_n dX1_hasMemberFor_2 rfl ?_
      refine q_bipush (v := nI 6) dX1_hasMemberFor_3 rfl ?_
      refine t_icmp_ge_n (tgt := 30) (by omega) (by omega) dX1_hasMemberFor_5 (by decide) (fun c => ?_) (fun c => absurd c (by omega))
      refine q_iconst (v := nI 0) dX1_hasMemberFor_30 rfl ?_
      exact q_iret dX1_hasMemberFor_31 rfl (rfl) ⟨⟨_, rfl, Or.inr ⟨rfl, fun m hm => hz m (by omega)⟩⟩, hok, rfl⟩
    | succ d ih =>
      intro m h hmd hz hok
      refine q_iload_n dX1_hasMemberFor_2 rfl ?_
      refine q_bipush (v := nI 6) dX1_hasMemberFor_3 rfl ?_
      refine t_icmp_ge_n (tgt := 30) (by omega) (by omega) dX1_hasMemberFor_5 (by decide) (fun c => absurd c (by omega)) (fun c => ?_)
      refine q_aload_n dX1_hasMemberFor_8 rfl ?_
      refine t_getr 2 kX1 (by decide) wPX1_19 dX1_hasMemberFor_9 hok hm.1.1 rfl ?_
      refine q_iload_n dX1_hasMemberFor_12 rfl ?_
      refine t_aald "GroupFilters$Member" dX1_hasMemberFor_13 hok hm.1.2.1 rfl (by rw [List.length_map, List.length_range]; exact vp_in_nI (by omega) (by omega)) (fun p hp => ?_)
      rw [nI_clamp (by omega), q_PM_at (by omega)] at hp
      obtain rfl := Option.some.inj hp
      refine q_iload_n dX1_hasMemberFor_14 rfl ?_
      refine q_iload_n dX1_hasMemberFor_15 rfl ?_
      have ho := hm.1.2.2 m (by omega)
      refine t_callV (M' := mX2_wants) [.int (nI g), .int s] [] kX2 dX1_hasMemberFor_16 wPX1_140v wIX2_wants wSX2_wants iX2_wants oX2_wants rfl hok ho (eX2_wants Sc Γ n ho (hm.2 m (by omega)).1 (hm.2 m (by omega)).2 g hg s) (Nat.le_of_ble_eq_true rfl) (Nat.le_of_ble_eq_true rfl) (Nat.le_of_ble_eq_true rfl) (Nat.le_of_ble_eq_true rfl) (Nat.le_of_ble_eq_true rfl) rfl (fun v h qv hok => ?_) (fun x h qx hok => absurd qx (by intro q; cases q))
      obtain rfl := Sum.inl.inj qv
      have hPm : q_wn (f (48 * l + 8 * m + g)) (e (48 * l + 8 * m + g)) s = P m := congrFun hP m
      refine q_if_eq (tgt := 24) dX1_hasMemberFor_19 (by decide) (fun c => ?_) (fun c => ?_)
      · refine t_iinc_n [.ref B, .int (nI g), .int s, .int (nI (m + 1))] dX1_hasMemberFor_24 rfl (by decide) rfl ?_
        refine q_goto (tgt := 2) dX1_hasMemberFor_27 (by decide) ?_
        refine ih (m + 1) h (by omega) (fun m2 hm2 => ?_) hok
        by_cases hmm : m2 = m
        · subst hmm
          exact hPm.symm.trans c
        · exact hz m2 (by omega)
      · refine q_iconst (v := nI 1) dX1_hasMemberFor_22 rfl ?_
        refine q_iret dX1_hasMemberFor_23 rfl (rfl) ⟨⟨_, rfl, Or.inl ⟨rfl, m, by omega, ?_⟩⟩, hok, rfl⟩
        rcases q_wn_bl (f (48 * l + 8 * m + g)) (e (48 * l + 8 * m + g)) s with q | q
        · exact absurd q c
        · exact hPm.symm.trans q
  refine q_iconst (v := nI 0) dX1_hasMemberFor_0 rfl ?_
  refine t_istore [.ref B, .int (nI g), .int s, .int (nI 0)] (Or.inl ⟨3, rfl, rfl, dX1_hasMemberFor_1⟩) (by decide) rfl ?_
  exact hl 6 0 h rfl (fun m hm => absurd hm (by omega)) hok

set_option maxRecDepth 20000 in
set_option maxHeartbeats 4000000 in
theorem sX1_cw44 (Sc : q_S) (Γ : Nat → q_K) (n : Nat) {a0 : Nat} (b0 : kLk Γ a0) {a1 : Nat} (b1 : kLg Γ a1) (a3 : Nat) (b3 : a3 < 8) (a4 : Int32) (b4 : q_bl a4) (a5 a6 a7 : Int32) (h : q_H) (hok : q_ok Γ h) : q_A Sc mX1_changeWish 44 [.ref a0, .ref a1, .retAddr 0, .int (nI a3), .int (a4), .int (a5), .retAddr 0, .int (a6), .int (a7), .retAddr 0, .retAddr 0, .retAddr 0, .retAddr 0] [] h n 0 0 (fun O h' n' => (q_RV) O ∧ q_ok Γ h' ∧ n' = n) := by
  refine q_iload dX1_changeWish_44 rfl ?_
  refine q_iload dX1_changeWish_46 rfl ?_
  refine q_icmp_eq (tgt := 70) dX1_changeWish_48 (by decide) (fun c1423 => ?_) (fun c1423 => ?_)
  ·
    refine q_iload dX1_changeWish_70 rfl ?_
    refine q_iload dX1_changeWish_72 rfl ?_
    refine q_iconst (v := -1) dX1_changeWish_74 rfl ?_
    refine q_ixor dX1_changeWish_75 ?_
    generalize (a6) ^^^ (-1) = z1424
    refine q_iand dX1_changeWish_76 ?_
    generalize (a5) &&& (z1424) = z1425
    refine t_istore [.ref a0, .ref a1, .retAddr 0, .int (nI a3), .int (a4), .int (a5), .retAddr 0, .int (a6), .int (a7), .int (z1425), .retAddr 0, .retAddr 0, .retAddr 0] (Or.inr ⟨rfl, dX1_changeWish_77⟩) (by decide) rfl ?_
    refine q_iload dX1_changeWish_79 rfl ?_
    refine q_iload dX1_changeWish_81 rfl ?_
    refine q_iconst (v := -1) dX1_changeWish_83 rfl ?_
    refine q_ixor dX1_changeWish_84 ?_
    generalize (a5) ^^^ (-1) = z1426
    refine q_iand dX1_changeWish_85 ?_
    generalize (a6) &&& (z1426) = z1427
    refine t_istore [.ref a0, .ref a1, .retAddr 0, .int (nI a3), .int (a4), .int (a5), .retAddr 0, .int (a6), .int (a7), .int (z1425), .int (z1427), .retAddr 0, .retAddr 0] (Or.inr ⟨rfl, dX1_changeWish_86⟩) (by decide) rfl ?_
    refine q_iload dX1_changeWish_88 rfl ?_
    refine q_if_eq (tgt := 98) dX1_changeWish_90 (by decide) (fun c1428 => ?_) (fun c1428 => ?_)
    ·
      refine q_iload dX1_changeWish_98 rfl ?_
      refine t_istore [.ref a0, .ref a1, .retAddr 0, .int (nI a3), .int (a4), .int (a5), .retAddr 0, .int (a6), .int (a7), .int (z1425), .int (z1427), .int (z1425), .retAddr 0] (Or.inr ⟨rfl, dX1_changeWish_100⟩) (by decide) rfl ?_
      refine q_iload dX1_changeWish_102 rfl ?_
      refine q_if_eq (tgt := 112) dX1_changeWish_104 (by decide) (fun c1429 => ?_) (fun c1429 => ?_)
      rotate_left
      · exact absurd c1428 c1429
      refine q_iload dX1_changeWish_112 rfl ?_
      refine t_istore [.ref a0, .ref a1, .retAddr 0, .int (nI a3), .int (a4), .int (a5), .retAddr 0, .int (a6), .int (a7), .int (z1425), .int (z1427), .int (z1425), .int (z1427)] (Or.inr ⟨rfl, dX1_changeWish_114⟩) (by decide) rfl ?_
      refine q_iload dX1_changeWish_116 rfl ?_
      refine q_if_eq (tgt := 130) dX1_changeWish_118 (by decide) (fun c1430 => ?_) (fun c1430 => ?_)
      ·
        refine q_iload dX1_changeWish_130 rfl ?_
        refine q_if_eq (tgt := 144) dX1_changeWish_132 (by decide) (fun c1431 => ?_) (fun c1431 => ?_)
        ·
          exact q_vret dX1_changeWish_144 rfl ⟨rfl, hok, rfl⟩
        ·
          refine q_aload_n dX1_changeWish_135 rfl ?_
          refine q_aload_n dX1_changeWish_136 rfl ?_
          refine q_iload_n dX1_changeWish_137 rfl ?_
          refine q_iconst (v := nI 5) dX1_changeWish_138 rfl ?_
          refine q_iload dX1_changeWish_139 rfl ?_
          obtain ⟨pu1432, qu1432, ru1432, su1432, gu1432, au1432, bu1432, cu1432, du1432, eu1432, fu1432⟩ := id b0
          refine t_callV (M' := mX1_hearReport) [.ref a1, .int (nI a3), .int (nI 5), .int (z1427)] [] kX1 dX1_changeWish_141 wPX1_136v wIX1_hearReport wSX1_hearReport iX1_hearReport oX1_hearReport rfl hok gu1432 (sX1_hearReport Sc Γ n b0 b1 (a3) (by omega) (nI 5) (z1427)) (Nat.le_of_ble_eq_true rfl) (Nat.le_of_ble_eq_true rfl) (Nat.le_of_ble_eq_true rfl) (Nat.le_of_ble_eq_true rfl) (Nat.le_of_ble_eq_true rfl) rfl (fun v1433 h qv1433 hok => ?_) (fun e1434 h qe1434 hok => absurd qe1434 (by intro q; cases q))
          obtain rfl := Sum.inl.inj qv1433
          exact q_vret dX1_changeWish_144 rfl ⟨rfl, hok, rfl⟩
      ·
        refine q_aload_n dX1_changeWish_121 rfl ?_
        refine q_aload_n dX1_changeWish_122 rfl ?_
        refine q_iload_n dX1_changeWish_123 rfl ?_
        refine q_iconst (v := nI 4) dX1_changeWish_124 rfl ?_
        refine q_iload dX1_changeWish_125 rfl ?_
        obtain ⟨pu1435, qu1435, ru1435, su1435, gu1435, au1435, bu1435, cu1435, du1435, eu1435, fu1435⟩ := id b0
        refine t_callV (M' := mX1_hearReport) [.ref a1, .int (nI a3), .int (nI 4), .int (z1425)] [] kX1 dX1_changeWish_127 wPX1_136v wIX1_hearReport wSX1_hearReport iX1_hearReport oX1_hearReport rfl hok gu1435 (sX1_hearReport Sc Γ n b0 b1 (a3) (by omega) (nI 4) (z1425)) (Nat.le_of_ble_eq_true rfl) (Nat.le_of_ble_eq_true rfl) (Nat.le_of_ble_eq_true rfl) (Nat.le_of_ble_eq_true rfl) (Nat.le_of_ble_eq_true rfl) rfl (fun v1436 h qv1436 hok => ?_) (fun e1437 h qe1437 hok => absurd qe1437 (by intro q; cases q))
        obtain rfl := Sum.inl.inj qv1436
        refine q_iload dX1_changeWish_130 rfl ?_
        refine q_if_eq (tgt := 144) dX1_changeWish_132 (by decide) (fun c1438 => ?_) (fun c1438 => ?_)
        ·
          exact q_vret dX1_changeWish_144 rfl ⟨rfl, hok, rfl⟩
        ·
          refine q_aload_n dX1_changeWish_135 rfl ?_
          refine q_aload_n dX1_changeWish_136 rfl ?_
          refine q_iload_n dX1_changeWish_137 rfl ?_
          refine q_iconst (v := nI 5) dX1_changeWish_138 rfl ?_
          refine q_iload dX1_changeWish_139 rfl ?_
          refine t_callV (M' := mX1_hearReport) [.ref a1, .int (nI a3), .int (nI 5), .int (z1427)] [] kX1 dX1_changeWish_141 wPX1_136v wIX1_hearReport wSX1_hearReport iX1_hearReport oX1_hearReport rfl hok gu1435 (sX1_hearReport Sc Γ n b0 b1 (a3) (by omega) (nI 5) (z1427)) (Nat.le_of_ble_eq_true rfl) (Nat.le_of_ble_eq_true rfl) (Nat.le_of_ble_eq_true rfl) (Nat.le_of_ble_eq_true rfl) (Nat.le_of_ble_eq_true rfl) rfl (fun v1439 h qv1439 hok => ?_) (fun e1440 h qe1440 hok => absurd qe1440 (by intro q; cases q))
          obtain rfl := Sum.inl.inj qv1439
          exact q_vret dX1_changeWish_144 rfl ⟨rfl, hok, rfl⟩
    ·
      refine q_iload dX1_changeWish_93 rfl ?_
      refine q_goto (tgt := 100) dX1_changeWish_95 (by decide) ?_
      refine t_istore [.ref a0, .ref a1, .retAddr 0, .int (nI a3), .int (a4), .int (a5), .retAddr 0, .int (a6), .int (a7), .int (z1425), .int (z1427), .int (z1427), .retAddr 0] (Or.inr ⟨rfl, dX1_changeWish_100⟩) (by decide) rfl ?_
      refine q_iload dX1_changeWish_102 rfl ?_
      refine q_if_eq (tgt := 112) dX1_changeWish_104 (by decide) (fun c1441 => ?_) (fun c1441 => ?_)
      · exact absurd c1441 c1428
      refine q_iload dX1_changeWish_107 rfl ?_
      refine q_goto (tgt := 114) dX1_changeWish_109 (by decide) ?_
      refine t_istore [.ref a0, .ref a1, .retAddr 0, .int (nI a3), .int (a4), .int (a5), .retAddr 0, .int (a6), .int (a7), .int (z1425), .int (z1427), .int (z1427), .int (z1425)] (Or.inr ⟨rfl, dX1_changeWish_114⟩) (by decide) rfl ?_
      refine q_iload dX1_changeWish_116 rfl ?_
      refine q_if_eq (tgt := 130) dX1_changeWish_118 (by decide) (fun c1442 => ?_) (fun c1442 => ?_)
      ·
        refine q_iload dX1_changeWish_130 rfl ?_
        refine q_if_eq (tgt := 144) dX1_changeWish_132 (by decide) (fun c1443 => ?_) (fun c1443 => ?_)
        ·
          exact q_vret dX1_changeWish_144 rfl ⟨rfl, hok, rfl⟩
        ·
          refine q_aload_n dX1_changeWish_135 rfl ?_
          refine q_aload_n dX1_changeWish_136 rfl ?_
          refine q_iload_n dX1_changeWish_137 rfl ?_
          refine q_iconst (v := nI 5) dX1_changeWish_138 rfl ?_
          refine q_iload dX1_changeWish_139 rfl ?_
          obtain ⟨pu1444, qu1444, ru1444, su1444, gu1444, au1444, bu1444, cu1444, du1444, eu1444, fu1444⟩ := id b0
          refine t_callV (M' := mX1_hearReport) [.ref a1, .int (nI a3), .int (nI 5), .int (z1425)] [] kX1 dX1_changeWish_141 wPX1_136v wIX1_hearReport wSX1_hearReport iX1_hearReport oX1_hearReport rfl hok gu1444 (sX1_hearReport Sc Γ n b0 b1 (a3) (by omega) (nI 5) (z1425)) (Nat.le_of_ble_eq_true rfl) (Nat.le_of_ble_eq_true rfl) (Nat.le_of_ble_eq_true rfl) (Nat.le_of_ble_eq_true rfl) (Nat.le_of_ble_eq_true rfl) rfl (fun v1445 h qv1445 hok => ?_) (fun e1446 h qe1446 hok => absurd qe1446 (by intro q; cases q))
          obtain rfl := Sum.inl.inj qv1445
          exact q_vret dX1_changeWish_144 rfl ⟨rfl, hok, rfl⟩
      ·
        refine q_aload_n dX1_changeWish_121 rfl ?_
        refine q_aload_n dX1_changeWish_122 rfl ?_
        refine q_iload_n dX1_changeWish_123 rfl ?_
        refine q_iconst (v := nI 4) dX1_changeWish_124 rfl ?_
        refine q_iload dX1_changeWish_125 rfl ?_
        obtain ⟨pu1447, qu1447, ru1447, su1447, gu1447, au1447, bu1447, cu1447, du1447, eu1447, fu1447⟩ := id b0
        refine t_callV (M' := mX1_hearReport) [.ref a1, .int (nI a3), .int (nI 4), .int (z1427)] [] kX1 dX1_changeWish_127 wPX1_136v wIX1_hearReport wSX1_hearReport iX1_hearReport oX1_hearReport rfl hok gu1447 (sX1_hearReport Sc Γ n b0 b1 (a3) (by omega) (nI 4) (z1427)) (Nat.le_of_ble_eq_true rfl) (Nat.le_of_ble_eq_true rfl) (Nat.le_of_ble_eq_true rfl) (Nat.le_of_ble_eq_true rfl) (Nat.le_of_ble_eq_true rfl) rfl (fun v1448 h qv1448 hok => ?_) (fun e1449 h qe1449 hok => absurd qe1449 (by intro q; cases q))
        obtain rfl := Sum.inl.inj qv1448
        refine q_iload dX1_changeWish_130 rfl ?_
        refine q_if_eq (tgt := 144) dX1_changeWish_132 (by decide) (fun c1450 => ?_) (fun c1450 => ?_)
        ·
          exact q_vret dX1_changeWish_144 rfl ⟨rfl, hok, rfl⟩
        ·
          refine q_aload_n dX1_changeWish_135 rfl ?_
          refine q_aload_n dX1_changeWish_136 rfl ?_
          refine q_iload_n dX1_changeWish_137 rfl ?_
          refine q_iconst (v := nI 5) dX1_changeWish_138 rfl ?_
          refine q_iload dX1_changeWish_139 rfl ?_
          refine t_callV (M' := mX1_hearReport) [.ref a1, .int (nI a3), .int (nI 5), .int (z1425)] [] kX1 dX1_changeWish_141 wPX1_136v wIX1_hearReport wSX1_hearReport iX1_hearReport oX1_hearReport rfl hok gu1447 (sX1_hearReport Sc Γ n b0 b1 (a3) (by omega) (nI 5) (z1425)) (Nat.le_of_ble_eq_true rfl) (Nat.le_of_ble_eq_true rfl) (Nat.le_of_ble_eq_true rfl) (Nat.le_of_ble_eq_true rfl) (Nat.le_of_ble_eq_true rfl) rfl (fun v1451 h qv1451 hok => ?_) (fun e1452 h qe1452 hok => absurd qe1452 (by intro q; cases q))
          obtain rfl := Sum.inl.inj qv1451
          exact q_vret dX1_changeWish_144 rfl ⟨rfl, hok, rfl⟩
  ·
    refine q_aload_n dX1_changeWish_51 rfl ?_
    refine q_aload_n dX1_changeWish_52 rfl ?_
    refine q_iload_n dX1_changeWish_53 rfl ?_
    refine q_iload dX1_changeWish_54 rfl ?_
    refine q_if_eq (tgt := 63) dX1_changeWish_56 (by decide) (fun c1453 => ?_) (fun c1453 => ?_)
    ·
      refine q_iconst (v := nI 2) dX1_changeWish_63 rfl ?_
      refine q_iload dX1_changeWish_64 rfl ?_
      obtain ⟨pu1454, qu1454, ru1454, su1454, gu1454, au1454, bu1454, cu1454, du1454, eu1454, fu1454⟩ := id b0
      refine t_callV (M' := mX1_hearReport) [.ref a1, .int (nI a3), .int (nI 2), .int (a5)] [] kX1 dX1_changeWish_66 wPX1_136v wIX1_hearReport wSX1_hearReport iX1_hearReport oX1_hearReport rfl hok gu1454 (sX1_hearReport Sc Γ n b0 b1 (a3) (by omega) (nI 2) (a5)) (Nat.le_of_ble_eq_true rfl) (Nat.le_of_ble_eq_true rfl) (Nat.le_of_ble_eq_true rfl) (Nat.le_of_ble_eq_true rfl) (Nat.le_of_ble_eq_true rfl) rfl (fun v1455 h qv1455 hok => ?_) (fun e1456 h qe1456 hok => absurd qe1456 (by intro q; cases q))
      obtain rfl := Sum.inl.inj qv1455
      exact q_vret dX1_changeWish_69 rfl ⟨rfl, hok, rfl⟩
    ·
      refine q_iconst (v := nI 3) dX1_changeWish_59 rfl ?_
      refine q_goto (tgt := 64) dX1_changeWish_60 (by decide) ?_
      refine q_iload dX1_changeWish_64 rfl ?_
      obtain ⟨pu1457, qu1457, ru1457, su1457, gu1457, au1457, bu1457, cu1457, du1457, eu1457, fu1457⟩ := id b0
      refine t_callV (M' := mX1_hearReport) [.ref a1, .int (nI a3), .int (nI 3), .int (a5)] [] kX1 dX1_changeWish_66 wPX1_136v wIX1_hearReport wSX1_hearReport iX1_hearReport oX1_hearReport rfl hok gu1457 (sX1_hearReport Sc Γ n b0 b1 (a3) (by omega) (nI 3) (a5)) (Nat.le_of_ble_eq_true rfl) (Nat.le_of_ble_eq_true rfl) (Nat.le_of_ble_eq_true rfl) (Nat.le_of_ble_eq_true rfl) (Nat.le_of_ble_eq_true rfl) rfl (fun v1458 h qv1458 hok => ?_) (fun e1459 h qe1459 hok => absurd qe1459 (by intro q; cases q))
      obtain rfl := Sum.inl.inj qv1458
      exact q_vret dX1_changeWish_69 rfl ⟨rfl, hok, rfl⟩
set_option maxHeartbeats 4000000 in
theorem eX1_changeWish (Sc : q_S) (Γ : Nat → q_K) (n : Nat) {B l lg : Nat} {f e : Nat → Int32} (hk : kLk Γ B) (hlg : kLg Γ lg) (hm : kMm Γ B l f e) (m : Nat) (hm6 : m < 6) (g : Nat) (hg : g < 8) (ex v : Int32) (hx : q_bl ex) (h : q_H) (hok : q_ok Γ h) : q_A Sc mX1_changeWish 0 [.ref B, .ref lg, .int (nI m), .int (nI g), .int ex, .int v, .retAddr 0, .retAddr 0, .retAddr 0, .retAddr 0, .retAddr 0, .retAddr 0, .retAddr 0] [] h n 0 0 (fun O h' n' => O = .inl none ∧ q_ok (gset (gset Γ (B + 20 + 3 * m) (8, 0, q_rg 8 (fupd (fun g => f (48 * l + 8 * m + g)) g v))) (B + 21 + 3 * m) (9, 0, q_rg 8 (fupd (fun g => e (48 * l + 8 * m + g)) g ex))) h' ∧ n' = n) := by
  have ho := hm.1.2.2 m hm6
  obtain ⟨h8, h9⟩ := hm.2 m hm6
  refine q_aload_n dX1_changeWish_0 rfl ?_
  refine t_getr 2 kX1 (by decide) wPX1_19 dX1_changeWish_1 hok hm.1.1 rfl ?_
  refine q_iload_n dX1_changeWish_4 rfl ?_
  refine t_aald "GroupFilters$Member" dX1_changeWish_5 hok hm.1.2.1 rfl (by rw [List.length_map, List.length_range]; exact vp_in_nI (by omega) (by omega)) (fun p hp => ?_)
  rw [nI_clamp (by omega), q_PM_at (by omega)] at hp
  obtain rfl := Option.some.inj hp
  refine q_astore dX1_changeWish_6 (by decide) ?_
  refine q_aload dX1_changeWish_8 rfl ?_
  refine t_getr 0 kX2 (by decide) wPX1_129 dX1_changeWish_10 hok ho rfl ?_
  refine q_iload_n dX1_changeWish_13 rfl ?_
  refine x_iald (by decide) dX1_changeWish_14 hok h8 hg ?_
  refine t_istore [.ref B, .ref lg, .int (nI m), .int (nI g), .int ex, .int v, .ref (B + 19 + 3 * m), .int (f (48 * l + 8 * m + g)), .retAddr 0, .retAddr 0, .retAddr 0, .retAddr 0, .retAddr 0] (Or.inr ⟨rfl, dX1_changeWish_15⟩) (by decide) rfl ?_
  refine q_aload dX1_changeWish_17 rfl ?_
  refine t_getr 1 kX2 (by decide) wPX1_133 dX1_changeWish_19 hok ho rfl ?_
  refine q_iload_n dX1_changeWish_22 rfl ?_
  refine x_zald (by decide) dX1_changeWish_23 hok h9 hg ?_
  refine t_istore [.ref B, .ref lg, .int (nI m), .int (nI g), .int ex, .int v, .ref (B + 19 + 3 * m), .int (f (48 * l + 8 * m + g)), .int (e (48 * l + 8 * m + g)), .retAddr 0, .retAddr 0, .retAddr 0, .retAddr 0] (Or.inr ⟨rfl, dX1_changeWish_24⟩) (by decide) rfl ?_
  refine q_aload dX1_changeWish_26 rfl ?_
  refine t_getr 0 kX2 (by decide) wPX1_129 dX1_changeWish_28 hok ho rfl ?_
  refine q_iload_n dX1_changeWish_31 rfl ?_
  refine q_iload dX1_changeWish_32 rfl ?_
  refine x_iast (by decide) dX1_changeWish_34 hok h8 hg (fun h hok => ?_)
  refine q_aload dX1_changeWish_35 rfl ?_
  refine t_getr 1 kX2 (by decide) wPX1_133 dX1_changeWish_37 hok ((gs_ne (by omega)).trans ho) rfl ?_
  refine q_iload_n dX1_changeWish_40 rfl ?_
  refine q_iload dX1_changeWish_41 rfl ?_
  refine x_zast (by decide) dX1_changeWish_43 hok ((gs_ne (by omega)).trans h9) hg hx.vp (fun h hok => ?_)
  have hfr : fr89 Γ (gset (gset Γ (B + 20 + 3 * m) (8, 0, q_rg 8 (fupd (fun g => f (48 * l + 8 * m + g)) g v))) (B + 21 + 3 * m) (9, 0, q_rg 8 (fupd (fun g => e (48 * l + 8 * m + g)) g ex))) := (fr89.s8 h8).tr (fr89.s9 ((gs_ne (by omega)).trans h9))
  refine q_weak [.ref B, .ref lg, .retAddr 0, .int (nI g), .int ex, .int v, .retAddr 0, .int (f (48 * l + 8 * m + g)), .int (e (48 * l + 8 * m + g)), .retAddr 0, .retAddr 0, .retAddr 0, .retAddr 0] ⟨Or.inl rfl, Or.inl rfl, Or.inr ⟨0, rfl⟩, Or.inl rfl, Or.inl rfl, Or.inl rfl, Or.inr ⟨0, rfl⟩, Or.inl rfl, Or.inl rfl, Or.inl rfl, Or.inl rfl, Or.inl rfl, Or.inl rfl, trivial⟩ ?_
  exact sX1_cw44 Sc _ n (hk.fr hfr) (hlg.fr hfr) g hg ex hx v _ _ h hok

def q_nn (F E : Nat → Int32) : Nat → Nat
  | 0 => 0
  | k + 1 => q_nn F E k + if E k = 0 ∧ F k = 0 then 0 else 1
theorem q_nn_le (F E : Nat → Int32) : ∀ k, q_nn F E k ≤ k
  | 0 => Nat.le_refl _
  | k + 1 => by
    have h := q_nn_le F E k
    show q_nn F E k + (if E k = 0 ∧ F k = 0 then 0 else 1) ≤ k + 1
    split <;> omega
set_option maxHeartbeats 4000000 in
theorem eX1_letAnswer (Sc : q_S) (Γ : Nat → q_K) (n : Nat) {B l lg : Nat} {f e : Nat → Int32} (hk : kLk Γ B) (hlg : kLg Γ lg) (hm : kMm Γ B l f e) (m : Nat) (hm6 : m < 6) : q_safe Sc Γ mX1_letAnswer [.ref B, .ref lg, .int (nI m)] n 0 0 (fun O => O = .inl (some (.int (nI (q_nn (fun g => f (48 * l + 8 * m + g)) (fun g => e (48 * l + 8 * m + g)) 8))))) := by
  intro h hok
  have ho := hm.1.2.2 m hm6
  obtain ⟨h8, h9⟩ := hm.2 m hm6
  generalize (fun g => f (48 * l + 8 * m + g)) = F at h8 ⊢
  generalize (fun g => e (48 * l + 8 * m + g)) = E at h9 ⊢
  show q_A Sc mX1_letAnswer 0 [.ref B, .ref lg, .int (nI m), .retAddr 0, .retAddr 0, .retAddr 0] [] h n 0 0 (fun O h' n' => (O = .inl (some (.int (nI (q_nn F E 8))))) ∧ q_ok Γ h' ∧ n' = n)
  have hl : ∀ (d k : Nat) (h : q_H), k + d = 8 → q_ok Γ h → q_A Sc mX1_letAnswer 13 [.ref B, .ref lg, .int (nI m), .ref (B + 19 + 3 * m), .int (nI (q_nn F E k)), .int (nI k)] [] h n 0 0 (fun O h' n' => (O = .inl (some (.int (nI (q_nn F E 8))))) ∧ q_ok Γ h' ∧ n' = n) := by
    intro d
    induction d with
    | zero =>
      intro k h hkd hok
      obtain rfl : k = 8 := by omega
      refine q_iload dX1_letAnswer_13 rfl ?_
      refine q_bipush (v := nI 8) dX1_letAnswer_15 rfl ?_
      refine t_icmp_ge_n (tgt := 78) (by omega) (by omega) dX1_letAnswer_17 (by decide) (fun c => ?_) (fun c => absurd c (by omega))
      refine q_iload dX1_letAnswer_78 rfl ?_
      exact q_iret dX1_letAnswer_80 rfl (rfl) ⟨rfl, hok, rfl⟩
    | succ d ih =>
      intro k h hkd hok
      have hk8 : k < 8 := by omega
      have hnext : ∀ (c : Nat) (h : q_H), q_nn F E (k + 1) = c → q_ok Γ h → q_A Sc mX1_letAnswer 72 [.ref B, .ref lg, .int (nI m), .ref (B + 19 + 3 * m), .int (nI (c)), .int (nI k)] [] h n 0 0 (fun O h' n' => (O = .inl (some (.int (nI (q_nn F E 8))))) ∧ q_ok Γ h' ∧ n' = n) := fun c h hc hok => by
        refine t_iinc_n [.ref B, .ref lg, .int (nI m), .ref (B + 19 + 3 * m), .int (nI (c)), .int (nI (k + 1))] dX1_letAnswer_72 rfl (by decide) rfl ?_
        refine q_goto (tgt := 13) dX1_letAnswer_75 (by decide) ?_
        rw [← hc]
        exact ih (k + 1) h (by omega) hok
      have htake : ∀ (h : q_H), ¬ (E k = 0 ∧ F k = 0) → q_ok Γ h → q_A Sc mX1_letAnswer 40 [.ref B, .ref lg, .int (nI m), .ref (B + 19 + 3 * m), .int (nI (q_nn F E k)), .int (nI k)] [] h n 0 0 (fun O h' n' => (O = .inl (some (.int (nI (q_nn F E 8))))) ∧ q_ok Γ h' ∧ n' = n) := fun h hne hok => by
        have hcall : ∀ (kind : Int32) (h : q_H), q_ok Γ h → q_A Sc mX1_letAnswer 59 [.ref B, .ref lg, .int (nI m), .ref (B + 19 + 3 * m), .int (nI (q_nn F E k)), .int (nI k)] [.int kind, .int (nI k), .ref lg, .ref B] h n 0 0 (fun O h' n' => (O = .inl (some (.int (nI (q_nn F E 8))))) ∧ q_ok Γ h' ∧ n' = n) := fun kind h hok => by
          refine q_aload_n dX1_letAnswer_59 rfl ?_
          refine t_getr 0 kX2 (by decide) wPX1_129 dX1_letAnswer_60 hok ho rfl ?_
          refine q_iload dX1_letAnswer_63 rfl ?_
          refine x_iald (by decide) dX1_letAnswer_65 hok h8 hk8 ?_
          refine t_callV (M' := mX1_hearReport) [.ref lg, .int (nI k), .int kind, .int (F k)] [] kX1 dX1_letAnswer_66 wPX1_136v wIX1_hearReport wSX1_hearReport iX1_hearReport oX1_hearReport rfl hok hm.1.1 (sX1_hearReport Sc Γ n hk hlg k hk8 kind (F k)) (Nat.le_of_ble_eq_true rfl) (Nat.le_of_ble_eq_true rfl) (Nat.le_of_ble_eq_true rfl) (Nat.le_of_ble_eq_true rfl) (Nat.le_of_ble_eq_true rfl) rfl (fun v h qv hok => ?_) (fun x h qx hok => absurd qx (by intro q; cases q))
          obtain rfl := Sum.inl.inj qv
          refine t_iinc_n [.ref B, .ref lg, .int (nI m), .ref (B + 19 + 3 * m), .int (nI (q_nn F E k + 1)), .int (nI k)] dX1_letAnswer_69 rfl (by decide) rfl ?_
          exact hnext _ h (by show q_nn F E k + (if E k = 0 ∧ F k = 0 then 0 else 1) = _; rw [if_neg hne]) hok
        refine q_aload_n dX1_letAnswer_40 rfl ?_
        refine q_aload_n dX1_letAnswer_41 rfl ?_
        refine q_iload dX1_letAnswer_42 rfl ?_
        refine q_aload_n dX1_letAnswer_44 rfl ?_
        refine t_getr 1 kX2 (by decide) wPX1_133 dX1_letAnswer_45 hok ho rfl ?_
        refine q_iload dX1_letAnswer_48 rfl ?_
        refine x_zald (by decide) dX1_letAnswer_50 hok h9 hk8 ?_
        refine q_if_eq (tgt := 58) dX1_letAnswer_51 (by decide) (fun c => ?_) (fun c => ?_)
        · refine q_iconst (v := nI 0) dX1_letAnswer_58 rfl ?_
          exact hcall _ h hok
        · refine q_iconst (v := nI 1) dX1_letAnswer_54 rfl ?_
          refine q_goto (tgt := 59) dX1_letAnswer_55 (by decide) ?_
          exact hcall _ h hok
      refine q_iload dX1_letAnswer_13 rfl ?_
      refine q_bipush (v := nI 8) dX1_letAnswer_15 rfl ?_
      refine t_icmp_ge_n (tgt := 78) (by omega) (by omega) dX1_letAnswer_17 (by decide) (fun c => absurd c (by omega)) (fun c => ?_)
      refine q_aload_n dX1_letAnswer_20 rfl ?_
      refine t_getr 1 kX2 (by decide) wPX1_133 dX1_letAnswer_21 hok ho rfl ?_
      refine q_iload dX1_letAnswer_24 rfl ?_
      refine x_zald (by decide) dX1_letAnswer_26 hok h9 hk8 ?_
      refine q_if_ne (tgt := 40) dX1_letAnswer_27 (by decide) (fun c => htake h (fun q => c q.1) hok) (fun c => ?_)
      refine q_aload_n dX1_letAnswer_30 rfl ?_
      refine t_getr 0 kX2 (by decide) wPX1_129 dX1_letAnswer_31 hok ho rfl ?_
      refine q_iload dX1_letAnswer_34 rfl ?_
      refine x_iald (by decide) dX1_letAnswer_36 hok h8 hk8 ?_
      refine q_if_eq (tgt := 72) dX1_letAnswer_37 (by decide) (fun c2 => ?_) (fun c2 => htake h (fun q => c2 q.2) hok)
      exact hnext _ h (by show q_nn F E k + (if E k = 0 ∧ F k = 0 then 0 else 1) = _; rw [if_pos ⟨c, c2⟩]; rfl) hok
  refine q_aload_n dX1_letAnswer_0 rfl ?_
  refine t_getr 2 kX1 (by decide) wPX1_19 dX1_letAnswer_1 hok hm.1.1 rfl ?_
  refine q_iload_n dX1_letAnswer_4 rfl ?_
  refine t_aald "GroupFilters$Member" dX1_letAnswer_5 hok hm.1.2.1 rfl (by rw [List.length_map, List.length_range]; exact vp_in_nI (by omega) (by omega)) (fun p hp => ?_)
  rw [nI_clamp (by omega), q_PM_at (by omega)] at hp
  obtain rfl := Option.some.inj hp
  refine q_astore_n dX1_letAnswer_6 (by decide) ?_
  refine q_iconst (v := nI 0) dX1_letAnswer_7 rfl ?_
  refine t_istore [.ref B, .ref lg, .int (nI m), .ref (B + 19 + 3 * m), .int (nI 0), .retAddr 0] (Or.inr ⟨rfl, dX1_letAnswer_8⟩) (by decide) rfl ?_
  refine q_iconst (v := nI 0) dX1_letAnswer_10 rfl ?_
  refine t_istore [.ref B, .ref lg, .int (nI m), .ref (B + 19 + 3 * m), .int (nI (q_nn F E 0)), .int (nI 0)] (Or.inr ⟨rfl, dX1_letAnswer_11⟩) (by decide) rfl ?_
  exact hl 8 0 h rfl hok

