theorem c_full {Γ : Nat → q_K} {h : q_H} {i t : Nat} {ps : List (Nat × Nat)} (hok : q_ok Γ h) (hg : Γ i = (6, t, ps)) (hp : ∀ (k : Nat) (p : Nat × Nat), ps[k]? = some p → p.1 = 1) : q_ok (gset Γ i (3, t, ps)) h := fun j => by
  by_cases hj : j = i
  · subst hj
    rw [gs_at]
    have h1 := hok j
    rw [hg] at h1
    refine Eq.trans h1 ?_
    show _ = (.inr (.inr (.inl (t, ps.map (fun p => some p.2)))) : q_C)
    have h2 : ps.map (fun p => if p.1 = 1 then some p.2 else none) = ps.map (fun p => some p.2) := by
      refine List.map_congr_left fun p hp2 => ?_
      obtain ⟨k, hk⟩ := List.getElem?_of_mem hp2
      rw [if_pos (hp k p hk)]
    rw [← h2]
  · rw [gs_ne hj]
    exact hok j
set_option maxHeartbeats 4000000 in
theorem nX1_init (Sc : q_S) (Γ : Nat → q_K) (B : Nat) (hg : Γ B = (4, 1, [(0, 0), (3, 0), (3, 0), (0, 0), (0, 0), (0, 0), (0, 0), (0, 0)])) (num : Int32) (h : q_H) (hok : q_ok Γ h) : q_A Sc mX1_init 0 [.ref B, .int num, .retAddr 0] [] h (B + 1) 36 290 (fun O h' n' => O = .inl none ∧ n' = B + 37 ∧ ∃ Γ', q_ok Γ' h' ∧ (∀ j, j < B → Γ' j = Γ j) ∧ ∀ Γ'', (∀ j, B ≤ j → j < B + 37 → Γ'' j = Γ' j) → kLk Γ'' B ∧ ∀ l, kMm Γ'' B l z0 z0) := by
  have hl2 : ∀ (d g : Nat) (Γ1 : Nat → q_K) (fl ps : List (Nat × Nat)) (h : q_H), g + d = 6 → q_ok Γ1 h → Γ1 B = (4, 1, [(0, 0), (1, B + 1), (1, B + 2), (0, 0), (0, 0), (0, 0), (0, 0), (0, 0)]) → Γ1 (B + 1) = (6, 3, fl) → fl.length = 8 → (∀ k, k < 8 → ∃ j, fl[k]? = some (1, j) ∧ ∀ Γ'' : Nat → q_K, (∀ i, B + 3 ≤ i → i < B + 19 → Γ'' i = Γ1 i) → kF Γ'' j) → Γ1 (B + 2) = (6, 4, ps) → ps.length = 6 → (∀ k, k < g → ps[k]? = some (1, B + 19 + 3 * k) ∧ Γ1 (B + 19 + 3 * k) = (4, 2, [(1, B + 20 + 3 * k), (1, B + 21 + 3 * k)]) ∧ (∃ F, Γ1 (B + 20 + 3 * k) = (8, 0, q_rg 8 F)) ∧ ∃ E, Γ1 (B + 21 + 3 * k) = (9, 0, q_rg 8 E)) → (∀ j, j < B → Γ1 j = Γ j) →
      q_A Sc mX1_init 56 [.ref B, .int num, .int (nI g)] [] h (B + 19 + 3 * g) (3 * d) (18 * d) (fun O h' n' => O = .inl none ∧ n' = B + 37 ∧ ∃ Γ', q_ok Γ' h' ∧ (∀ j, j < B → Γ' j = Γ j) ∧ ∀ Γ'', (∀ j, B ≤ j → j < B + 37 → Γ'' j = Γ' j) → kLk Γ'' B ∧ ∀ l, kMm Γ'' B l z0 z0) := by
    intro d
    induction d with
    | zero =>
      intro g Γ1 fl ps h eg hok h1 h2 h3 h4 h5 h6 h7 h8
      obtain rfl : g = 6 := by omega
      refine q_iload_n dX1_init_56 rfl ?_
      refine q_bipush (v := nI 6) dX1_init_57 rfl ?_
      refine t_icmp_ge_n (tgt := 81) (by omega) (by omega) dX1_init_59 (by decide) (fun c1 => ?_) (fun c1 => absurd c1 (by omega))
      refine q_aload_n dX1_init_81 rfl ?_
      have hf1 : ∀ (k : Nat) (p : Nat × Nat), fl[k]? = some p → ∃ j, p = (1, j) ∧ ∀ Γ'' : Nat → q_K, (∀ i, B + 3 ≤ i → i < B + 19 → Γ'' i = Γ1 i) → kF Γ'' j := fun k p hp => by
        have hk : k < 8 := by rw [← h3]; exact (List.getElem?_eq_some_iff.mp hp).1
        obtain ⟨j, hj, hj2⟩ := h4 k hk
        exact ⟨j, Option.some.inj (hp.symm.trans hj), hj2⟩
      have hps : ps = q_PM B := List.ext_getElem? fun k => by
        by_cases hk : k < 6
        · rw [(h7 k hk).1, q_PM_at hk]
        · rw [List.getElem?_eq_none (by omega), List.getElem?_eq_none (by rw [List.length_map, List.length_range]; omega)]
      have hok2 := c_full (c_full hok h2 (fun k p hp => by obtain ⟨j, rfl, -⟩ := hf1 k p hp; rfl)) (i := B + 2) (t := 4) (ps := ps) ((gs_ne (by omega)).trans h5) (fun k p hp => by
        have hk : k < 6 := by rw [← h6]; exact (List.getElem?_eq_some_iff.mp hp).1
        rw [Option.some.inj (hp.symm.trans (h7 k hk).1)])
      have hclose : ∀ Γ'' : Nat → q_K, (∀ j, B ≤ j → j < B + 19 → Γ'' j = gset (gset Γ1 (B + 1) (3, 3, fl)) (B + 2) (3, 4, ps) j) → kLk Γ'' B := fun Γ'' hag => by
        refine ⟨B + 1, B + 2, fl, ps, ?_, ?_, h3, fun k p hp => ?_, ?_, h6, fun _ _ _ => trivial⟩
        · rw [hag B (by omega) (by omega), gs_ne (by omega), gs_ne (by omega)]; exact h1
        · rw [hag (B + 1) (by omega) (by omega), gs_ne (by omega), gs_at]
        · obtain ⟨j, rfl, hj⟩ := hf1 k p hp
          exact hj Γ'' (fun i hi1 hi2 => by rw [hag i (by omega) (by omega), gs_ne (by omega), gs_ne (by omega)])
        · rw [hag (B + 2) (by omega) (by omega), gs_at]
      have hk := hclose _ (fun j _ _ => rfl)
      have hme : kMe (gset (gset Γ1 (B + 1) (3, 3, fl)) (B + 2) (3, 4, ps)) B := by
        refine ⟨⟨?_, ?_, fun m hm => ?_⟩, fun m hm => ⟨?_, ?_⟩⟩
        · rw [gs_ne (by omega), gs_ne (by omega)]; exact h1
        · rw [gs_at, hps]
        · rw [gs_ne (by omega), gs_ne (by omega)]; exact (h7 m hm).2.1
        · obtain ⟨F, hF⟩ := (h7 m hm).2.2.1
          exact ⟨F, by rw [gs_ne (by omega), gs_ne (by omega)]; exact hF⟩
        · obtain ⟨E, hE⟩ := (h7 m hm).2.2.2
          exact ⟨E, by rw [gs_ne (by omega), gs_ne (by omega)]; exact hE⟩
      obtain ⟨fs, hf9, -⟩ := hok2.o hme.1.1
      refine q_callV (M' := mX1_reset) [] [] kX1 dX1_init_82 wPX1_29v wIX1_reset wSX1_reset iX1_reset oX1_reset rfl hf9 (eX1_reset Sc _ _ B hk hme h hok2) (Nat.zero_le _) (Nat.zero_le _) (Nat.le_of_ble_eq_true rfl) (Nat.le_of_ble_eq_true rfl) (Nat.le_of_ble_eq_true rfl) rfl (fun v h n' hP => ?_) (fun x h n' hP => by cases hP.1)
      obtain ⟨ev, rfl, Γ', hok, hfr, hfm, hmm⟩ := hP
      obtain rfl := Sum.inl.inj ev
      exact q_vret dX1_init_85 rfl ⟨rfl, by omega, Γ', hok, fun j hj => by rw [hfm j (by omega), gs_ne (by omega), gs_ne (by omega)]; exact h8 j hj, fun Γ'' hag => ⟨hclose Γ'' (fun j hj1 hj2 => (hag j hj1 (by omega)).trans (hfm j (by omega))), fun l => (hmm l).of (fun j hj1 hj2 => hag j hj1 hj2) (fun _ _ _ => ⟨rfl, rfl⟩)⟩⟩
    | succ d ih =>
      intro g Γ1 fl ps h eg hok h1 h2 h3 h4 h5 h6 h7 h8
      refine q_iload_n dX1_init_56 rfl ?_
      refine q_bipush (v := nI 6) dX1_init_57 rfl ?_
      refine t_icmp_ge_n (tgt := 81) (by omega) (by omega) dX1_init_59 (by decide) (fun c1 => absurd c1 (by omega)) (fun c1 => ?_)
      refine q_aload_n dX1_init_62 rfl ?_
      refine t_getr 2 kX1 (by decide) wPX1_19 dX1_init_63 hok h1 rfl ?_
      refine q_iload_n dX1_init_66 rfl ?_
      refine c_new (fs := [.null, .null]) [(3, 0), (3, 0)] kX2 wKX1_17 wZX2 wNX2 dX1_init_67 (fun j hj => by rcases (show j = 0 ∨ j = 1 by omega) with rfl | rfl <;> rfl) (fun _ => ⟨_, _, rfl, rfl, ⟨_, _, rfl, rfl, rfl⟩⟩) (⟨_, _, rfl, rfl, ⟨_, _, rfl, rfl, rfl⟩⟩) (by omega) (by omega) hok (fun h hok => ?_)
      refine q_dup dX1_init_70 rfl ?_
      refine c_callI (M' := mX2_init) [] _ dX1_init_71 wPX1_28 wIX2_init wCX2_init rfl rfl rfl oX2_init rfl (nX2_init Sc _ _ _ (by omega) gs_at h hok) (by omega) (by omega) (Nat.le_of_ble_eq_true rfl) (Nat.le_of_ble_eq_true rfl) (Nat.le_of_ble_eq_true rfl) rfl (fun O h' n' q => q.1) (fun h n' q => ?_)
      obtain ⟨-, en, hok⟩ := q
      obtain rfl : n' = B + 19 + 3 * (g + 1) := by omega
      refine c_aast kX2 dX1_init_74 hok (i := B + 2) (t := 4) (ps := ps) (by rw [gs_ne (by omega), gs_ne (by omega), gs_ne (by omega), gs_ne (by omega), gs_ne (by omega)]; exact h5) rfl gs_at (by rw [h6]; exact vp_in_nI (by omega) (by omega)) (fun h hok => ?_)
      rw [nI_clamp (by omega)] at hok
      have e1 : B + 20 + 3 * g = B + 19 + 3 * g + 1 := by omega
      have e2 : B + 21 + 3 * g = B + 19 + 3 * g + 1 + 1 := by omega
      obtain ⟨F, hok⟩ := hok.o8 (i := B + 19 + 3 * g + 1) (N := 8) (ps := []) (by rw [gs_ne (by omega), gs_ne (by omega), gs_ne (by omega), gs_ne (by omega)]; exact gs_at)
      obtain ⟨E, hok⟩ := hok.o9 (i := B + 19 + 3 * g + 1 + 1) (N := 8) (ps := []) (by rw [gs_ne (by omega), gs_ne (by omega), gs_ne (by omega)]; exact gs_at)
      refine t_iinc_n [.ref B, .int num, .int (nI (g + 1))] dX1_init_75 rfl (by decide) rfl ?_
      refine q_goto (tgt := 56) dX1_init_78 (by decide) ?_
      refine q_less (by omega) (by omega) (ih (g + 1) _ fl (ps.set g (1, B + 19 + 3 * g)) h (by omega) hok ?_ ?_ h3 ?_ ?_ (by rw [List.length_set]; exact h6) ?_ ?_)
      · rw [gs_ne (by omega), gs_ne (by omega), gs_ne (by omega), gs_ne (by omega), gs_ne (by omega), gs_ne (by omega), gs_ne (by omega), gs_ne (by omega)]; exact h1
      · rw [gs_ne (by omega), gs_ne (by omega), gs_ne (by omega), gs_ne (by omega), gs_ne (by omega), gs_ne (by omega), gs_ne (by omega), gs_ne (by omega)]; exact h2
      · intro k hk
        obtain ⟨j, hj, hj2⟩ := h4 k hk
        refine ⟨j, hj, fun Γ'' hag => hj2 Γ'' (fun i hi1 hi2 => ?_)⟩
        rw [hag i hi1 hi2, gs_ne (by omega), gs_ne (by omega), gs_ne (by omega), gs_ne (by omega), gs_ne (by omega), gs_ne (by omega), gs_ne (by omega), gs_ne (by omega)]
      · rw [gs_ne (by omega), gs_ne (by omega)]; exact gs_at
      · intro k hk
        by_cases hkg : k = g
        · subst hkg
          refine ⟨List.getElem?_set_self (by omega), ?_, ⟨F, ?_⟩, E, ?_⟩
          · rw [e1, e2, gs_ne (by omega), gs_ne (by omega), gs_ne (by omega)]; exact gs_at
          · rw [e1, gs_ne (by omega)]; exact gs_at
          · rw [e2]; exact gs_at
        · obtain ⟨q1, q2, ⟨F2, q3⟩, E2, q4⟩ := h7 k (by omega)
          refine ⟨by rw [List.getElem?_set_ne (by omega)]; exact q1, ?_, ⟨F2, ?_⟩, E2, ?_⟩
          · rw [gs_ne (by omega), gs_ne (by omega), gs_ne (by omega), gs_ne (by omega), gs_ne (by omega), gs_ne (by omega), gs_ne (by omega), gs_ne (by omega)]; exact q2
          · rw [gs_ne (by omega), gs_ne (by omega), gs_ne (by omega), gs_ne (by omega), gs_ne (by omega), gs_ne (by omega), gs_ne (by omega), gs_ne (by omega)]; exact q3
          · rw [gs_ne (by omega), gs_ne (by omega), gs_ne (by omega), gs_ne (by omega), gs_ne (by omega), gs_ne (by omega), gs_ne (by omega), gs_ne (by omega)]; exact q4
      · intro j hj
        rw [gs_ne (by omega), gs_ne (by omega), gs_ne (by omega), gs_ne (by omega), gs_ne (by omega), gs_ne (by omega), gs_ne (by omega), gs_ne (by omega)]
        exact h8 j hj
  have hl1 : ∀ (d g : Nat) (Γ1 : Nat → q_K) (ps : List (Nat × Nat)) (h : q_H), g + d = 8 → q_ok Γ1 h → Γ1 B = (4, 1, [(0, 0), (1, B + 1), (1, B + 2), (0, 0), (0, 0), (0, 0), (0, 0), (0, 0)]) → Γ1 (B + 1) = (6, 3, ps) → ps.length = 8 → (∀ k, k < g → ∃ j, ps[k]? = some (1, j) ∧ ∀ Γ'' : Nat → q_K, (∀ i, B + 3 ≤ i → i < B + 3 + 2 * g → Γ'' i = Γ1 i) → kF Γ'' j) → Γ1 (B + 2) = (6, 4, List.replicate 6 (0, 0)) → (∀ j, j < B → Γ1 j = Γ j) →
      q_A Sc mX1_init 29 [.ref B, .int num, .int (nI g)] [] h (B + 3 + 2 * g) (2 * d + 18) (21 * d + 108) (fun O h' n' => O = .inl none ∧ n' = B + 37 ∧ ∃ Γ', q_ok Γ' h' ∧ (∀ j, j < B → Γ' j = Γ j) ∧ ∀ Γ'', (∀ j, B ≤ j → j < B + 37 → Γ'' j = Γ' j) → kLk Γ'' B ∧ ∀ l, kMm Γ'' B l z0 z0) := by
    intro d
    induction d with
    | zero =>
      intro g Γ1 ps h eg hok h1 h2 h3 h4 h5 h8
      obtain rfl : g = 8 := by omega
      refine q_iload_n dX1_init_29 rfl ?_
      refine q_bipush (v := nI 8) dX1_init_30 rfl ?_
      refine t_icmp_ge_n (tgt := 54) (by omega) (by omega) dX1_init_32 (by decide) (fun c1 => ?_) (fun c1 => absurd c1 (by omega))
      refine q_iconst (v := nI 0) dX1_init_54 rfl ?_
      refine t_istore [.ref B, .int num, .int (nI 0)] (Or.inl ⟨2, rfl, rfl, dX1_init_55⟩) (by decide) rfl ?_
      exact hl2 6 0 Γ1 ps _ h rfl hok h1 h2 h3 h4 h5 List.length_replicate (fun k hk => absurd hk (by omega)) h8
    | succ d ih =>
      intro g Γ1 ps h eg hok h1 h2 h3 h4 h5 h8
      refine q_iload_n dX1_init_29 rfl ?_
      refine q_bipush (v := nI 8) dX1_init_30 rfl ?_
      refine t_icmp_ge_n (tgt := 54) (by omega) (by omega) dX1_init_32 (by decide) (fun c1 => absurd c1 (by omega)) (fun c1 => ?_)
      refine q_aload_n dX1_init_35 rfl ?_
      refine t_getr 1 kX1 (by decide) wPX1_11 dX1_init_36 hok h1 rfl ?_
      refine q_iload_n dX1_init_39 rfl ?_
      refine c_new (fs := [.null, .int 0, .int 0, .int 0, .int 0]) [(3, 0), (0, 0), (0, 0), (0, 0), (0, 0)] kX0 wKX1_9 wZX0 wNX0 dX1_init_40 (fun j hj => by rcases (show j = 0 ∨ j = 1 ∨ j = 2 ∨ j = 3 ∨ j = 4 by omega) with rfl | rfl | rfl | rfl | rfl <;> rfl) (fun _ => ⟨_, _, rfl, rfl, ⟨_, _, rfl, rfl, ⟨_, _, rfl, rfl, ⟨_, _, rfl, rfl, ⟨_, _, rfl, rfl, rfl⟩⟩⟩⟩⟩) (⟨_, _, rfl, rfl, ⟨_, _, rfl, ⟨_, rfl⟩, ⟨_, _, rfl, ⟨_, rfl⟩, ⟨_, _, rfl, ⟨_, rfl⟩, ⟨_, _, rfl, ⟨_, rfl⟩, rfl⟩⟩⟩⟩⟩) (by omega) (by omega) hok (fun h hok => ?_)
      refine q_dup dX1_init_43 rfl ?_
      refine c_callI (M' := mX0_init) [] _ dX1_init_44 wPX1_27 wIX0_init wCX0_init rfl rfl rfl oX0_init rfl (nX0_init Sc _ _ _ (by omega) gs_at h hok) (by omega) (by omega) (Nat.le_of_ble_eq_true rfl) (Nat.le_of_ble_eq_true rfl) (Nat.le_of_ble_eq_true rfl) rfl (fun O h' n' q => q.1) (fun h n' q => ?_)
      obtain ⟨-, en, hok⟩ := q
      obtain rfl : n' = B + 3 + 2 * (g + 1) := by omega
      refine c_aast kX0 dX1_init_47 hok (i := B + 1) (t := 3) (ps := ps) (by rw [gs_ne (by omega), gs_ne (by omega), gs_ne (by omega)]; exact h2) rfl gs_at (by rw [h3]; exact vp_in_nI (by omega) (by omega)) (fun h hok => ?_)
      rw [nI_clamp (by omega)] at hok
      refine t_iinc_n [.ref B, .int num, .int (nI (g + 1))] dX1_init_48 rfl (by decide) rfl ?_
      refine q_goto (tgt := 29) dX1_init_51 (by decide) ?_
      refine q_less (by omega) (by omega) (ih (g + 1) _ _ h (by omega) hok ?_ gs_at (by rw [List.length_set]; exact h3) ?_ ?_ ?_)
      · rw [gs_ne (by omega), gs_ne (by omega), gs_ne (by omega), gs_ne (by omega)]; exact h1
      · intro k hk
        by_cases hkg : k = g
        · subst hkg
          refine ⟨_, List.getElem?_set_self (by omega), fun Γ'' hag => ?_⟩
          refine ⟨_, (hag _ (by omega) (by omega)).trans ((gs_ne (by omega)).trans gs_at), ?_⟩
          rw [hag _ (by omega) (by omega), gs_ne (by omega), gs_ne (by omega)]; exact gs_at
        · obtain ⟨j, hj, hj2⟩ := h4 k (by omega)
          refine ⟨j, by rw [List.getElem?_set_ne (by omega)]; exact hj, fun Γ'' hag => hj2 Γ'' (fun i hi1 hi2 => ?_)⟩
          rw [hag i hi1 (by omega), gs_ne (by omega), gs_ne (by omega), gs_ne (by omega), gs_ne (by omega)]
      · rw [gs_ne (by omega), gs_ne (by omega), gs_ne (by omega), gs_ne (by omega)]; exact h5
      · intro j hj
        rw [gs_ne (by omega), gs_ne (by omega), gs_ne (by omega), gs_ne (by omega)]
        exact h8 j hj
  refine q_aload_n dX1_init_0 rfl ?_
  refine q_obj dX1_init_1 wOX1 wOi wOc (by decide) (Nat.le_of_ble_eq_true rfl) ?_
  refine q_aload_n dX1_init_4 rfl ?_
  refine q_bipush (v := nI 8) dX1_init_5 rfl ?_
  refine c_newq (t := 3) dX1_init_7 rfl wKX1_9 wYX0 (nI_pos (by decide)) (nI_clamp (by decide)) (by decide) (by omega) (by omega) hok (fun h hok => ?_)
  refine c_put 1 (p := (1, B + 1)) kX1 (by decide) wQX1_11 (Or.inr ⟨rfl, rfl, rfl⟩) dX1_init_10 hok ((gs_ne (by omega)).trans hg) (by exact Nat.le_of_ble_eq_true rfl) (fun _ => ⟨rfl, rfl⟩) (by rfl) (fun h hok => ?_)
  refine q_aload_n dX1_init_13 rfl ?_
  refine q_bipush (v := nI 6) dX1_init_14 rfl ?_
  refine c_newq (t := 4) dX1_init_16 rfl wKX1_17 wYX2 (nI_pos (by decide)) (nI_clamp (by decide)) (by decide) (by omega) (by omega) hok (fun h hok => ?_)
  refine c_put 2 (p := (1, B + 2)) kX1 (by decide) wQX1_19 (Or.inr ⟨rfl, rfl, rfl⟩) dX1_init_19 hok ((gs_ne (by omega)).trans gs_at) (by exact Nat.le_of_ble_eq_true rfl) (fun _ => ⟨rfl, rfl⟩) (by rfl) (fun h hok => ?_)
  refine q_aload_n dX1_init_22 rfl ?_
  refine q_iload_n dX1_init_23 rfl ?_
  refine c_put 0 (p := (0, 0)) kX1 (by decide) wQX1_23 (Or.inr ⟨rfl, rfl, rfl⟩) dX1_init_24 hok gs_at (by exact Nat.le_of_ble_eq_true rfl) ⟨rfl, rfl⟩ ⟨_, rfl⟩ (fun h hok => ?_)
  refine q_iconst (v := nI 0) dX1_init_27 rfl ?_
  refine t_istore [.ref B, .int num, .int (nI 0)] (Or.inl ⟨2, rfl, rfl, dX1_init_28⟩) (by decide) rfl ?_
  refine q_less (by omega) (by omega) (hl1 8 0 _ (List.replicate 8 (0, 0)) h rfl hok gs_at ?_ List.length_replicate (fun k hk => absurd hk (by omega)) ?_ ?_)
  · rw [gs_ne (by omega), gs_ne (by omega), gs_ne (by omega), gs_ne (by omega)]; exact gs_at
  · rw [gs_ne (by omega), gs_ne (by omega)]; exact gs_at
  · intro j hj
    rw [gs_ne (by omega), gs_ne (by omega), gs_ne (by omega), gs_ne (by omega), gs_ne (by omega)]

