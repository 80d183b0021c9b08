def q_clamp (x : Int32) : Int32 := if x < nI 1 then nI 1 else if nI 4 < x then nI 4 else x
theorem q_cl (lk : Int32) : ∃ many : Nat, 1 ≤ many ∧ many ≤ 4 ∧ nI many = q_clamp lk ∧ (if nI 1 < (if nI 4 < lk then nI 4 else lk) then (if nI 4 < lk then nI 4 else lk) else nI 1) = nI many := by
  by_cases h4 : nI 4 < lk
  · have h1 : ¬ lk < nI 1 := fun q => by
      rw [Int32.lt_iff_toInt_lt, nI_toInt (by decide)] at h4 q
      omega
    refine ⟨4, by omega, by omega, ?_, ?_⟩
    · unfold q_clamp
      rw [if_neg h1, if_pos h4]
    · rw [if_pos h4]
      rfl
  · by_cases h1 : lk < nI 1
    · refine ⟨1, by omega, by omega, ?_, ?_⟩
      · unfold q_clamp
        rw [if_pos h1]
      · rw [if_neg h4, if_neg]
        intro q
        rw [Int32.lt_iff_toInt_lt, nI_toInt (by decide)] at h1 q
        omega
    · obtain ⟨g, hg, rfl⟩ := q_chk2 (a := lk) (B := 4) (by decide) (fun q => h1 (by
        rw [Int32.lt_iff_toInt_lt, nI_toInt (by decide)] at q ⊢
        omega)) h4
      have hg1 : 1 ≤ g := Nat.le_of_not_lt fun q => h1 ((nI_ltI (by omega) (by decide)).mpr q)
      refine ⟨g, hg1, hg, ?_, ?_⟩
      · unfold q_clamp
        rw [if_neg h1, if_neg h4]
      · rw [if_neg h4]
        by_cases h5 : nI 1 < nI g
        · rw [if_pos h5]
        · rw [if_neg h5]
          have : ¬ 1 < g := fun q => h5 ((nI_ltI (by decide) (by omega)).mpr q)
          rw [show g = 1 by omega]
theorem eJ9_min (Sc : q_S) (Γ : Nat → q_K) (n : Nat) (a b : Int32) : q_safe Sc Γ mJ9_min_7cf53 [.int a, .int b] n 0 0 (fun O => O = .inl (some (.int (if b < a then b else a)))) := by
  intro h hok
  show q_A Sc mJ9_min_7cf53 0 [.int a, .int b] [] h n 0 0 (fun O h' n' => (O = .inl (some (.int (if b < a then b else a)))) ∧ q_ok Γ h' ∧ n' = n)
  refine q_iload_n dJ9_min_7cf53_0 rfl ?_
  refine q_iload_n dJ9_min_7cf53_1 rfl ?_
  refine q_icmp_gt (tgt := 9) dJ9_min_7cf53_2 (by decide) (fun c => ?_) (fun c => ?_)
  · refine q_iload_n dJ9_min_7cf53_9 rfl ?_
    exact q_iret dJ9_min_7cf53_10 rfl rfl ⟨by rw [if_pos c], hok, rfl⟩
  · refine q_iload_n dJ9_min_7cf53_5 rfl ?_
    refine q_goto (tgt := 10) dJ9_min_7cf53_6 (by decide) ?_
    exact q_iret dJ9_min_7cf53_10 rfl rfl ⟨by rw [if_neg c], hok, rfl⟩
theorem eJ9_max (Sc : q_S) (Γ : Nat → q_K) (n : Nat) (a b : Int32) : q_safe Sc Γ mJ9_max_7cf53 [.int a, .int b] n 0 0 (fun O => O = .inl (some (.int (if a < b then b else a)))) := by
  intro h hok
  show q_A Sc mJ9_max_7cf53 0 [.int a, .int b] [] h n 0 0 (fun O h' n' => (O = .inl (some (.int (if a < b then b else a)))) ∧ q_ok Γ h' ∧ n' = n)
  refine q_iload_n dJ9_max_7cf53_0 rfl ?_
  refine q_iload_n dJ9_max_7cf53_1 rfl ?_
  refine q_icmp_lt (tgt := 9) dJ9_max_7cf53_2 (by decide) (fun c => ?_) (fun c => ?_)
  · refine q_iload_n dJ9_max_7cf53_9 rfl ?_
    exact q_iret dJ9_max_7cf53_10 rfl rfl ⟨by rw [if_pos c], hok, rfl⟩
  · refine q_iload_n dJ9_max_7cf53_5 rfl ?_
    refine q_goto (tgt := 10) dJ9_max_7cf53_6 (by decide) ?_
    exact q_iret dJ9_max_7cf53_10 rfl rfl ⟨by rw [if_neg c], hok, rfl⟩
set_option maxHeartbeats 4000000 in
theorem nX4_init (Sc : q_S) (Γ : Nat → q_K) (X : Nat) (hg : Γ X = (4, 4, [(3, 0), (3, 0)])) (lk : Int32) (h : q_H) (hok : q_ok Γ h) : q_A Sc mX4_init 0 [.ref X, .int lk, .retAddr 0, .retAddr 0] [] h (X + 1) 200 1500 (fun O h' n' => O = .inl none ∧ ∃ (many : Nat) (Γ' : Nat → q_K), 1 ≤ many ∧ many ≤ 4 ∧ nI many = q_clamp lk ∧ n' = X + 7 + 37 * many ∧ q_ok Γ' h' ∧ (∀ j, j < X → Γ' j = Γ j) ∧ ∀ Γ'', (∀ j, X ≤ j → j < X + 7 + 37 * many → Γ'' j = Γ' j) → kGF Γ'' X many ∧ kGm Γ'' X many z0 z0) := by
  obtain ⟨many, hm1, hm4, hmc, hmv⟩ := q_cl lk
  have hl : ∀ (d g : Nat) (Γ1 : Nat → q_K) (ps : List (Nat × Nat)) (h : q_H), g + d = many → q_ok Γ1 h → Γ1 X = (4, 4, [(1, X + 1), (3, 0)]) → Γ1 (X + 1) = (6, 2, ps) → ps.length = many → (∀ k, k < g → ∃ j, ps[k]? = some (1, j) ∧ ∀ Γ'' : Nat → q_K, (∀ i, X + 2 ≤ i → i < X + 2 + 37 * g → Γ'' i = Γ1 i) → kL0 Γ'' j (X + 2 + 37 * k)) → (∀ j, j < X → Γ1 j = Γ j) →
      q_A Sc mX4_init 24 [.ref X, .int lk, .int (nI many), .int (nI g)] [] h (X + 2 + 37 * g) (37 * d + 5) (298 * d + 166) (fun O h' n' => O = .inl none ∧ ∃ (many : Nat) (Γ' : Nat → q_K), 1 ≤ many ∧ many ≤ 4 ∧ nI many = q_clamp lk ∧ n' = X + 7 + 37 * many ∧ q_ok Γ' h' ∧ (∀ j, j < X → Γ' j = Γ j) ∧ ∀ Γ'', (∀ j, X ≤ j → j < X + 7 + 37 * many → Γ'' j = Γ' j) → kGF Γ'' X many ∧ kGm Γ'' X many z0 z0) := by
    intro d
    induction d with
    | zero =>
      intro g Γ1 ps h eg hok h1 h2 h3 h4 h8
      obtain rfl : g = many := by omega
      refine q_iload_n dX4_init_24 rfl ?_
      refine q_iload_n dX4_init_25 rfl ?_
      refine t_icmp_ge_n (tgt := 49) (by omega) (by omega) dX4_init_26 (by decide) (fun c1 => ?_) (fun c1 => absurd c1 (by omega))
      refine q_aload_n dX4_init_49 rfl ?_
      have hf1 : ∀ (k : Nat) (p : Nat × Nat), ps[k]? = some p → ∃ j, p = (1, j) ∧ ∀ Γ'' : Nat → q_K, (∀ i, X + 2 ≤ i → i < X + 2 + 37 * g → Γ'' i = Γ1 i) → kL0 Γ'' j (X + 2 + 37 * k) := fun k p hp => by
        have hk : k < g := by rw [← h3]; exact (List.getElem?_eq_some_iff.mp hp).1
        obtain ⟨j, hj, hj2⟩ := h4 k hk
        exact ⟨j, Option.some.inj (hp.symm.trans hj), hj2⟩
      have hok := c_full hok h2 (fun k p hp => by obtain ⟨j, rfl, -⟩ := hf1 k p hp; rfl)
      refine c_new (fs := [.null, .null, .null, .null, .int 0, .int 0]) [(3, 0), (3, 0), (3, 0), (3, 0), (0, 0), (0, 0)] kX3 wKX4_27 wZX3 wNX3 dX4_init_50 (fun j hj => by rcases (show j = 0 ∨ j = 1 ∨ j = 2 ∨ j = 3 ∨ j = 4 ∨ j = 5 by omega) with rfl | rfl | rfl | rfl | rfl | rfl <;> rfl) (fun _ => ⟨_, _, rfl, rfl, ⟨_, _, rfl, rfl, ⟨_, _, rfl, rfl, ⟨_, _, rfl, rfl, ⟨_, _, rfl, rfl, ⟨_, _, rfl, rfl, rfl⟩⟩⟩⟩⟩⟩) (⟨_, _, rfl, rfl, ⟨_, _, rfl, rfl, ⟨_, _, rfl, rfl, ⟨_, _, rfl, rfl, ⟨_, _, rfl, ⟨_, rfl⟩, ⟨_, _, rfl, ⟨_, rfl⟩, rfl⟩⟩⟩⟩⟩⟩) (by omega) (by omega) hok (fun h hok => ?_)
      refine q_dup dX4_init_53 rfl ?_
      refine c_callI (M' := mX3_init) [] _ dX4_init_54 wPX4_29 wIX3_init wCX3_init rfl rfl rfl oX3_init rfl (nX3_init Sc _ _ _ (by omega) gs_at h hok) (by omega) (by omega) (Nat.le_of_ble_eq_true rfl) (Nat.le_of_ble_eq_true rfl) (Nat.le_of_ble_eq_true rfl) rfl (fun O h' n' q => q.1) (fun h n' q => ?_)
      obtain ⟨-, en, hok⟩ := q
      obtain ⟨Γ3, hok, hlow, a0, a1, a2, a3, a4⟩ : ∃ Γ3 : Nat → q_K, q_ok Γ3 h ∧ (∀ j, j < X + 2 + 37 * g → Γ3 j = gset Γ1 (X + 1) (3, 2, ps) j) ∧ Γ3 (X + 2 + 37 * g) = (4, 3, [(1, X + 2 + 37 * g + 1), (1, X + 2 + 37 * g + 1 + 1), (1, X + 2 + 37 * g + 1 + 2), (1, X + 2 + 37 * g + 1 + 3), (0, 0), (0, 0)]) ∧ Γ3 (X + 2 + 37 * g + 1) = (1, 40, []) ∧ Γ3 (X + 2 + 37 * g + 1 + 1) = (1, 40, []) ∧ Γ3 (X + 2 + 37 * g + 1 + 2) = (1, 40, []) ∧ Γ3 (X + 2 + 37 * g + 1 + 3) = (1, 40, []) := by
        refine ⟨_, hok, fun j hj => ?_, gs_at, ?_, ?_, ?_, ?_⟩
        · rw [gs_ne (by omega), gs_ne (by omega), gs_ne (by omega), gs_ne (by omega), gs_ne (by omega), gs_ne (by omega), gs_ne (by omega), gs_ne (by omega), gs_ne (by omega)]
        · rw [gs_ne (by omega), gs_ne (by omega), gs_ne (by omega), gs_ne (by omega), gs_ne (by omega), gs_ne (by omega), gs_ne (by omega)]; exact gs_at
        · rw [gs_ne (by omega), gs_ne (by omega), gs_ne (by omega), gs_ne (by omega), gs_ne (by omega)]; exact gs_at
        · rw [gs_ne (by omega), gs_ne (by omega), gs_ne (by omega)]; exact gs_at
        · rw [gs_ne (by omega)]; exact gs_at
      refine c_put 1 (p := (1, X + 2 + 37 * g)) kX4 (by decide) wQX4_30 (Or.inr ⟨rfl, rfl, rfl⟩) dX4_init_57 hok (ps := [(1, X + 1), (3, 0)]) ((hlow X (by omega)).trans ((gs_ne (by omega)).trans h1)) (by exact Nat.le_of_ble_eq_true rfl) (fun _ => ⟨rfl, rfl⟩) (by rfl) (fun h hok => ?_)
      refine q_vret dX4_init_60 rfl ⟨rfl, g, _, hm1, hm4, hmc, by omega, hok, fun j hj => ?_, fun Γ'' hag => ?_⟩
      · rw [gs_ne (by omega), hlow j (by omega), gs_ne (by omega)]
        exact h8 j hj
      · refine ⟨⟨X + 1, X + 2 + 37 * g, ps, ?_, ?_, h3, fun k p hp => ?_, ?_⟩, ?_, ?_, fun l hl => ?_⟩
        · rw [hag X (by omega) (by omega)]; exact gs_at
        · rw [hag (X + 1) (by omega) (by omega), gs_ne (by omega), hlow (X + 1) (by omega)]; exact gs_at
        · obtain ⟨j, rfl, hj⟩ := hf1 k p hp
          refine (hj Γ'' (fun i hi1 hi2 => ?_)).1
          rw [hag i (by omega) (by omega), gs_ne (by omega), hlow i (by omega), gs_ne (by omega)]
        · refine ⟨X + 2 + 37 * g + 1, X + 2 + 37 * g + 1 + 1, X + 2 + 37 * g + 1 + 2, X + 2 + 37 * g + 1 + 3, ?_, ?_, ?_, ?_, ?_⟩
          · rw [hag _ (by omega) (by omega), gs_ne (by omega)]; exact a0
          · rw [hag _ (by omega) (by omega), gs_ne (by omega)]; exact a1
          · rw [hag _ (by omega) (by omega), gs_ne (by omega)]; exact a2
          · rw [hag _ (by omega) (by omega), gs_ne (by omega)]; exact a3
          · rw [hag _ (by omega) (by omega), gs_ne (by omega)]; exact a4
        · rw [hag X (by omega) (by omega)]; exact gs_at
        · rw [hag (X + 1) (by omega) (by omega), gs_ne (by omega), hlow (X + 1) (by omega), gs_at]
          have hps : ps = (List.range g).map (fun l => (1, X + 2 + 37 * l)) := List.ext_getElem? fun k => by
            by_cases hk : k < g
            · obtain ⟨j, hj, hj2⟩ := h4 k hk
              rw [hj, (hj2 Γ1 (fun _ _ _ => rfl)).2.2, List.getElem?_map, List.getElem?_range hk]
              rfl
            · rw [List.getElem?_eq_none (by omega), List.getElem?_eq_none (by rw [List.length_map, List.length_range]; omega)]
          rw [hps]
        · obtain ⟨j, hj, hj2⟩ := h4 l hl
          have q := hj2 Γ'' (fun i hi1 hi2 => by rw [hag i (by omega) (by omega), gs_ne (by omega), hlow i (by omega), gs_ne (by omega)])
          rw [← q.2.2]
          exact q.2.1 l
    | succ d ih =>
      intro g Γ1 ps h eg hok h1 h2 h3 h4 h8
      refine q_iload_n dX4_init_24 rfl ?_
      refine q_iload_n dX4_init_25 rfl ?_
      refine t_icmp_ge_n (tgt := 49) (by omega) (by omega) dX4_init_26 (by decide) (fun c1 => absurd c1 (by omega)) (fun c1 => ?_)
      refine q_aload_n dX4_init_29 rfl ?_
      refine t_getr 0 kX4 (by decide) wPX4_20 dX4_init_30 hok h1 rfl ?_
      refine q_iload_n dX4_init_33 rfl ?_
      refine c_new (fs := [.int 0, .null, .null, .int 0, .int 0, .int 0, .int 0, .int 0]) [(0, 0), (3, 0), (3, 0), (0, 0), (0, 0), (0, 0), (0, 0), (0, 0)] kX1 wKX4_18 wZX1 wNX1 dX4_init_34 (fun j hj => by rcases (show j = 0 ∨ j = 1 ∨ j = 2 ∨ j = 3 ∨ j = 4 ∨ j = 5 ∨ j = 6 ∨ j = 7 by omega) with rfl | rfl | rfl | rfl | rfl | rfl | rfl | rfl <;> rfl) (fun _ => ⟨_, _, rfl, rfl, ⟨_, _, rfl, rfl, ⟨_, _, rfl, rfl, ⟨_, _, rfl, rfl, ⟨_, _, rfl, rfl, ⟨_, _, rfl, rfl, ⟨_, _, rfl, rfl, ⟨_, _, rfl, rfl, rfl⟩⟩⟩⟩⟩⟩⟩⟩) (⟨_, _, rfl, ⟨_, rfl⟩, ⟨_, _, rfl, rfl, ⟨_, _, rfl, rfl, ⟨_, _, rfl, ⟨_, rfl⟩, ⟨_, _, rfl, ⟨_, rfl⟩, ⟨_, _, rfl, ⟨_, rfl⟩, ⟨_, _, rfl, ⟨_, rfl⟩, ⟨_, _, rfl, ⟨_, rfl⟩, rfl⟩⟩⟩⟩⟩⟩⟩⟩) (by omega) (by omega) hok (fun h hok => ?_)
      refine q_dup dX4_init_37 rfl ?_
      refine q_iload_n dX4_init_38 rfl ?_
      refine c_callI (M' := mX1_init) [.int (nI g)] _ dX4_init_39 wPX4_24 wIX1_init wCX1_init rfl rfl rfl oX1_init rfl (nX1_init Sc _ _ gs_at (nI g) h hok) (by omega) (by omega) (Nat.le_of_ble_eq_true rfl) (Nat.le_of_ble_eq_true rfl) (Nat.le_of_ble_eq_true rfl) rfl (fun O h' n' q => q.1) (fun h n' q => ?_)
      obtain ⟨-, en, Γ2, hok, hfr, hcl⟩ := q
      obtain rfl : n' = X + 2 + 37 * (g + 1) := by omega
      obtain ⟨_, _, _, _, hB, -⟩ := (hcl Γ2 (fun _ _ _ => rfl)).1
      have hlow : ∀ j, j < X + 2 + 37 * g → Γ2 j = Γ1 j := fun j hj => by rw [hfr j hj, gs_ne (by omega)]
      refine c_aast kX1 dX4_init_42 hok (i := X + 1) (t := 2) (ps := ps) (by rw [hlow _ (by omega)]; exact h2) rfl hB (by rw [h3]; exact vp_in_nI (by omega) (by omega)) (fun h hok => ?_)
      rw [nI_clamp (by omega)] at hok
      refine t_iinc_n [.ref X, .int lk, .int (nI many), .int (nI (g + 1))] dX4_init_43 rfl (by decide) rfl ?_
      refine q_goto (tgt := 24) dX4_init_46 (by decide) ?_
      refine q_less (by omega) (by omega) (ih (g + 1) _ _ h (by omega) hok ?_ gs_at (by rw [List.length_set]; exact h3) ?_ ?_)
      · rw [gs_ne (by omega), hlow _ (by omega)]; exact h1
      · intro k hk
        by_cases hkg : k = g
        · subst hkg
          refine ⟨_, List.getElem?_set_self (by omega), fun Γ'' hag => ?_⟩
          have q := hcl Γ'' (fun j hj1 hj2 => ?_)
          · exact ⟨q.1, q.2, rfl⟩
          rw [hag j (by omega) (by omega), gs_ne (by omega)]
        · obtain ⟨j, hj, hj2⟩ := h4 k (by omega)
          refine ⟨j, by rw [List.getElem?_set_ne (by omega)]; exact hj, fun Γ'' hag => hj2 Γ'' (fun i hi1 hi2 => ?_)⟩
          rw [hag i hi1 (by omega), gs_ne (by omega), hlow _ (by omega)]
      · intro j hj
        rw [gs_ne (by omega), hlow _ (by omega)]
        exact h8 j hj
  refine q_aload_n dX4_init_0 rfl ?_
  refine q_obj dX4_init_1 wOX4 wOi wOc (by decide) (Nat.le_of_ble_eq_true rfl) ?_
  refine q_iconst (v := nI 1) dX4_init_4 rfl ?_
  refine q_iload_n dX4_init_5 rfl ?_
  refine q_iconst (v := nI 4) dX4_init_6 rfl ?_
  refine t_callS (M' := mJ9_min_7cf53) [.int lk, .int (nI 4)] [.int (nI 1)] dX4_init_7 wPX4_9 wTJ9_min_7cf53 wNJ9 iJ9_min_7cf53 oJ9_min_7cf53 rfl hok (eJ9_min Sc Γ _ lk (nI 4)) (by omega) (by omega) (Nat.le_of_ble_eq_true rfl) (Nat.le_of_ble_eq_true rfl) (Nat.le_of_ble_eq_true rfl) rfl (fun v h qv hok => ?_) (fun x h qx hok => absurd qx (by intro q; cases q))
  obtain rfl := Sum.inl.inj qv
  refine t_callS (M' := mJ9_max_7cf53) [.int (nI 1), .int (if nI 4 < lk then nI 4 else lk)] [] dX4_init_10 wPX4_15 wTJ9_max_7cf53 wNJ9 iJ9_max_7cf53 oJ9_max_7cf53 rfl hok (eJ9_max Sc Γ _ (nI 1) _) (by omega) (by omega) (Nat.le_of_ble_eq_true rfl) (Nat.le_of_ble_eq_true rfl) (Nat.le_of_ble_eq_true rfl) rfl (fun v h qv hok => ?_) (fun x h qx hok => absurd qx (by intro q; cases q))
  obtain rfl := Sum.inl.inj qv
  rw [hmv]
  refine t_istore [.ref X, .int lk, .int (nI many), .retAddr 0] (Or.inl ⟨2, rfl, rfl, dX4_init_13⟩) (by decide) rfl ?_
  refine q_aload_n dX4_init_14 rfl ?_
  refine q_iload_n dX4_init_15 rfl ?_
  refine c_newq (t := 2) dX4_init_16 rfl wKX4_18 wYX1 (nI_pos (by omega)) (nI_clamp (by omega)) (by omega) (by omega) (by omega) hok (fun h hok => ?_)
  refine c_put 0 (p := (1, X + 1)) kX4 (by decide) wQX4_20 (Or.inr ⟨rfl, rfl, rfl⟩) dX4_init_19 hok ((gs_ne (by omega)).trans hg) (by exact Nat.le_of_ble_eq_true rfl) (fun _ => ⟨rfl, rfl⟩) (by rfl) (fun h hok => ?_)
  refine q_iconst (v := nI 0) dX4_init_22 rfl ?_
  refine t_istore [.ref X, .int lk, .int (nI many), .int (nI 0)] (Or.inl ⟨3, rfl, rfl, dX4_init_23⟩) (by decide) rfl ?_
  refine q_less (by omega) (by omega) (hl many 0 _ (List.replicate many (0, 0)) h (by omega) hok gs_at ?_ List.length_replicate (fun k hk => absurd hk (by omega)) ?_)
  · rw [gs_ne (by omega)]; exact gs_at
  · intro j hj
    rw [gs_ne (by omega), gs_ne (by omega)]

