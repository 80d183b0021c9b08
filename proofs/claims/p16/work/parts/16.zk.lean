set_option maxHeartbeats 4000000 in
theorem nX1_init (Sc : q_S) (Γ : Nat → q_K) (B : Nat) (hg : Γ B = (4, 1, [(0, 0), (3, 0), (3, 0), (0, 0), (0, 0), (0, 0), (0, 0), (0, 0)])) (hn5 : n5 Γ) (num : Int32) (h : q_H) (hok : q_ok Γ h) : q_A Sc mX1_init 0 [.ref B, .int num, .retAddr 0] [] h (B + 1) 36 290 (fun O h' n' => O = .inl none ∧ n' = B + 37 ∧ ∃ (Γ' : Nat → q_K) (V' : q_V), q_ok (gX Γ' V') h' ∧ n5 Γ' ∧ (∀ j, j < B → Γ' j = Γ j) ∧ sLk Γ' B ∧ CL V' B ∧ V' B 0 = num) := by
  have hl2 : ∀ (d g : Nat) (Γ1 : Nat → q_K) (fl ps : List (Nat × Nat)) (h : q_H), g + d = 6 → q_ok Γ1 h → n5 Γ1 → Γ1 B = (4, 1, [(2, q_cd num), (1, B + 1), (1, B + 2), (0, 0), (0, 0), (0, 0), (0, 0), (0, 0)]) → Γ1 (B + 1) = (6, 3, fl) → fl.length = 8 → (∀ k, k < 8 → fl[k]? = some (1, B + 3 + 2 * k) ∧ sF Γ1 (B + 3 + 2 * k)) → Γ1 (B + 2) = (6, 4, ps) → ps.length = 6 → (∀ k, k < g → ps[k]? = some (1, B + 19 + 3 * k) ∧ sMb Γ1 (B + 19 + 3 * k)) → (∀ j, j < B → Γ1 j = Γ j) →
      q_A Sc mX1_init 56 [.ref B, .int num, .int (nI g)] [] h (B + 19 + 3 * g) (3 * d) (18 * d) (fun O h' n' => O = .inl none ∧ n' = B + 37 ∧ ∃ (Γ' : Nat → q_K) (V' : q_V), q_ok (gX Γ' V') h' ∧ n5 Γ' ∧ (∀ j, j < B → Γ' j = Γ j) ∧ sLk Γ' B ∧ CL V' B ∧ V' B 0 = num) := by
    intro d
    induction d with
    | zero =>
      intro g Γ1 fl ps h eg hok h9 h1 h2 h3 h4 h5 h6 h7 h8
      obtain rfl : g = 6 := by omega
      refine q_iload_n dX1_init_56 rfl ?_
      refine q_bipush (v := nI 6) dX1_init_57 rfl ?_
      refine t_icmp_ge_n (tgt := 81) (by omega) (by omega) dX1_init_59 (by decide) (fun c1 => ?_) (fun c1 => absurd c1 (by omega))
      refine q_aload_n dX1_init_81 rfl ?_
      have hfl := rg_eq (f := fun g => (1, B + 3 + 2 * g)) h3 (fun k hk => (h4 k hk).1)
      have hps := rg_eq (f := fun m => (1, B + 19 + 3 * m)) h6 (fun k hk => (h7 k hk).1)
      have hok2 := c_full (c_full hok h2 (fun k p hp => by
        have hk : k < 8 := by rw [← h3]; exact (List.getElem?_eq_some_iff.mp hp).1
        rw [Option.some.inj (hp.symm.trans (h4 k hk).1)])) (i := B + 2) (t := 4) (ps := ps) ((gs_ne (by omega)).trans h5) (fun k p hp => by
        have hk : k < 6 := by rw [← h6]; exact (List.getElem?_eq_some_iff.mp hp).1
        rw [Option.some.inj (hp.symm.trans (h7 k hk).1)])
      have gB : gset (gset Γ1 (B + 1) (3, 3, fl)) (B + 2) (3, 4, ps) B = (4, 1, [(2, q_cd num), (1, B + 1), (1, B + 2), (0, 0), (0, 0), (0, 0), (0, 0), (0, 0)]) := by
        rw [gs_ne (by omega), gs_ne (by omega)]; exact h1
      have hok3 := wk_obj (K' := (4, 1, [(0, 0), (1, B + 1), (1, B + 2), (0, 0), (0, 0), (0, 0), (0, 0), (0, 0)])) hok2 gB (fun c hc => by
        obtain ⟨fs, e1, f0, r0, e0, m0, hr⟩ := hc
        exact ⟨fs, e1, f0, r0, e0, ⟨_, m0⟩, hr⟩)
      have n3 : n5 (gset (gset (gset Γ1 (B + 1) (3, 3, fl)) (B + 2) (3, 4, ps)) B (4, 1, [(0, 0), (1, B + 1), (1, B + 2), (0, 0), (0, 0), (0, 0), (0, 0), (0, 0)])) := ((h9.gs (by decide)).gs (by decide)).gs (by decide)
      have hS : sLk (gset (gset (gset Γ1 (B + 1) (3, 3, fl)) (B + 2) (3, 4, ps)) B (4, 1, [(0, 0), (1, B + 1), (1, B + 2), (0, 0), (0, 0), (0, 0), (0, 0), (0, 0)])) B := by
        refine ⟨gs_at, ?_, ?_, fun g hg => (h4 g hg).2.cg ?_ ?_, fun m hm => ?_⟩
        · rw [gs_ne (by omega), gs_ne (by omega), gs_at, hfl]
        · rw [gs_ne (by omega), gs_at, hps]
        · rw [gs_ne (by omega), gs_ne (by omega), gs_ne (by omega)]
        · rw [gs_ne (by omega), gs_ne (by omega), gs_ne (by omega)]
        · obtain ⟨a1, a2, a3⟩ := (h7 m hm).2
          exact ⟨by rw [gs_ne (by omega), gs_ne (by omega), gs_ne (by omega)]; exact a1, by rw [gs_ne (by omega), gs_ne (by omega), gs_ne (by omega)]; exact a2, by rw [gs_ne (by omega), gs_ne (by omega), gs_ne (by omega)]; exact a3⟩
      have hok4 := ex_of hok3 n3
      have hv := val_of hok2 gB (k := 0) rfl hok4 gs_at (z' := 0) rfl
      rw [nI_cd] at hv
      obtain ⟨VV, hVV⟩ : ∃ Z : q_V, Z = (fun i => vOf (h i)) := ⟨_, rfl⟩
      rw [← hVV] at hok4
      have hv : VV B 0 = num := by rw [hVV]; exact hv
      refine v_callV (M' := mX1_reset) [] [] kX1 dX1_init_82 wPX1_29v wIX1_reset wSX1_reset iX1_reset oX1_reset rfl hok4 gs_at (eX1_reset Sc _ _ VV B hS) (Nat.le_of_ble_eq_true rfl) (Nat.le_of_ble_eq_true rfl) (Nat.le_of_ble_eq_true rfl) rfl (fun h hok => ?_)
      obtain ⟨r1, r2, -⟩ := rs1 (V := VV) (B := B)
      exact q_vret dX1_init_85 rfl ⟨rfl, by omega, _, _, hok, n3, fun j hj => by rw [gs_ne (by omega), gs_ne (by omega), gs_ne (by omega)]; exact h8 j hj, hS, r1, r2.trans hv⟩
    | succ d ih =>
      intro g Γ1 fl ps h eg hok h9 h1 h2 h3 h4 h5 h6 h7 h8
      refine q_iload_n dX1_init_56 rfl ?_
      refine q_bipush (v := nI 6) dX1_init_57 rfl ?_
      refine t_icmp_ge_n (tgt := 81) (by omega) (by omega) dX1_init_59 (by decide) (fun c1 => absurd c1 (by omega)) (fun c1 => ?_)
      refine q_aload_n dX1_init_62 rfl ?_
      refine t_getr 2 kX1 (by decide) wPX1_19 dX1_init_63 hok h1 rfl ?_
      refine q_iload_n dX1_init_66 rfl ?_
      refine c_new (fs := [.null, .null]) [(3, 0), (3, 0)] kX2 wKX1_17 wZX2 wNX2 dX1_init_67 (fun j hj => by rcases (show j = 0 ∨ j = 1 by omega) with rfl | rfl <;> rfl) (fun _ => ⟨_, _, rfl, rfl, ⟨_, _, rfl, rfl, rfl⟩⟩) (⟨_, _, rfl, rfl, ⟨_, _, rfl, rfl, rfl⟩⟩) (by omega) (by omega) hok (fun h hok => ?_)
      refine q_dup dX1_init_70 rfl ?_
      refine c_callI (M' := mX2_init) [] _ dX1_init_71 wPX1_28 wIX2_init wCX2_init rfl rfl rfl oX2_init rfl (nX2_init Sc _ _ _ (by omega) gs_at h hok) (by omega) (by omega) (Nat.le_of_ble_eq_true rfl) (Nat.le_of_ble_eq_true rfl) (Nat.le_of_ble_eq_true rfl) rfl (fun O h' n' q => q.1) (fun h n' q => ?_)
      obtain ⟨-, en, hok⟩ := q
      obtain rfl : n' = B + 19 + 3 * (g + 1) := by omega
      refine c_aast kX2 dX1_init_74 hok (i := B + 2) (t := 4) (ps := ps) (by rw [gs_ne (by omega), gs_ne (by omega), gs_ne (by omega), gs_ne (by omega), gs_ne (by omega)]; exact h5) rfl gs_at (by rw [h6]; exact vp_in_nI (by omega) (by omega)) (fun h hok => ?_)
      rw [nI_clamp (by omega)] at hok
      refine t_iinc_n [.ref B, .int num, .int (nI (g + 1))] dX1_init_75 rfl (by decide) rfl ?_
      refine q_goto (tgt := 56) dX1_init_78 (by decide) ?_
      refine q_less (by omega) (by omega) (ih (g + 1) _ fl (ps.set g (1, B + 19 + 3 * g)) h (by omega) hok ((((((h9.gs (by decide)).gs (by decide)).gs (by decide)).gs (by decide)).gs (by decide)).gs (by decide)) ?_ ?_ h3 ?_ gs_at (by rw [List.length_set]; exact h6) ?_ ?_)
      · rw [gs_ne (by omega), gs_ne (by omega), gs_ne (by omega), gs_ne (by omega), gs_ne (by omega), gs_ne (by omega)]; exact h1
      · rw [gs_ne (by omega), gs_ne (by omega), gs_ne (by omega), gs_ne (by omega), gs_ne (by omega), gs_ne (by omega)]; exact h2
      · intro k hk
        obtain ⟨a1, a2⟩ := h4 k hk
        exact ⟨a1, a2.cg (by rw [gs_ne (by omega), gs_ne (by omega), gs_ne (by omega), gs_ne (by omega), gs_ne (by omega), gs_ne (by omega)]) (by rw [gs_ne (by omega), gs_ne (by omega), gs_ne (by omega), gs_ne (by omega), gs_ne (by omega), gs_ne (by omega)])⟩
      · intro k hk
        by_cases hkg : k = g
        · subst hkg
          refine ⟨List.getElem?_set_self (by omega), ?_, ?_, ?_⟩
          · rw [gs_ne (by omega)]; exact gs_at
          · rw [gs_ne (by omega), gs_ne (by omega), gs_ne (by omega), gs_ne (by omega)]; exact gs_at
          · rw [gs_ne (by omega), gs_ne (by omega)]; exact gs_at
        · obtain ⟨q1, q2, q3, q4⟩ := h7 k (by omega)
          refine ⟨by rw [List.getElem?_set_ne (by omega)]; exact q1, ?_, ?_, ?_⟩
          · rw [gs_ne (by omega), gs_ne (by omega), gs_ne (by omega), gs_ne (by omega), gs_ne (by omega), gs_ne (by omega)]; exact q2
          · rw [gs_ne (by omega), gs_ne (by omega), gs_ne (by omega), gs_ne (by omega), gs_ne (by omega), gs_ne (by omega)]; exact q3
          · rw [gs_ne (by omega), gs_ne (by omega), gs_ne (by omega), gs_ne (by omega), gs_ne (by omega), gs_ne (by omega)]; exact q4
      · intro j hj
        rw [gs_ne (by omega), gs_ne (by omega), gs_ne (by omega), gs_ne (by omega), gs_ne (by omega), gs_ne (by omega)]
        exact h8 j hj
  have hl1 : ∀ (d g : Nat) (Γ1 : Nat → q_K) (ps : List (Nat × Nat)) (h : q_H), g + d = 8 → q_ok Γ1 h → n5 Γ1 → Γ1 B = (4, 1, [(2, q_cd num), (1, B + 1), (1, B + 2), (0, 0), (0, 0), (0, 0), (0, 0), (0, 0)]) → Γ1 (B + 1) = (6, 3, ps) → ps.length = 8 → (∀ k, k < g → ps[k]? = some (1, B + 3 + 2 * k) ∧ sF Γ1 (B + 3 + 2 * k)) → Γ1 (B + 2) = (6, 4, List.replicate 6 (0, 0)) → (∀ j, j < B → Γ1 j = Γ j) →
      q_A Sc mX1_init 29 [.ref B, .int num, .int (nI g)] [] h (B + 3 + 2 * g) (2 * d + 18) (21 * d + 108) (fun O h' n' => O = .inl none ∧ n' = B + 37 ∧ ∃ (Γ' : Nat → q_K) (V' : q_V), q_ok (gX Γ' V') h' ∧ n5 Γ' ∧ (∀ j, j < B → Γ' j = Γ j) ∧ sLk Γ' B ∧ CL V' B ∧ V' B 0 = num) := by
    intro d
    induction d with
    | zero =>
      intro g Γ1 ps h eg hok h9 h1 h2 h3 h4 h5 h8
      obtain rfl : g = 8 := by omega
      refine q_iload_n dX1_init_29 rfl ?_
      refine q_bipush (v := nI 8) dX1_init_30 rfl ?_
      refine t_icmp_ge_n (tgt := 54) (by omega) (by omega) dX1_init_32 (by decide) (fun c1 => ?_) (fun c1 => absurd c1 (by omega))
      refine q_iconst (v := nI 0) dX1_init_54 rfl ?_
      refine t_istore [.ref B, .int num, .int (nI 0)] (Or.inl ⟨2, rfl, rfl, dX1_init_55⟩) (by decide) rfl ?_
      exact hl2 6 0 Γ1 ps _ h rfl hok h9 h1 h2 h3 h4 h5 List.length_replicate (fun k hk => absurd hk (by omega)) h8
    | succ d ih =>
      intro g Γ1 ps h eg hok h9 h1 h2 h3 h4 h5 h8
      refine q_iload_n dX1_init_29 rfl ?_
      refine q_bipush (v := nI 8) dX1_init_30 rfl ?_
      refine t_icmp_ge_n (tgt := 54) (by omega) (by omega) dX1_init_32 (by decide) (fun c1 => absurd c1 (by omega)) (fun c1 => ?_)
      refine q_aload_n dX1_init_35 rfl ?_
      refine t_getr 1 kX1 (by decide) wPX1_11 dX1_init_36 hok h1 rfl ?_
      refine q_iload_n dX1_init_39 rfl ?_
      refine c_new (fs := [.null, .int 0, .int 0, .int 0, .int 0]) [(3, 0), (0, 0), (0, 0), (0, 0), (0, 0)] kX0 wKX1_9 wZX0 wNX0 dX1_init_40 (fun j hj => by rcases (show j = 0 ∨ j = 1 ∨ j = 2 ∨ j = 3 ∨ j = 4 by omega) with rfl | rfl | rfl | rfl | rfl <;> rfl) (fun _ => ⟨_, _, rfl, rfl, ⟨_, _, rfl, rfl, ⟨_, _, rfl, rfl, ⟨_, _, rfl, rfl, ⟨_, _, rfl, rfl, rfl⟩⟩⟩⟩⟩) (⟨_, _, rfl, rfl, ⟨_, _, rfl, ⟨_, rfl⟩, ⟨_, _, rfl, ⟨_, rfl⟩, ⟨_, _, rfl, ⟨_, rfl⟩, ⟨_, _, rfl, ⟨_, rfl⟩, rfl⟩⟩⟩⟩⟩) (by omega) (by omega) hok (fun h hok => ?_)
      refine q_dup dX1_init_43 rfl ?_
      refine c_callI (M' := mX0_init) [] _ dX1_init_44 wPX1_27 wIX0_init wCX0_init rfl rfl rfl oX0_init rfl (nX0_init Sc _ _ _ (by omega) gs_at h hok) (by omega) (by omega) (Nat.le_of_ble_eq_true rfl) (Nat.le_of_ble_eq_true rfl) (Nat.le_of_ble_eq_true rfl) rfl (fun O h' n' q => q.1) (fun h n' q => ?_)
      obtain ⟨-, en, hok⟩ := q
      obtain rfl : n' = B + 3 + 2 * (g + 1) := by omega
      refine c_aast kX0 dX1_init_47 hok (i := B + 1) (t := 3) (ps := ps) (by rw [gs_ne (by omega), gs_ne (by omega), gs_ne (by omega)]; exact h2) rfl gs_at (by rw [h3]; exact vp_in_nI (by omega) (by omega)) (fun h hok => ?_)
      rw [nI_clamp (by omega)] at hok
      refine t_iinc_n [.ref B, .int num, .int (nI (g + 1))] dX1_init_48 rfl (by decide) rfl ?_
      refine q_goto (tgt := 29) dX1_init_51 (by decide) ?_
      refine q_less (by omega) (by omega) (ih (g + 1) _ _ h (by omega) hok ((((h9.gs (by decide)).gs (by decide)).gs (by decide)).gs (by decide)) ?_ gs_at (by rw [List.length_set]; exact h3) ?_ ?_ ?_)
      · rw [gs_ne (by omega), gs_ne (by omega), gs_ne (by omega), gs_ne (by omega)]; exact h1
      · intro k hk
        by_cases hkg : k = g
        · subst hkg
          refine ⟨List.getElem?_set_self (by omega), ?_, ?_⟩
          · rw [gs_ne (by omega)]; exact gs_at
          · rw [gs_ne (by omega), gs_ne (by omega)]; exact gs_at
        · obtain ⟨a1, a2⟩ := h4 k (by omega)
          exact ⟨by rw [List.getElem?_set_ne (by omega)]; exact a1, a2.cg (by rw [gs_ne (by omega), gs_ne (by omega), gs_ne (by omega), gs_ne (by omega)]) (by rw [gs_ne (by omega), gs_ne (by omega), gs_ne (by omega), gs_ne (by omega)])⟩
      · rw [gs_ne (by omega), gs_ne (by omega), gs_ne (by omega), gs_ne (by omega)]; exact h5
      · intro j hj
        rw [gs_ne (by omega), gs_ne (by omega), gs_ne (by omega), gs_ne (by omega)]
        exact h8 j hj
  refine q_aload_n dX1_init_0 rfl ?_
  refine q_obj dX1_init_1 wOX1 wOi wOc (by decide) (Nat.le_of_ble_eq_true rfl) ?_
  refine q_aload_n dX1_init_4 rfl ?_
  refine q_bipush (v := nI 8) dX1_init_5 rfl ?_
  refine c_newq (t := 3) dX1_init_7 rfl wKX1_9 wYX0 (nI_pos (by decide)) (nI_clamp (by decide)) (by decide) (by omega) (by omega) hok (fun h hok => ?_)
  refine c_put 1 (p := (1, B + 1)) kX1 (by decide) wQX1_11 (Or.inr ⟨rfl, rfl, rfl⟩) dX1_init_10 hok ((gs_ne (by omega)).trans hg) (by exact Nat.le_of_ble_eq_true rfl) (fun _ => ⟨rfl, rfl⟩) (by rfl) (fun h hok => ?_)
  refine q_aload_n dX1_init_13 rfl ?_
  refine q_bipush (v := nI 6) dX1_init_14 rfl ?_
  refine c_newq (t := 4) dX1_init_16 rfl wKX1_17 wYX2 (nI_pos (by decide)) (nI_clamp (by decide)) (by decide) (by omega) (by omega) hok (fun h hok => ?_)
  refine c_put 2 (p := (1, B + 2)) kX1 (by decide) wQX1_19 (Or.inr ⟨rfl, rfl, rfl⟩) dX1_init_19 hok ((gs_ne (by omega)).trans gs_at) (by exact Nat.le_of_ble_eq_true rfl) (fun _ => ⟨rfl, rfl⟩) (by rfl) (fun h hok => ?_)
  refine q_aload_n dX1_init_22 rfl ?_
  refine q_iload_n dX1_init_23 rfl ?_
  refine c_put 0 (p := (2, q_cd num)) kX1 (by decide) wQX1_23 (Or.inr ⟨rfl, rfl, rfl⟩) dX1_init_24 hok gs_at (by exact Nat.le_of_ble_eq_true rfl) ⟨rfl, rfl⟩ (by show _ = _; rw [nI_cd]) (fun h hok => ?_)
  refine q_iconst (v := nI 0) dX1_init_27 rfl ?_
  refine t_istore [.ref B, .int num, .int (nI 0)] (Or.inl ⟨2, rfl, rfl, dX1_init_28⟩) (by decide) rfl ?_
  refine q_less (by omega) (by omega) (hl1 8 0 _ (List.replicate 8 (0, 0)) h rfl hok (((((hn5.gs (by decide)).gs (by decide)).gs (by decide)).gs (by decide)).gs (by decide)) gs_at ?_ List.length_replicate (fun k hk => absurd hk (by omega)) ?_ ?_)
  · rw [gs_ne (by omega), gs_ne (by omega), gs_ne (by omega), gs_ne (by omega)]; exact gs_at
  · rw [gs_ne (by omega), gs_ne (by omega)]; exact gs_at
  · intro j hj
    rw [gs_ne (by omega), gs_ne (by omega), gs_ne (by omega), gs_ne (by omega), gs_ne (by omega)]

