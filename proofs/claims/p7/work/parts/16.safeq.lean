theorem law_cmp (L i : Nat) (hL : L ≤ 3073) (hi : i ≤ 4000) : nI L - nI 6 < nI i ↔ L < i + 6 := by
  have h1 : (nI L - nI 6).toInt = (L : Int) - 6 := by
    by_cases h6 : 6 ≤ L
    · rw [pk_sub h6, nI_toInt (by omega)]
      omega
    · rcases (show L = 0 ∨ L = 1 ∨ L = 2 ∨ L = 3 ∨ L = 4 ∨ L = 5 by omega) with rfl | rfl | rfl | rfl | rfl | rfl <;> decide
  rw [Int32.lt_iff_toInt_lt, h1, nI_toInt (by omega)]
  omega
theorem law_head (Sc : q_S) (hS : Sc.1 ≤ 3073) (g o ml : Nat) (hgo : g + 7 + 37 * ml ≤ o) (hm1 : 1 ≤ ml) (hm4 : ml ≤ 4) (n : Nat) (i kc ks : Nat) (h : q_H) (hi : i ≤ 4000) (hx : ¬ i + 6 ≤ Sc.1) : q_A Sc mL_law 33 [.float 1, .ref g, .ref o, .ref (o + 17), .int (nI i), .retAddr 0, .retAddr 0] [] h n kc ks (fun O _ _ => O = .inl (some (.int (nI 1)))) := by
  refine q_iload dL_law_33 rfl ?_
  refine q_aload_n_x dL_law_35 rfl ?_
  refine q_slen dL_law_36 ?_
  refine q_bipush (v := nI 6) dL_law_37 rfl ?_
  refine q_isub dL_law_39 ?_
  refine q_icmp_gt (tgt := 950) dL_law_40 (by decide) (fun c => ?_) (fun c => absurd ((law_cmp Sc.1 i hS hi).mpr (by omega)) c)
  refine q_iconst (v := nI 1) dL_law_950 rfl ?_
  exact q_iret dL_law_951 rfl (rfl) rfl
set_option maxRecDepth 20000 in
set_option maxHeartbeats 4000000 in
theorem law_loop (Sc : q_S) (hS : Sc.1 ≤ 3073) (g o ml : Nat) (hgo : g + 7 + 37 * ml ≤ o) (hm1 : 1 ≤ ml) (hm4 : ml ≤ 4) (n : Nat) : ∀ (d i : Nat) (Γ : Nat → q_K) (f e : Nat → Int32) (th s : Nat) (h : q_H), Inv Γ o g ml f e → Sc.1 ≤ i + 6 * d → i ≤ Sc.1 + 6 → s + 8000 * d ≤ 1600000000 → q_ok (mG Γ o ml th s) h → q_A Sc mL_law 33 [.float 1, .ref g, .ref o, .ref (o + 17), .int (nI i), .retAddr 0, .retAddr 0] [] h n (4 * d) (24 * d) (fun O _ _ => O = .inl (some (.int (nI 1)))) := by
  intro d
  induction d with
  | zero =>
    intro i Γ f e th s h hI hd hi2 hs hok
    exact law_head Sc hS g o ml hgo hm1 hm4 n i _ _ h (by omega) (by omega)
  | succ d ih =>
    intro i Γ f e th s h hI hd hi2 hs hok
    by_cases hc : i + 6 ≤ Sc.1
    · refine q_less (kc1 := 4 * d + 4) (ks1 := 24 * d + 24) (by omega) (by omega) ?_
      have hnext : ∀ (Γ' : Nat → q_K) (f' e' : Nat → Int32) (th' s' : Nat) (h : q_H), Inv Γ' o g ml f' e' → s' ≤ s + 8000 → q_ok (mG Γ' o ml th' s') h → q_A Sc mL_law 944 [.float 1, .ref g, .ref o, .ref (o + 17), .int (nI i), .retAddr 0, .retAddr 0] [] h n (4 * d) (24 * d) (fun O _ _ => O = .inl (some (.int (nI 1)))) := fun Γ' f' e' th' s' h hI' hs' hok => by
        refine t_iinc [.float 1, .ref g, .ref o, .ref (o + 17), .int (nI (i + 6)), .retAddr 0, .retAddr 0] dL_law_944 rfl (by show nI i + nI 6 = _; rw [nI_add]) (by decide) rfl ?_
        refine q_goto (tgt := 33) dL_law_947 (by decide) ?_
        exact ih (i + 6) Γ' f' e' th' s' h hI' (by omega) (by omega) (by omega) hok
      refine q_iload dL_law_33 rfl ?_
      refine q_aload_n_x dL_law_35 rfl ?_
      refine q_slen dL_law_36 ?_
      refine q_bipush (v := nI 6) dL_law_37 rfl ?_
      refine q_isub dL_law_39 ?_
      refine q_icmp_gt (tgt := 950) dL_law_40 (by decide) (fun c => absurd ((law_cmp Sc.1 i hS (by omega)).mp c) (by omega)) (fun c => ?_)
      refine q_aload_n_x dL_law_43 rfl ?_
      refine q_iload dL_law_44 rfl ?_
      refine q_sld dL_law_46 (vp_in_nI (by omega) (by omega)) ?_
      refine q_bipush (v := nI 15) dL_law_47 rfl ?_
      refine q_iand dL_law_49 ?_
      generalize Sc.2 (nI i).toNatClampNeg &&& nI 15 = z
      rcases q_sw z 0 16 (by decide) with ez | ⟨j, hj, ej⟩
      · refine q_tableOut (tgt := 944) dL_law_50 (by simpa using ez) (by decide) ?_
        exact q_less (by omega) (by omega) (hnext Γ f e th s h hI (by omega) hok)
      rcases (show j = 0 ∨ j = 1 ∨ j = 2 ∨ j = 3 ∨ j = 4 ∨ j = 5 ∨ j = 6 ∨ j = 7 ∨ j = 8 ∨ j = 9 ∨ j = 10 ∨ j = 11 ∨ j = 12 ∨ j = 13 ∨ j = 14 ∨ j = 15 by omega) with rfl | rfl | rfl | rfl | rfl | rfl | rfl | rfl | rfl | rfl | rfl | rfl | rfl | rfl | rfl | rfl
      · refine q_tableIn (off := 78) (tgt := 128) dL_law_50 (by rw [ej]; decide) (by rw [ej]; decide) (by rw [ej]; rfl) (by decide) ?_
        exact arm0 Sc hS g o ml hgo hm1 hm4 n Γ f e hI th s i (4 * d) (24 * d) (by omega) hc h hok _ hnext
      · refine q_tableIn (off := 142) (tgt := 192) dL_law_50 (by rw [ej]; decide) (by rw [ej]; decide) (by rw [ej]; rfl) (by decide) ?_
        exact arm1 Sc hS g o ml hgo hm1 hm4 n Γ f e hI th s i (4 * d) (24 * d) (by omega) hc h hok _ hnext
      · refine q_tableIn (off := 206) (tgt := 256) dL_law_50 (by rw [ej]; decide) (by rw [ej]; decide) (by rw [ej]; rfl) (by decide) ?_
        exact arm2 Sc hS g o ml hgo hm1 hm4 n Γ f e hI th s i (4 * d) (24 * d) (by omega) hc h hok _ hnext
      · refine q_tableIn (off := 298) (tgt := 348) dL_law_50 (by rw [ej]; decide) (by rw [ej]; decide) (by rw [ej]; rfl) (by decide) ?_
        exact arm3 Sc hS g o ml hgo hm1 hm4 n Γ f e hI th s i (4 * d) (24 * d) (by omega) hc h hok _ hnext
      · refine q_tableIn (off := 326) (tgt := 376) dL_law_50 (by rw [ej]; decide) (by rw [ej]; decide) (by rw [ej]; rfl) (by decide) ?_
        exact arm4 Sc hS g o ml hgo hm1 hm4 n Γ f e hI th s i (4 * d) (24 * d) (by omega) hc h hok _ hnext
      · refine q_tableIn (off := 418) (tgt := 468) dL_law_50 (by rw [ej]; decide) (by rw [ej]; decide) (by rw [ej]; rfl) (by decide) ?_
        exact arm5 Sc hS g o ml hgo hm1 hm4 n Γ f e hI th s i (4 * d) (24 * d) (by omega) hc h hok _ hnext
      · refine q_tableIn (off := 486) (tgt := 536) dL_law_50 (by rw [ej]; decide) (by rw [ej]; decide) (by rw [ej]; rfl) (by decide) ?_
        exact arm6 Sc hS g o ml hgo hm1 hm4 n Γ f e hI th s i (4 * d) (24 * d) (by omega) hc h hok _ hnext
      · refine q_tableIn (off := 538) (tgt := 588) dL_law_50 (by rw [ej]; decide) (by rw [ej]; decide) (by rw [ej]; rfl) (by decide) ?_
        exact arm7 Sc hS g o ml hgo hm1 hm4 n Γ f e hI th s i (4 * d) (24 * d) (by omega) hc h hok _ hnext
      · refine q_tableIn (off := 590) (tgt := 640) dL_law_50 (by rw [ej]; decide) (by rw [ej]; decide) (by rw [ej]; rfl) (by decide) ?_
        exact arm8 Sc hS g o ml hgo hm1 hm4 n Γ f e hI th s i (4 * d) (24 * d) (by omega) hc h hok _ hnext
      · refine q_tableIn (off := 630) (tgt := 680) dL_law_50 (by rw [ej]; decide) (by rw [ej]; decide) (by rw [ej]; rfl) (by decide) ?_
        exact arm9 Sc hS g o ml hgo hm1 hm4 n Γ f e hI th s i (4 * d) (24 * d) (by omega) hc h hok _ hnext
      · refine q_tableIn (off := 698) (tgt := 748) dL_law_50 (by rw [ej]; decide) (by rw [ej]; decide) (by rw [ej]; rfl) (by decide) ?_
        exact arm10 Sc hS g o ml hgo hm1 hm4 n Γ f e hI th s i (4 * d) (24 * d) (by omega) hc h hok _ hnext
      · refine q_tableIn (off := 750) (tgt := 800) dL_law_50 (by rw [ej]; decide) (by rw [ej]; decide) (by rw [ej]; rfl) (by decide) ?_
        exact arm11 Sc hS g o ml hgo hm1 hm4 n Γ f e hI th s i (4 * d) (24 * d) (by omega) hc h hok _ hnext
      · refine q_tableIn (off := 790) (tgt := 840) dL_law_50 (by rw [ej]; decide) (by rw [ej]; decide) (by rw [ej]; rfl) (by decide) ?_
        exact arm12 Sc hS g o ml hgo hm1 hm4 n Γ f e hI th s i (4 * d) (24 * d) (by omega) hc h hok _ hnext
      · refine q_tableIn (off := 803) (tgt := 853) dL_law_50 (by rw [ej]; decide) (by rw [ej]; decide) (by rw [ej]; rfl) (by decide) ?_
        exact arm13 Sc hS g o ml hgo hm1 hm4 n Γ f e hI th s i (4 * d) (24 * d) (by omega) hc h hok _ hnext
      · refine q_tableIn (off := 843) (tgt := 893) dL_law_50 (by rw [ej]; decide) (by rw [ej]; decide) (by rw [ej]; rfl) (by decide) ?_
        exact arm14 Sc hS g o ml hgo hm1 hm4 n Γ f e hI th s i (4 * d) (24 * d) (by omega) hc h hok _ hnext
      · refine q_tableIn (off := 883) (tgt := 933) dL_law_50 (by rw [ej]; decide) (by rw [ej]; decide) (by rw [ej]; rfl) (by decide) ?_
        exact arm15 Sc hS g o ml hgo hm1 hm4 n Γ f e hI th s i (4 * d) (24 * d) (by omega) hc h hok _ hnext
    · exact law_head Sc hS g o ml hgo hm1 hm4 n i _ _ h (by omega) hc
set_option maxRecDepth 20000 in
set_option maxHeartbeats 8000000 in
theorem law_all (Sc : q_S) (hS : Sc.1 ≤ 3073) (h : q_H) : q_A Sc mL_law 0 [.float 1, .retAddr 0, .retAddr 0, .retAddr 0, .retAddr 0, .retAddr 0, .retAddr 0] [] h 0 3000 20000 (fun O _ _ => O = .inl (some (.int (nI 1)))) := by
  have hok : q_ok (fun _ => ((0, 0, []) : q_K)) h := fun _ => trivial
  refine c_new (fs := [.null, .null]) [(3, 0), (3, 0)] kX4 wKL_8 wZX4 wNX4 dL_law_0 (fun j hj => by rcases (show j = 0 ∨ j = 1 by omega) with rfl | rfl <;> rfl) (fun _ => ⟨_, _, rfl, rfl, ⟨_, _, rfl, rfl, rfl⟩⟩) (⟨_, _, rfl, rfl, ⟨_, _, rfl, rfl, rfl⟩⟩) (by omega) (by omega) hok (fun h hok => ?_)
  refine q_dup dL_law_3 rfl ?_
  refine q_aload_n_x dL_law_4 rfl ?_
  refine q_iconst (v := nI 0) dL_law_5 rfl ?_
  refine t_callS (M' := mL_cell) [.float 1, .int (nI 0)] [.ref 0, .ref 0] dL_law_6 wPL_63 wTL_cell wNL iL_cell oL_cell rfl hok (eL_cell Sc hS _ _) (by omega) (by omega) (Nat.le_of_ble_eq_true rfl) (Nat.le_of_ble_eq_true rfl) (Nat.le_of_ble_eq_true rfl) rfl (fun v h qv hok => ?_) (fun x h qx hok => absurd qx (by intro q; cases q))
  obtain rfl := Sum.inl.inj qv
  refine c_callI (M' := mX4_init) [.int (q_c0 Sc)] [.ref 0] dL_law_9 wPL_69 wIX4_init wCX4_init rfl rfl rfl oX4_init rfl (nX4_init Sc _ 0 gs_at (q_c0 Sc) h hok) (by omega) (by omega) (Nat.le_of_ble_eq_true rfl) (Nat.le_of_ble_eq_true rfl) (Nat.le_of_ble_eq_true rfl) rfl (fun O h' n' q => q.1) (fun h o q => ?_)
  obtain ⟨-, ml, Γ1, hm1, hm4, hmc, en, hok, -, hcl⟩ := q
  refine q_astore_n dL_law_12 (by decide) ?_
  refine c_new (fs := [.int 0, .int 0, .null, .null, .null, .null, .null, .null, .null, .null, .null, .null, .null, .null, .int 0, .int 0, .null, .null, .null, .null]) [(2, 0), (2, 0), (3, 0), (3, 0), (3, 0), (3, 0), (3, 0), (3, 0), (3, 0), (3, 0), (3, 0), (3, 0), (3, 0), (3, 0), (0, 0), (2, 0), (3, 0), (3, 0), (3, 0), (3, 0)] kX5 wKL_72 wZX5 wNX5 dL_law_13 (fun j hj => by rcases (show j = 0 ∨ j = 1 ∨ j = 2 ∨ j = 3 ∨ j = 4 ∨ j = 5 ∨ j = 6 ∨ j = 7 ∨ j = 8 ∨ j = 9 ∨ j = 10 ∨ j = 11 ∨ j = 12 ∨ j = 13 ∨ j = 14 ∨ j = 15 ∨ j = 16 ∨ j = 17 ∨ j = 18 ∨ j = 19 by omega) with rfl | rfl | rfl | rfl | rfl | rfl | rfl | rfl | rfl | rfl | rfl | rfl | rfl | rfl | rfl | rfl | rfl | rfl | rfl | rfl <;> rfl) (fun _ => ⟨_, _, rfl, rfl, ⟨_, _, rfl, rfl, ⟨_, _, rfl, rfl, ⟨_, _, rfl, rfl, ⟨_, _, rfl, rfl, ⟨_, _, rfl, rfl, ⟨_, _, rfl, rfl, ⟨_, _, rfl, rfl, ⟨_, _, rfl, rfl, ⟨_, _, rfl, rfl, ⟨_, _, rfl, rfl, ⟨_, _, rfl, rfl, ⟨_, _, rfl, rfl, ⟨_, _, rfl, rfl, ⟨_, _, rfl, rfl, ⟨_, _, rfl, rfl, ⟨_, _, rfl, rfl, ⟨_, _, rfl, rfl, ⟨_, _, rfl, rfl, ⟨_, _, rfl, rfl, rfl⟩⟩⟩⟩⟩⟩⟩⟩⟩⟩⟩⟩⟩⟩⟩⟩⟩⟩⟩⟩) (⟨_, _, rfl, rfl, ⟨_, _, rfl, rfl, ⟨_, _, rfl, rfl, ⟨_, _, rfl, rfl, ⟨_, _, rfl, rfl, ⟨_, _, rfl, rfl, ⟨_, _, rfl, rfl, ⟨_, _, rfl, rfl, ⟨_, _, rfl, rfl, ⟨_, _, rfl, rfl, ⟨_, _, rfl, rfl, ⟨_, _, rfl, rfl, ⟨_, _, rfl, rfl, ⟨_, _, rfl, rfl, ⟨_, _, rfl, ⟨_, rfl⟩, ⟨_, _, rfl, rfl, ⟨_, _, rfl, rfl, ⟨_, _, rfl, rfl, ⟨_, _, rfl, rfl, ⟨_, _, rfl, rfl, rfl⟩⟩⟩⟩⟩⟩⟩⟩⟩⟩⟩⟩⟩⟩⟩⟩⟩⟩⟩⟩) (by omega) (by omega) hok (fun h hok => ?_)
  refine q_dup dL_law_16 rfl ?_
  refine q_aload_n_x dL_law_17 rfl ?_
  refine q_iconst (v := nI 0) dL_law_18 rfl ?_
  refine t_callS (M' := mL_cell) [.float 1, .int (nI 0)] [.ref o, .ref o] dL_law_19 wPL_63 wTL_cell wNL iL_cell oL_cell rfl hok (eL_cell Sc hS _ _) (by omega) (by omega) (Nat.le_of_ble_eq_true rfl) (Nat.le_of_ble_eq_true rfl) (Nat.le_of_ble_eq_true rfl) rfl (fun v h qv hok => ?_) (fun x h qx hok => absurd qx (by intro q; cases q))
  obtain rfl := Sum.inl.inj qv
  refine c_callI (M' := mX5_init) [.int (q_c0 Sc)] [.ref o] dL_law_22 wPL_74 wIX5_init wCX5_init rfl rfl rfl oX5_init rfl (nX5_init Sc _ o gs_at (q_c0 Sc) h hok) (by omega) (by omega) (Nat.le_of_ble_eq_true rfl) (Nat.le_of_ble_eq_true rfl) (Nat.le_of_ble_eq_true rfl) rfl (fun O h' n' q => q.1) (fun h n' q => ?_)
  obtain ⟨-, ml2, Γ2, -, hm42, hmc2, en2, hok, hB, hE, hlow⟩ := q
  have hmm : ml2 = ml := by
    have h1 := congrArg Int32.toInt (hmc2.trans hmc.symm)
    rw [nI_toInt (by omega), nI_toInt (by omega)] at h1
    omega
  subst hmm
  subst en2
  refine q_astore_n dL_law_25 (by decide) ?_
  refine q_iconst (v := nI 1) dL_law_26 rfl ?_
  refine c_newl dL_law_27 rfl wAlong (nI_pos (by decide)) (nI_clamp (by decide)) (by decide) (by omega) (by omega) hok (fun h hok => ?_)
  have hok := mG_gs (by omega) hok
  refine q_astore_n dL_law_29 (by decide) ?_
  refine q_iconst (v := nI 1) dL_law_30 rfl ?_
  refine t_istore [.float 1, .ref 0, .ref o, .ref (o + 17), .int (nI 1), .retAddr 0, .retAddr 0] (Or.inr ⟨rfl, dL_law_31⟩) (by decide) rfl ?_
  refine q_less (kc1 := 4 * 513) (ks1 := 24 * 513) (by omega) (by omega) (law_loop Sc hS 0 o ml2 (by omega) hm1 hm4 _ 513 1 (gset Γ2 (o + 17) (5, 1, [])) z0 z0 0 0 h ⟨fun Γ'' hag => hcl Γ'' (fun j h0 h1 => ?_), mB_gs (Or.inr (Or.inr (by omega))) hB, ⟨(gs_ne (by omega)).trans hE.1, (gs_ne (by omega)).trans hE.2⟩, gs_at⟩ (by omega) (by omega) (by omega) hok)
  rw [hag j (by omega), gs_ne (by omega), hlow j (by omega), gs_ne (by omega)]

