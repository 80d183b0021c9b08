def q_c0 (Sc : q_S) : Int32 := if 0 < Sc.1 then Sc.2 0 else nI 0
theorem eL_cell (Sc : q_S) (hS : Sc.1 ≤ 3073) (Γ : Nat → q_K) (n : Nat) : q_safe Sc Γ mL_cell [.float 1, .int (nI 0)] n 0 0 (fun O => O = .inl (some (.int (q_c0 Sc)))) := by
  intro h hok
  show q_A Sc mL_cell 0 [.float 1, .int (nI 0)] [] h n 0 0 (fun O h' n' => O = .inl (some (.int (q_c0 Sc))) ∧ q_ok Γ h' ∧ n' = n)
  refine q_iload_n dL_cell_0 rfl ?_
  refine q_aload_n_x dL_cell_1 rfl ?_
  refine q_slen dL_cell_2 ?_
  refine t_icmp_ge_n (tgt := 12) (by omega) (by omega) dL_cell_3 (by decide) (fun c => ?_) (fun c => ?_)
  · refine q_iconst (v := nI 0) dL_cell_12 rfl ?_
    exact q_iret dL_cell_13 rfl (rfl) ⟨by unfold q_c0; rw [if_neg (by omega)], hok, rfl⟩
  · refine q_aload_n_x dL_cell_6 rfl ?_
    refine q_iload_n dL_cell_7 rfl ?_
    refine q_sld dL_cell_8 (vp_in_nI c (by omega)) ?_
    refine q_goto (tgt := 13) dL_cell_9 (by decide) ?_
    exact q_iret dL_cell_13 rfl (rfl) ⟨by unfold q_c0; rw [if_pos c, nI_clamp (by decide)], hok, rfl⟩
theorem c_newl7 {Sc : q_S} {M : q_M} {pc : Nat} {L st : List Value} {h : q_H} {n kc ks : Nat} {Q : q_O → q_H → Nat → Prop} {G : Nat → q_K} {atype : ArrayType} (hd : decode (q_cc M) pc = .ok (.newarray atype, 2)) (hty : newarray.typeOf atype = .long) (hw : q_in (Cond.arrayClass .long)) (hk1 : 1 ≤ kc) (hk2 : 1 ≤ ks) (hok : q_ok G h)
    (kk : ∀ h', q_ok (gset G n (7, 0, [])) h' → q_A Sc M (pc + 2) L (.ref n :: st) h' (n + 1) (kc - 1) (ks - 1) Q) : q_A Sc M pc L (.int (nI 1) :: st) h n kc ks Q :=
  q_newl (t := 5) hd hty rfl hw (nI_pos (by decide)) (nI_clamp (by decide)) (by decide) hk1 hk2 (kk _ (gs_ok hok rfl))
theorem law_cmp (L i : Nat) (hL : L ≤ 3073) (hi : i ≤ 4000) : nI L - nI 6 < nI i ↔ L < i + 6 := by
  have h1 : (nI L - nI 6).toInt = (L : Int) - 6 := by
    by_cases h6 : 6 ≤ L
    · rw [pk_sub h6, nI_toInt (by omega)]
      omega
    · rcases (show L = 0 ∨ L = 1 ∨ L = 2 ∨ L = 3 ∨ L = 4 ∨ L = 5 by omega) with rfl | rfl | rfl | rfl | rfl | rfl <;> decide
  rw [Int32.lt_iff_toInt_lt, h1, nI_toInt (by omega)]
  omega
theorem law_head (Sc : q_S) (hS : Sc.1 ≤ 3073) (Γ : Nat → q_K) (n X o many : Nat) (HG : sGF Γ X many) (HM : sM Γ o many) (hw : Γ (o + 17) = (5, 1, [])) (hm1 : 1 ≤ many) (hm4 : many ≤ 4) (hXo : X + 7 + 37 * many = o) (i kc ks : Nat) (h : q_H) (hi : i ≤ 4000) (hx : ¬ i + 6 ≤ Sc.1) : q_A Sc mL_law 33 [.float 1, .ref X, .ref o, .ref (o + 17), .int (nI i), .retAddr 0, .retAddr 0] [] h n kc ks (fun O _ _ => O = .inl (some (.int (nI 1)))) := by
  refine q_iload dL_law_33 rfl ?_
  refine q_aload_n_x dL_law_35 rfl ?_
  refine q_slen dL_law_36 ?_
  refine q_bipush (v := nI 6) dL_law_37 rfl ?_
  refine q_isub dL_law_39 ?_
  refine q_icmp_gt (tgt := 950) dL_law_40 (by decide) (fun c => ?_) (fun c => absurd ((law_cmp Sc.1 i hS hi).mpr (by omega)) c)
  refine q_iconst (v := nI 1) dL_law_950 rfl ?_
  exact q_iret dL_law_951 rfl (rfl) rfl
set_option maxRecDepth 20000 in
set_option maxHeartbeats 4000000 in
theorem law_loop (Sc : q_S) (hS : Sc.1 ≤ 3073) (Γ : Nat → q_K) (n X o many : Nat) (HG : sGF Γ X many) (HM : sM Γ o many) (hw : Γ (o + 17) = (5, 1, [])) (hm1 : 1 ≤ many) (hm4 : many ≤ 4) (hXo : X + 7 + 37 * many = o) : ∀ (d i : Nat) (V : q_V) (b : Nat) (h : q_H), Rel V V X many o → SB V o b → Sc.1 ≤ i + 6 * d → i ≤ Sc.1 + 6 → b + 8004 * d ≤ 2000000000 → q_ok (gX Γ V) h → q_A Sc mL_law 33 [.float 1, .ref X, .ref o, .ref (o + 17), .int (nI i), .retAddr 0, .retAddr 0] [] h n (4 * d) (24 * d) (fun O _ _ => O = .inl (some (.int (nI 1)))) := by
  intro d
  induction d with
  | zero =>
    intro i V b h hR hSB hd hi2 hb hok
    exact law_head Sc hS Γ n X o many HG HM hw hm1 hm4 hXo i _ _ h (by omega) (by omega)
  | succ d ih =>
    intro i V b h hR hSB hd hi2 hb hok
    by_cases hc : i + 6 ≤ Sc.1
    · refine q_less (kc1 := 4 * d + 4) (ks1 := 24 * d + 24) (by omega) (by omega) ?_
      have hnext : ∀ (V' : q_V) (h : q_H), Rel V' V' X many o → SB V' o (b + 8004) → q_ok (gX Γ V') h → q_A Sc mL_law 944 [.float 1, .ref X, .ref o, .ref (o + 17), .int (nI i), .retAddr 0, .retAddr 0] [] h n (4 * d) (24 * d) (fun O _ _ => O = .inl (some (.int (nI 1)))) := fun V' h hR' hS' hok => by
        refine t_iinc [.float 1, .ref X, .ref o, .ref (o + 17), .int (nI (i + 6)), .retAddr 0, .retAddr 0] dL_law_944 rfl (by show nI i + nI 6 = _; rw [nI_add]) (by decide) rfl ?_
        refine q_goto (tgt := 33) dL_law_947 (by decide) ?_
        exact ih (i + 6) V' (b + 8004) h hR' hS' (by omega) (by omega) (by omega) hok
      refine q_iload dL_law_33 rfl ?_
      refine q_aload_n_x dL_law_35 rfl ?_
      refine q_slen dL_law_36 ?_
      refine q_bipush (v := nI 6) dL_law_37 rfl ?_
      refine q_isub dL_law_39 ?_
      refine q_icmp_gt (tgt := 950) dL_law_40 (by decide) (fun c => absurd ((law_cmp Sc.1 i hS (by omega)).mp c) (by omega)) (fun c => ?_)
      refine q_aload_n_x dL_law_43 rfl ?_
      refine q_iload dL_law_44 rfl ?_
      refine q_sld dL_law_46 (vp_in_nI (by omega) (by omega)) ?_
      refine q_bipush (v := nI 15) dL_law_47 rfl ?_
      refine q_iand dL_law_49 ?_
      generalize Sc.2 (nI i).toNatClampNeg &&& nI 15 = z
      rcases q_sw z 0 16 (by decide) with ez | ⟨j, hj, ej⟩
      · refine q_tableOut (tgt := 944) dL_law_50 (by simpa using ez) (by decide) ?_
        exact q_less (by omega) (by omega) (hnext V h hR (hSB.mo (by omega)) hok)
      rcases (show j = 0 ∨ j = 1 ∨ j = 2 ∨ j = 3 ∨ j = 4 ∨ j = 5 ∨ j = 6 ∨ j = 7 ∨ j = 8 ∨ j = 9 ∨ j = 10 ∨ j = 11 ∨ j = 12 ∨ j = 13 ∨ j = 14 ∨ j = 15 by omega) with rfl | rfl | rfl | rfl | rfl | rfl | rfl | rfl | rfl | rfl | rfl | rfl | rfl | rfl | rfl | rfl
      · refine q_tableIn (off := 78) (tgt := 128) dL_law_50 (by rw [ej]; decide) (by rw [ej]; decide) (by rw [ej]; rfl) (by decide) ?_
        exact arm0 Sc hS Γ n X o many HG HM hw hm1 hm4 hXo V b i (4 * d) (24 * d) (by omega) hc hR hSB h hok _ hnext
      · refine q_tableIn (off := 142) (tgt := 192) dL_law_50 (by rw [ej]; decide) (by rw [ej]; decide) (by rw [ej]; rfl) (by decide) ?_
        exact arm1 Sc hS Γ n X o many HG HM hw hm1 hm4 hXo V b i (4 * d) (24 * d) (by omega) hc hR hSB h hok _ hnext
      · refine q_tableIn (off := 206) (tgt := 256) dL_law_50 (by rw [ej]; decide) (by rw [ej]; decide) (by rw [ej]; rfl) (by decide) ?_
        exact arm2 Sc hS Γ n X o many HG HM hw hm1 hm4 hXo V b i (4 * d) (24 * d) (by omega) hc hR hSB h hok _ hnext
      · refine q_tableIn (off := 298) (tgt := 348) dL_law_50 (by rw [ej]; decide) (by rw [ej]; decide) (by rw [ej]; rfl) (by decide) ?_
        exact arm3 Sc hS Γ n X o many HG HM hw hm1 hm4 hXo V b i (4 * d) (24 * d) (by omega) hc hR hSB h hok _ hnext
      · refine q_tableIn (off := 326) (tgt := 376) dL_law_50 (by rw [ej]; decide) (by rw [ej]; decide) (by rw [ej]; rfl) (by decide) ?_
        exact arm4 Sc hS Γ n X o many HG HM hw hm1 hm4 hXo V b i (4 * d) (24 * d) (by omega) hc hR hSB h hok _ hnext
      · refine q_tableIn (off := 418) (tgt := 468) dL_law_50 (by rw [ej]; decide) (by rw [ej]; decide) (by rw [ej]; rfl) (by decide) ?_
        exact arm5 Sc hS Γ n X o many HG HM hw hm1 hm4 hXo V b i (4 * d) (24 * d) (by omega) hc hR hSB h hok _ hnext
      · refine q_tableIn (off := 458) (tgt := 508) dL_law_50 (by rw [ej]; decide) (by rw [ej]; decide) (by rw [ej]; rfl) (by decide) ?_
        exact arm6 Sc hS Γ n X o many HG HM hw hm1 hm4 hXo V b i (4 * d) (24 * d) (by omega) hc hR hSB h hok _ hnext
      · refine q_tableIn (off := 510) (tgt := 560) dL_law_50 (by rw [ej]; decide) (by rw [ej]; decide) (by rw [ej]; rfl) (by decide) ?_
        exact arm7 Sc hS Γ n X o many HG HM hw hm1 hm4 hXo V b i (4 * d) (24 * d) (by omega) hc hR hSB h hok _ hnext
      · refine q_tableIn (off := 562) (tgt := 612) dL_law_50 (by rw [ej]; decide) (by rw [ej]; decide) (by rw [ej]; rfl) (by decide) ?_
        exact arm8 Sc hS Γ n X o many HG HM hw hm1 hm4 hXo V b i (4 * d) (24 * d) (by omega) hc hR hSB h hok _ hnext
      · refine q_tableIn (off := 602) (tgt := 652) dL_law_50 (by rw [ej]; decide) (by rw [ej]; decide) (by rw [ej]; rfl) (by decide) ?_
        exact arm9 Sc hS Γ n X o many HG HM hw hm1 hm4 hXo V b i (4 * d) (24 * d) (by omega) hc hR hSB h hok _ hnext
      · refine q_tableIn (off := 670) (tgt := 720) dL_law_50 (by rw [ej]; decide) (by rw [ej]; decide) (by rw [ej]; rfl) (by decide) ?_
        exact arm10 Sc hS Γ n X o many HG HM hw hm1 hm4 hXo V b i (4 * d) (24 * d) (by omega) hc hR hSB h hok _ hnext
      · refine q_tableIn (off := 722) (tgt := 772) dL_law_50 (by rw [ej]; decide) (by rw [ej]; decide) (by rw [ej]; rfl) (by decide) ?_
        exact arm11 Sc hS Γ n X o many HG HM hw hm1 hm4 hXo V b i (4 * d) (24 * d) (by omega) hc hR hSB h hok _ hnext
      · refine q_tableIn (off := 762) (tgt := 812) dL_law_50 (by rw [ej]; decide) (by rw [ej]; decide) (by rw [ej]; rfl) (by decide) ?_
        exact arm12 Sc hS Γ n X o many HG HM hw hm1 hm4 hXo V b i (4 * d) (24 * d) (by omega) hc hR hSB h hok _ hnext
      · refine q_tableIn (off := 775) (tgt := 825) dL_law_50 (by rw [ej]; decide) (by rw [ej]; decide) (by rw [ej]; rfl) (by decide) ?_
        exact arm13 Sc hS Γ n X o many HG HM hw hm1 hm4 hXo V b i (4 * d) (24 * d) (by omega) hc hR hSB h hok _ hnext
      · refine q_tableIn (off := 815) (tgt := 865) dL_law_50 (by rw [ej]; decide) (by rw [ej]; decide) (by rw [ej]; rfl) (by decide) ?_
        exact arm14 Sc hS Γ n X o many HG HM hw hm1 hm4 hXo V b i (4 * d) (24 * d) (by omega) hc hR hSB h hok _ hnext
      · refine q_tableIn (off := 883) (tgt := 933) dL_law_50 (by rw [ej]; decide) (by rw [ej]; decide) (by rw [ej]; rfl) (by decide) ?_
        exact arm15 Sc hS Γ n X o many HG HM hw hm1 hm4 hXo V b i (4 * d) (24 * d) (by omega) hc hR hSB h hok _ hnext
    · exact law_head Sc hS Γ n X o many HG HM hw hm1 hm4 hXo i _ _ h (by omega) hc
set_option maxRecDepth 20000 in
set_option maxHeartbeats 8000000 in
theorem law_all (Sc : q_S) (hS : Sc.1 ≤ 3073) (h : q_H) : q_A Sc mL_law 0 [.float 1, .retAddr 0, .retAddr 0, .retAddr 0, .retAddr 0, .retAddr 0, .retAddr 0] [] h 0 3000 20000 (fun O _ _ => O = .inl (some (.int (nI 1)))) := by
  have hok : q_ok (fun _ => ((0, 0, []) : q_K)) h := fun _ => trivial
  have n0 : n5 (fun _ => ((0, 0, []) : q_K)) := fun _ => (show (0 : Nat) ≠ 5 by decide)
  refine c_new (fs := [.null, .null]) [(3, 0), (3, 0)] kX4 wKL_8 wZX4 wNX4 dL_law_0 (fun j hj => by rcases (show j = 0 ∨ j = 1 by omega) with rfl | rfl <;> rfl) (fun _ => ⟨_, _, rfl, rfl, ⟨_, _, rfl, rfl, rfl⟩⟩) (⟨_, _, rfl, rfl, ⟨_, _, rfl, rfl, rfl⟩⟩) (by omega) (by omega) hok (fun h hok => ?_)
  refine q_dup dL_law_3 rfl ?_
  refine q_aload_n_x dL_law_4 rfl ?_
  refine q_iconst (v := nI 0) dL_law_5 rfl ?_
  refine t_callS (M' := mL_cell) [.float 1, .int (nI 0)] [.ref 0, .ref 0] dL_law_6 wPL_63 wTL_cell wNL iL_cell oL_cell rfl hok (eL_cell Sc hS _ _) (by omega) (by omega) (Nat.le_of_ble_eq_true rfl) (Nat.le_of_ble_eq_true rfl) (Nat.le_of_ble_eq_true rfl) rfl (fun v h qv hok => ?_) (fun x h qx hok => absurd qx (by intro q; cases q))
  obtain rfl := Sum.inl.inj qv
  refine c_callI (M' := mX4_init) [.int (q_c0 Sc)] [.ref 0] dL_law_9 wPL_69 wIX4_init wCX4_init rfl rfl rfl oX4_init rfl (nX4_init Sc _ 0 gs_at (n0.gs (by decide)) (q_c0 Sc) h hok) (by omega) (by omega) (Nat.le_of_ble_eq_true rfl) (Nat.le_of_ble_eq_true rfl) (Nat.le_of_ble_eq_true rfl) rfl (fun O h' n' q => q.1) (fun h o q => ?_)
  obtain ⟨-, many, Γ1, V1, hm1, hm4, hmc, en, hok, n1, HG1, hcl, hv4, hv5⟩ := q
  refine q_astore_n dL_law_12 (by decide) ?_
  refine c_new (fs := [.int 0, .int 0, .null, .null, .null, .null, .null, .null, .null, .null, .null, .null, .null, .null, .int 0, .int 0, .null, .null, .null, .null]) [(0, 0), (2, 0), (3, 0), (3, 0), (3, 0), (3, 0), (3, 0), (3, 0), (3, 0), (3, 0), (3, 0), (3, 0), (3, 0), (3, 0), (0, 0), (0, 0), (3, 0), (3, 0), (3, 0), (3, 0)] kX5 wKL_72 wZX5 wNX5 dL_law_13 (fun j hj => by rcases (show j = 0 ∨ j = 1 ∨ j = 2 ∨ j = 3 ∨ j = 4 ∨ j = 5 ∨ j = 6 ∨ j = 7 ∨ j = 8 ∨ j = 9 ∨ j = 10 ∨ j = 11 ∨ j = 12 ∨ j = 13 ∨ j = 14 ∨ j = 15 ∨ j = 16 ∨ j = 17 ∨ j = 18 ∨ j = 19 by omega) with rfl | rfl | rfl | rfl | rfl | rfl | rfl | rfl | rfl | rfl | rfl | rfl | rfl | rfl | rfl | rfl | rfl | rfl | rfl | rfl <;> rfl) (fun _ => ⟨_, _, rfl, rfl, ⟨_, _, rfl, rfl, ⟨_, _, rfl, rfl, ⟨_, _, rfl, rfl, ⟨_, _, rfl, rfl, ⟨_, _, rfl, rfl, ⟨_, _, rfl, rfl, ⟨_, _, rfl, rfl, ⟨_, _, rfl, rfl, ⟨_, _, rfl, rfl, ⟨_, _, rfl, rfl, ⟨_, _, rfl, rfl, ⟨_, _, rfl, rfl, ⟨_, _, rfl, rfl, ⟨_, _, rfl, rfl, ⟨_, _, rfl, rfl, ⟨_, _, rfl, rfl, ⟨_, _, rfl, rfl, ⟨_, _, rfl, rfl, ⟨_, _, rfl, rfl, rfl⟩⟩⟩⟩⟩⟩⟩⟩⟩⟩⟩⟩⟩⟩⟩⟩⟩⟩⟩⟩) (⟨_, _, rfl, ⟨_, rfl⟩, ⟨_, _, rfl, rfl, ⟨_, _, rfl, rfl, ⟨_, _, rfl, rfl, ⟨_, _, rfl, rfl, ⟨_, _, rfl, rfl, ⟨_, _, rfl, rfl, ⟨_, _, rfl, rfl, ⟨_, _, rfl, rfl, ⟨_, _, rfl, rfl, ⟨_, _, rfl, rfl, ⟨_, _, rfl, rfl, ⟨_, _, rfl, rfl, ⟨_, _, rfl, rfl, ⟨_, _, rfl, ⟨_, rfl⟩, ⟨_, _, rfl, ⟨_, rfl⟩, ⟨_, _, rfl, rfl, ⟨_, _, rfl, rfl, ⟨_, _, rfl, rfl, ⟨_, _, rfl, rfl, rfl⟩⟩⟩⟩⟩⟩⟩⟩⟩⟩⟩⟩⟩⟩⟩⟩⟩⟩⟩⟩) (by omega) (by omega) hok (fun h hok => ?_)
  refine q_dup dL_law_16 rfl ?_
  refine q_aload_n_x dL_law_17 rfl ?_
  refine q_iconst (v := nI 0) dL_law_18 rfl ?_
  refine t_callS (M' := mL_cell) [.float 1, .int (nI 0)] [.ref o, .ref o] dL_law_19 wPL_63 wTL_cell wNL iL_cell oL_cell rfl hok (eL_cell Sc hS _ _) (by omega) (by omega) (Nat.le_of_ble_eq_true rfl) (Nat.le_of_ble_eq_true rfl) (Nat.le_of_ble_eq_true rfl) rfl (fun v h qv hok => ?_) (fun x h qx hok => absurd qx (by intro q; cases q))
  obtain rfl := Sum.inl.inj qv
  refine c_callI (M' := mX5_init) [.int (q_c0 Sc)] [.ref o] dL_law_22 wPL_74 wIX5_init wCX5_init rfl rfl rfl oX5_init rfl (nX5_init Sc _ o gs_at ((n5.gX n1).gs (by decide)) (q_c0 Sc) h hok) (by omega) (by omega) (Nat.le_of_ble_eq_true rfl) (Nat.le_of_ble_eq_true rfl) (Nat.le_of_ble_eq_true rfl) rfl (fun O h' n' q => q.1) (fun h n' q => ?_)
  obtain ⟨-, ml2, Γ2, V2, -, hm42, hmc2, en2, hok, n2, HM2, hCM, hlow⟩ := q
  have hmm : ml2 = many := by
    have h1 := congrArg Int32.toInt (hmc2.trans hmc.symm)
    rw [nI_toInt (by omega), nI_toInt (by omega)] at h1
    omega
  subst hmm
  subst en2
  have hok := mrg (Γ1 := Γ1) (V1 := V1) (lim := o) hok (fun j hj => (hlow j hj).trans (gs_ne (by omega)))
  have lo : ∀ j, j < o → (fun j => if j < o then Γ1 j else Γ2 j) j = Γ1 j := fun j hj => if_pos hj
  have hi : ∀ j, o ≤ j → (fun j => if j < o then Γ1 j else Γ2 j) j = Γ2 j := fun j hj => if_neg (by omega)
  have lov : ∀ j, j < o → (fun j => if j < o then V1 j else V2 j) j = V1 j := fun j hj => if_pos hj
  have hiv : ∀ j, o ≤ j → (fun j => if j < o then V1 j else V2 j) j = V2 j := fun j hj => if_neg (by omega)
  generalize (fun j => if j < o then Γ1 j else Γ2 j) = Γ3 at hok lo hi
  generalize (fun j => if j < o then V1 j else V2 j) = V3 at hok lov hiv
  refine q_astore_n dL_law_25 (by decide) ?_
  refine q_iconst (v := nI 1) dL_law_26 rfl ?_
  refine c_newl7 dL_law_27 rfl wAlong (by omega) (by omega) hok (fun h hok => ?_)
  have eG : gset (gX Γ3 V3) (o + 17) (7, 0, []) = gX (gset Γ3 (o + 17) (5, 1, [])) (vset V3 (o + 17) 0 (nI 0)) := by
    funext j
    show _ = gxc (gset Γ3 (o + 17) (5, 1, []) j) (vset V3 (o + 17) 0 (nI 0) j)
    by_cases hj : j = o + 17
    · subst hj
      rw [gs_at, gs_at]
      show _ = (7, q_cd (vset V3 (o + 17) 0 (nI 0) (o + 17) 0), [])
      rw [vs_at]
      rfl
    · rw [gs_ne hj, gs_ne hj, vs_nr hj]
      rfl
  rw [eG] at hok
  have HG : sGF (gset Γ3 (o + 17) (5, 1, [])) 0 ml2 := by
    obtain ⟨g1, g2, g3, g4, g5, g6, g7, g8⟩ := HG1
    have ag : ∀ j, j < o → gset Γ3 (o + 17) (5, 1, []) j = Γ1 j := fun j hj => (gs_ne (by omega)).trans (lo j hj)
    exact ⟨(ag _ (by omega)).trans g1, (ag _ (by omega)).trans g2, fun l hl => (g3 l hl).cg (fun j h1 h2 => ag j (by omega)), (ag _ (by omega)).trans g4, (ag _ (by omega)).trans g5, (ag _ (by omega)).trans g6, (ag _ (by omega)).trans g7, (ag _ (by omega)).trans g8⟩
  have HM : sM (gset Γ3 (o + 17) (5, 1, [])) o ml2 := by
    have ag : ∀ j, o ≤ j → j < o + 17 → gset Γ3 (o + 17) (5, 1, []) j = Γ2 j := fun j hj h2 => (gs_ne (by omega)).trans (hi j hj)
    obtain ⟨r0, r1, r2, r3, r4, r5, r6, r7, r8, r9, r10, r11, r12, r13, r14, r15, r16⟩ := HM2
    exact ⟨(ag _ (by omega) (by omega)).trans r0, (ag _ (by omega) (by omega)).trans r1, (ag _ (by omega) (by omega)).trans r2, (ag _ (by omega) (by omega)).trans r3, (ag _ (by omega) (by omega)).trans r4, (ag _ (by omega) (by omega)).trans r5, (ag _ (by omega) (by omega)).trans r6, (ag _ (by omega) (by omega)).trans r7, (ag _ (by omega) (by omega)).trans r8, (ag _ (by omega) (by omega)).trans r9, (ag _ (by omega) (by omega)).trans r10, (ag _ (by omega) (by omega)).trans r11, (ag _ (by omega) (by omega)).trans r12, (ag _ (by omega) (by omega)).trans r13, (ag _ (by omega) (by omega)).trans r14, (ag _ (by omega) (by omega)).trans r15, (ag _ (by omega) (by omega)).trans r16⟩
  have hVlo : ∀ j, j < o → vset V3 (o + 17) 0 (nI 0) j = V1 j := fun j hj => (vs_nr (by omega)).trans (lov j hj)
  have hVhi : ∀ j, o ≤ j → j < o + 17 → vset V3 (o + 17) 0 (nI 0) j = V2 j := fun j hj h2 => (vs_nr (by omega)).trans (hiv j hj)
  have hR0 : Rel V1 V2 0 ml2 o := Rel.clean hm4 hcl hv4 hv5 hCM
  have hR : Rel (vset V3 (o + 17) 0 (nI 0)) (vset V3 (o + 17) 0 (nI 0)) 0 ml2 o := hR0.cg hm4 (fun j h1 h2 => hVlo j (by omega)) (fun j q h1 h2 _ => congrFun (hVhi j h1 h2) q)
  have hSB : SB (vset V3 (o + 17) 0 (nI 0)) o 0 := by
    unfold SB
    rw [hVhi o (Nat.le_refl _) (by omega), hCM.2.2.2.2.2, nI_toInt (by decide)]
    exact ⟨by decide, by decide⟩
  refine q_astore_n dL_law_29 (by decide) ?_
  refine q_iconst (v := nI 1) dL_law_30 rfl ?_
  refine t_istore [.float 1, .ref 0, .ref o, .ref (o + 17), .int (nI 1), .retAddr 0, .retAddr 0] (Or.inr ⟨rfl, dL_law_31⟩) (by decide) rfl ?_
  exact q_less (kc1 := 4 * 513) (ks1 := 24 * 513) (by omega) (by omega) (law_loop Sc hS _ _ 0 o ml2 HG HM gs_at hm1 hm4 (by omega) 513 1 _ 0 h hR hSB (by omega) (by omega) (by omega) hok)

