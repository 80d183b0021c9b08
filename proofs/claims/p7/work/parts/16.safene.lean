theorem mS_id {Γ : Nat → q_K} {o : Nat} {f e : Nat → Int32} (hE : mE Γ o f e) : mS Γ o f e = Γ := by
  funext j
  show gset (gset Γ (o + 11) _) (o + 12) _ j = _
  by_cases h2 : j = o + 12
  · subst h2
    rw [gs_at, hE.2]
  · rw [gs_ne h2]
    by_cases h1 : j = o + 11
    · subst h1
      rw [gs_at, hE.1]
    · rw [gs_ne h1]
set_option maxHeartbeats 4000000 in
theorem eX5_al (Sc : q_S) (Γ : Nat → q_K) (n o ml s : Nat) (f e : Nat → Int32) (hB : mB Γ o) (hE : mE Γ o f e) (hml : ml ≤ 4) (hs : s ≤ 1600000000) (j i : Nat) (hj : j < ml) (hi : i < 6) (F E : Nat → Int32) (hF : ∀ g, F g = f (48 * j + 8 * i + g)) (hEE : ∀ g, E g = e (48 * j + 8 * i + g)) : ∀ (d k s1 : Nat) (h : q_H), k + d = 8 → s1 ≤ s + 2 * k → q_ok (mG Γ o ml 0 s1) h → q_A Sc mX5_answer 40 [.ref o, .int (nI j), .int (nI i), .int (nI (q_nn F E k)), .int (nI k), .retAddr 0, .retAddr 0] [] h n 0 0 (fun O h' n' => O = .inl (some (.int (nI (q_nn F E 8)))) ∧ ∃ s2, s2 ≤ s + 16 ∧ q_ok (mG Γ o ml 0 s2) h' ∧ n' = n) := by
  intro d
  induction d with
  | zero =>
    intro k s1 h hkd hs1 hok
    obtain rfl : k = 8 := by omega
    refine q_iload dX5_answer_40 rfl ?_
    refine q_bipush (v := nI 8) dX5_answer_42 rfl ?_
    refine t_icmp_ge_n (tgt := 121) (by omega) (by omega) dX5_answer_44 (by decide) (fun c => ?_) (fun c => absurd c (by omega))
    refine q_iload_n dX5_answer_121 rfl ?_
    exact q_iret dX5_answer_122 rfl (rfl) ⟨rfl, s1, by omega, hok, rfl⟩
  | succ d ih =>
    intro k s1 h hkd hs1 hok
    have hk8 : k < 8 := by omega
    have hnext : ∀ (c s2 : Nat) (z : Value) (h : q_H), q_nn F E (k + 1) = c → s2 ≤ s + 2 * (k + 1) → q_ok (mG Γ o ml 0 s2) h → q_A Sc mX5_answer 115 [.ref o, .int (nI j), .int (nI i), .int (nI (c)), .int (nI k), .int (nI (48 * j + 8 * i + k)), z] [] h n 0 0 (fun O h' n' => O = .inl (some (.int (nI (q_nn F E 8)))) ∧ ∃ s2, s2 ≤ s + 16 ∧ q_ok (mG Γ o ml 0 s2) h' ∧ n' = n) := fun c s2 z h hc hs2 hok => by
      refine t_iinc_n [.ref o, .int (nI j), .int (nI i), .int (nI (c)), .int (nI (k + 1)), .int (nI (48 * j + 8 * i + k)), z] dX5_answer_115 rfl (by decide) rfl ?_
      refine q_goto (tgt := 40) dX5_answer_118 (by decide) ?_
      refine q_weak [.ref o, .int (nI j), .int (nI i), .int (nI (c)), .int (nI (k + 1)), .retAddr 0, .retAddr 0] ⟨Or.inl rfl, Or.inl rfl, Or.inl rfl, Or.inl rfl, Or.inl rfl, Or.inr ⟨0, rfl⟩, Or.inr ⟨0, rfl⟩, trivial⟩ ?_
      rw [← hc]
      exact ih (k + 1) s2 h (by omega) hs2 hok
    have htake : ¬ (E k = 0 ∧ F k = 0) → q_A Sc mX5_answer 81 [.ref o, .int (nI j), .int (nI i), .int (nI (q_nn F E k)), .int (nI k), .int (nI (48 * j + 8 * i + k)), .retAddr 0] [] h n 0 0 (fun O h' n' => O = .inl (some (.int (nI (q_nn F E 8)))) ∧ ∃ s2, s2 ≤ s + 16 ∧ q_ok (mG Γ o ml 0 s2) h' ∧ n' = n) := fun hne => by
      have hcall : ∀ (kind : Int32), q_A Sc mX5_answer 100 [.ref o, .int (nI j), .int (nI i), .int (nI (q_nn F E k)), .int (nI k), .int (nI (48 * j + 8 * i + k)), .retAddr 0] [.int kind, .int (nI k), .int (nI j), .ref o] h n 0 0 (fun O h' n' => O = .inl (some (.int (nI (q_nn F E 8)))) ∧ ∃ s2, s2 ≤ s + 16 ∧ q_ok (mG Γ o ml 0 s2) h' ∧ n' = n) := fun kind => by
        refine q_aload_n dX5_answer_100 rfl ?_
        refine t_getr 13 kX5 (by decide) wPX5_44 dX5_answer_101 hok mG_o rfl ?_
        refine q_iload dX5_answer_104 rfl ?_
        refine x_iald (by decide) dX5_answer_106 hok ((mG_ne (by omega)).trans hE.2) (show 48 * j + 8 * i + k < 192 by omega) ?_
        refine t_callM (M' := mX5_reported) [.int (nI j), .int (nI k), .int kind, .int (f (48 * j + 8 * i + k))] [] dX5_answer_107 wPX5_125v wIX5_reported wSX5_reported iX5_reported oX5_reported rfl hok (sX5_reported Sc Γ n o ml 0 s1 hB hml (by omega) j (by omega) k hk8 kind (f (48 * j + 8 * i + k))) (Nat.le_of_ble_eq_true rfl) (Nat.le_of_ble_eq_true rfl) (Nat.le_of_ble_eq_true rfl) rfl (fun _ _ _ q => by obtain ⟨⟨_, q⟩, _⟩ := q; cases q) (fun v h th2 s2 qv hok => ?_)
        obtain ⟨⟨x, qx⟩, et, hs2⟩ := qv
        rw [et] at hok
        obtain rfl := Sum.inl.inj qx
        refine t_istore [.ref o, .int (nI j), .int (nI i), .int (nI (q_nn F E k)), .int (nI k), .int (nI (48 * j + 8 * i + k)), .int x] (Or.inr ⟨rfl, dX5_answer_110⟩) (by decide) rfl ?_
        refine t_iinc_n [.ref o, .int (nI j), .int (nI i), .int (nI (q_nn F E k + 1)), .int (nI k), .int (nI (48 * j + 8 * i + k)), .int x] dX5_answer_112 rfl (by decide) rfl ?_
        exact hnext _ s2 _ h (by show q_nn F E k + (if E k = 0 ∧ F k = 0 then 0 else 1) = _; rw [if_neg hne]) (by omega) hok
      refine q_aload_n dX5_answer_81 rfl ?_
      refine q_iload_n dX5_answer_82 rfl ?_
      refine q_iload dX5_answer_83 rfl ?_
      refine q_aload_n dX5_answer_85 rfl ?_
      refine t_getr 12 kX5 (by decide) wPX5_40 dX5_answer_86 hok mG_o rfl ?_
      refine q_iload dX5_answer_89 rfl ?_
      refine x_zald (by decide) dX5_answer_91 hok ((mG_ne (by omega)).trans hE.1) (show 48 * j + 8 * i + k < 192 by omega) ?_
      refine q_if_eq (tgt := 99) dX5_answer_92 (by decide) (fun c => ?_) (fun c => ?_)
      · refine q_iconst (v := nI 0) dX5_answer_99 rfl ?_
        exact hcall _
      · refine q_iconst (v := nI 1) dX5_answer_95 rfl ?_
        refine q_goto (tgt := 100) dX5_answer_96 (by decide) ?_
        exact hcall _
    refine q_iload dX5_answer_40 rfl ?_
    refine q_bipush (v := nI 8) dX5_answer_42 rfl ?_
    refine t_icmp_ge_n (tgt := 121) (by omega) (by omega) dX5_answer_44 (by decide) (fun c => absurd c (by omega)) (fun _ => ?_)
    refine q_bipush (v := nI 48) dX5_answer_47 rfl ?_
    refine q_iload_n dX5_answer_49 rfl ?_
    refine t_imul_n dX5_answer_50 ?_
    refine q_bipush (v := nI 8) dX5_answer_51 rfl ?_
    refine q_iload_n dX5_answer_53 rfl ?_
    refine t_imul_n dX5_answer_54 ?_
    refine t_iadd_n dX5_answer_55 ?_
    refine q_iload dX5_answer_56 rfl ?_
    refine t_iadd_n dX5_answer_58 ?_
    refine t_istore [.ref o, .int (nI j), .int (nI i), .int (nI (q_nn F E k)), .int (nI k), .int (nI (48 * j + 8 * i + k)), .retAddr 0] (Or.inr ⟨rfl, dX5_answer_59⟩) (by decide) rfl ?_
    refine q_aload_n dX5_answer_61 rfl ?_
    refine t_getr 12 kX5 (by decide) wPX5_40 dX5_answer_62 hok mG_o rfl ?_
    refine q_iload dX5_answer_65 rfl ?_
    refine x_zald (by decide) dX5_answer_67 hok ((mG_ne (by omega)).trans hE.1) (show 48 * j + 8 * i + k < 192 by omega) ?_
    refine q_if_ne (tgt := 81) dX5_answer_68 (by decide) (fun c => htake (fun q => c ((hEE k).symm.trans q.1))) (fun c => ?_)
    refine q_aload_n dX5_answer_71 rfl ?_
    refine t_getr 13 kX5 (by decide) wPX5_44 dX5_answer_72 hok mG_o rfl ?_
    refine q_iload dX5_answer_75 rfl ?_
    refine x_iald (by decide) dX5_answer_77 hok ((mG_ne (by omega)).trans hE.2) (show 48 * j + 8 * i + k < 192 by omega) ?_
    refine q_if_eq (tgt := 115) dX5_answer_78 (by decide) (fun c2 => ?_) (fun c2 => htake (fun q => c2 ((hF k).symm.trans q.2)))
    exact hnext _ s1 _ h (by show q_nn F E k + (if E k = 0 ∧ F k = 0 then 0 else 1) = _; rw [if_pos ⟨(hEE k).trans c, (hF k).trans c2⟩]; rfl) (by omega) hok

set_option maxHeartbeats 4000000 in
theorem eX5_answer (Sc : q_S) (Γ : Nat → q_K) (n o ml th s : Nat) (f e : Nat → Int32) (hB : mB Γ o) (hE : mE Γ o f e) (hml : ml ≤ 4) (hs : s ≤ 1600000000) (l m : Int32) (h : q_H) (hok : q_ok (mG Γ o ml th s) h) : q_A Sc mX5_answer 0 [.ref o, .int l, .int m, .retAddr 0, .retAddr 0, .retAddr 0, .retAddr 0] [] h n 0 0 (fun O h' n' => ∃ th' s', ((q_ok2 l.toInt m.toInt ml ∧ th' = 0 ∧ O = .inl (some (.int (nI (q_nn (fun g => f (48 * l.toInt.toNat + 8 * m.toInt.toNat + g)) (fun g => e (48 * l.toInt.toNat + 8 * m.toInt.toNat + g)) 8))))) ∨ (¬ q_ok2 l.toInt m.toInt ml ∧ th' = 1 ∧ ∃ x, O = .inl (some (.int x)))) ∧ s' ≤ s + 16 ∧ q_ok (mG Γ o ml th' s') h' ∧ n' = n) := by
  have e0 : (nI 0).toInt = 0 := rfl
  have e5 : (nI 5).toInt = 5 := rfl
  have hJ1 : ∀ (h : q_H), q_ok (mG Γ o ml th s) h → ¬ q_ok2 l.toInt m.toInt ml → q_A Sc mX5_answer 22 [.ref o, .int l, .int m, .retAddr 0, .retAddr 0, .retAddr 0, .retAddr 0] [.ref o] h n 0 0 (fun O h' n' => ∃ th' s', ((q_ok2 l.toInt m.toInt ml ∧ th' = 0 ∧ O = .inl (some (.int (nI (q_nn (fun g => f (48 * l.toInt.toNat + 8 * m.toInt.toNat + g)) (fun g => e (48 * l.toInt.toNat + 8 * m.toInt.toNat + g)) 8))))) ∨ (¬ q_ok2 l.toInt m.toInt ml ∧ th' = 1 ∧ ∃ x, O = .inl (some (.int x)))) ∧ s' ≤ s + 16 ∧ q_ok (mG Γ o ml th' s') h' ∧ n' = n) := fun h hok hn => by
    refine q_iconst (v := nI 1) dX5_answer_22 rfl ?_
    refine t_putc 0 (z' := 1) kX5 (by decide) wPX5_66 rfl dX5_answer_23 hok mG_o rfl ⟨rfl, rfl⟩ (fun h hok => ?_)
    replace hok := mG_setT hok
    refine q_aload_n dX5_answer_26 rfl ?_
    refine t_getc 0 kX5 (by decide) wPX5_66 dX5_answer_27 hok mG_o rfl ?_
    refine q_if_le (tgt := 35) dX5_answer_30 (by decide) (fun q => absurd q (by decide)) (fun _ => ?_)
    refine q_iconst (v := nI 0) dX5_answer_33 rfl ?_
    exact q_iret dX5_answer_34 rfl (rfl) ⟨1, s, Or.inr ⟨hn, rfl, _, rfl⟩, by omega, hok, rfl⟩
  refine q_aload_n dX5_answer_0 rfl ?_
  refine q_aload_n dX5_answer_1 rfl ?_
  refine q_iload_n dX5_answer_2 rfl ?_
  refine t_callM (M' := mX5_isLink) [.int l] [.ref o] dX5_answer_3 wPX5_117v wIX5_isLink wSX5_isLink iX5_isLink oX5_isLink rfl hok (eX5_isLink Sc Γ n o ml th s hml l) (Nat.le_of_ble_eq_true rfl) (Nat.le_of_ble_eq_true rfl) (Nat.le_of_ble_eq_true rfl) rfl (fun _ _ _ q => by obtain ⟨⟨_, q, _⟩, _⟩ := q; cases q) (fun v h th' s' qv hok => ?_)
  obtain ⟨⟨x, qx, hx⟩, et, es⟩ := qv
  rw [et, es] at hok
  obtain rfl := Sum.inl.inj qx
  rcases hx with ⟨rfl, hl⟩ | ⟨rfl, hl⟩
  rotate_left
  · exact q_if_eq (tgt := 22) dX5_answer_6 (by decide) (fun _ => hJ1 h hok (by omega)) (fun q => absurd rfl q)
  refine q_if_eq (tgt := 22) dX5_answer_6 (by decide) (fun q => absurd q (by decide)) (fun _ => ?_)
  refine q_iload_n dX5_answer_9 rfl ?_
  refine q_iconst (v := nI 0) dX5_answer_10 rfl ?_
  refine q_iconst (v := nI 5) dX5_answer_11 rfl ?_
  refine t_callS (M' := mX5_in) [.int m, .int (nI 0), .int (nI 5)] [.ref o] dX5_answer_12 wPX5_120 wTX5_in wNX5 iX5_in oX5_in rfl hok (eX5_in Sc _ n m (nI 0) (nI 5)) (Nat.le_of_ble_eq_true rfl) (Nat.le_of_ble_eq_true rfl) (Nat.le_of_ble_eq_true rfl) (Nat.le_of_ble_eq_true rfl) (Nat.le_of_ble_eq_true rfl) rfl (fun v h qv hok => ?_) (fun x h qx hok => absurd qx (by intro q; obtain ⟨_, q, _⟩ := q; cases q))
  obtain ⟨x, qx, hx⟩ := qv
  obtain rfl := Sum.inl.inj qx
  rw [e0, e5] at hx
  rcases hx with ⟨rfl, hm⟩ | ⟨rfl, hm⟩
  rotate_left
  · exact q_if_eq (tgt := 22) dX5_answer_15 (by decide) (fun _ => hJ1 h hok (by omega)) (fun q => absurd rfl q)
  refine q_if_eq (tgt := 22) dX5_answer_15 (by decide) (fun q => absurd q (by decide)) (fun _ => ?_)
  refine q_iconst (v := nI 0) dX5_answer_18 rfl ?_
  refine q_goto (tgt := 23) dX5_answer_19 (by decide) ?_
  refine t_putc 0 (z' := 0) kX5 (by decide) wPX5_66 rfl dX5_answer_23 hok mG_o rfl ⟨rfl, rfl⟩ (fun h hok => ?_)
  replace hok := mG_setT hok
  refine q_aload_n dX5_answer_26 rfl ?_
  refine t_getc 0 kX5 (by decide) wPX5_66 dX5_answer_27 hok mG_o rfl ?_
  refine q_if_le (tgt := 35) dX5_answer_30 (by decide) (fun _ => ?_) (fun q => absurd (by decide) q)
  have hy : q_ok2 l.toInt m.toInt ml := ⟨by omega, by omega, by omega, by omega⟩
  obtain ⟨j, hj, rfl⟩ := q_tnat (by omega) hy.1 hy.2.1
  obtain ⟨i, hi, rfl⟩ := q_tnat (B := 6) (by omega) hy.2.2.1 hy.2.2.2
  refine q_iconst (v := nI 0) dX5_answer_35 rfl ?_
  refine t_istore [.ref o, .int (nI j), .int (nI i), .int (nI 0), .retAddr 0, .retAddr 0, .retAddr 0] (Or.inl ⟨3, rfl, rfl, dX5_answer_36⟩) (by decide) rfl ?_
  refine q_iconst (v := nI 0) dX5_answer_37 rfl ?_
  refine t_istore [.ref o, .int (nI j), .int (nI i), .int (nI 0), .int (nI 0), .retAddr 0, .retAddr 0] (Or.inr ⟨rfl, dX5_answer_38⟩) (by decide) rfl ?_
  refine q_mono (fun O h' n' hq => ?_) (eX5_al Sc Γ n o ml s f e hB hE hml hs j i hj hi (fun g => f (48 * j + 8 * i + g)) (fun g => e (48 * j + 8 * i + g)) (fun _ => rfl) (fun _ => rfl) 8 0 s h rfl (by omega) hok)
  obtain ⟨h1, s2, h2, h3⟩ := hq
  refine ⟨0, s2, Or.inl ⟨hy, rfl, ?_⟩, h2, h3⟩
  rw [nI_tn (by omega), nI_tn (by omega)]
  exact h1

set_option maxRecDepth 20000 in
set_option maxHeartbeats 4000000 in
theorem sX5_m109 (Sc : q_S) (Γ : Nat → q_K) (n o ml th s : Nat) (hB : mB Γ o) (hml : ml ≤ 4) (hs : s ≤ 1600000000) (a1 : Nat) (b1 : a1 < 4) (a3 : Nat) (b3 : a3 < 8) (a4 : Int32) (b4 : q_bl a4) (a5 a7 a8 : Int32) (h : q_H) (hok : q_ok (mG Γ o ml th s) h) : q_A Sc mX5_member 109 [.ref o, .int (nI a1), .retAddr 0, .int (nI a3), .int (a4), .int (a5), .retAddr 0, .int (a7), .int (a8), .retAddr 0, .retAddr 0, .retAddr 0, .retAddr 0] [] h n 0 0 (fun O h' n' => ∃ th' s', (fun O th' s' => q_RI O ∧ s' ≤ s + 4) O th' s' ∧ q_ok (mG Γ o ml th' s') h' ∧ n' = n) := by
  refine q_aload_n dX5_member_109 rfl ?_
  refine t_getc 15 kX5 (by decide) wPX5_72 dX5_member_110 hok mG_o rfl ?_
  refine t_istore [.ref o, .int (nI a1), .retAddr 0, .int (nI a3), .int (a4), .int (a5), .retAddr 0, .int (a7), .int (a8), .int (nI s), .retAddr 0, .retAddr 0, .retAddr 0] (Or.inr ⟨rfl, dX5_member_113⟩) (by decide) rfl ?_
  refine q_iload dX5_member_115 rfl ?_
  refine q_iload dX5_member_117 rfl ?_
  refine q_icmp_eq (tgt := 145) dX5_member_119 (by decide) (fun c1477 => ?_) (fun c1477 => ?_)
  ·
    refine q_iload dX5_member_145 rfl ?_
    refine q_if_eq (tgt := 160) dX5_member_147 (by decide) (fun c1478 => ?_) (fun c1478 => ?_)
    ·
      refine q_iload dX5_member_160 rfl ?_
      refine q_iload dX5_member_162 rfl ?_
      refine q_iconst (v := -1) dX5_member_164 rfl ?_
      refine q_ixor dX5_member_165 ?_
      generalize (a8) ^^^ (-1) = z1479
      refine q_iand dX5_member_166 ?_
      generalize (a5) &&& (z1479) = z1480
      refine t_istore [.ref o, .int (nI a1), .retAddr 0, .int (nI a3), .int (a4), .int (a5), .retAddr 0, .int (a7), .int (a8), .int (nI s), .int (z1480), .retAddr 0, .retAddr 0] (Or.inr ⟨rfl, dX5_member_167⟩) (by decide) rfl ?_
      refine q_iload dX5_member_169 rfl ?_
      refine q_if_eq (tgt := 184) dX5_member_171 (by decide) (fun c1481 => ?_) (fun c1481 => ?_)
      rotate_left
      · exact absurd c1478 c1481
      refine q_iload dX5_member_184 rfl ?_
      refine q_iload dX5_member_186 rfl ?_
      refine q_iconst (v := -1) dX5_member_188 rfl ?_
      refine q_ixor dX5_member_189 ?_
      generalize (a5) ^^^ (-1) = z1482
      refine q_iand dX5_member_190 ?_
      generalize (a8) &&& (z1482) = z1483
      refine t_istore [.ref o, .int (nI a1), .retAddr 0, .int (nI a3), .int (a4), .int (a5), .retAddr 0, .int (a7), .int (a8), .int (nI s), .int (z1480), .int (z1483), .retAddr 0] (Or.inr ⟨rfl, dX5_member_191⟩) (by decide) rfl ?_
      refine q_iload dX5_member_193 rfl ?_
      refine q_if_eq (tgt := 209) dX5_member_195 (by decide) (fun c1484 => ?_) (fun c1484 => ?_)
      ·
        refine q_iload dX5_member_209 rfl ?_
        refine q_if_eq (tgt := 225) dX5_member_211 (by decide) (fun c1485 => ?_) (fun c1485 => ?_)
        ·
          refine q_aload_n dX5_member_225 rfl ?_
          refine t_getc 15 kX5 (by decide) wPX5_72 dX5_member_226 hok mG_o rfl ?_
          refine q_iload dX5_member_229 rfl ?_
          refine q_isub dX5_member_231 ?_
          generalize (nI s) - (nI s) = z1486
          exact q_iret dX5_member_232 rfl (rfl) ⟨th, s, ⟨⟨_, rfl⟩, by omega⟩, hok, rfl⟩
        ·
          refine q_aload_n dX5_member_214 rfl ?_
          refine q_iload_n dX5_member_215 rfl ?_
          refine q_iload_n dX5_member_216 rfl ?_
          refine q_iconst (v := nI 5) dX5_member_217 rfl ?_
          refine q_iload dX5_member_218 rfl ?_
          refine t_callM (M' := mX5_reported) [.int (nI a1), .int (nI a3), .int (nI 5), .int (z1483)] [] dX5_member_220 wPX5_125v wIX5_reported wSX5_reported iX5_reported oX5_reported rfl hok (sX5_reported Sc Γ n o ml (th) (s) hB hml (by omega) (a1) (by omega) (a3) (by omega) (nI 5) (z1483)) (Nat.le_of_ble_eq_true rfl) (Nat.le_of_ble_eq_true rfl) (Nat.le_of_ble_eq_true rfl) rfl (fun _ _ _ q => by obtain ⟨q, _⟩ := q; obtain ⟨_, q⟩ := q; cases q) (fun v1487 h thv1487 sv1487 qv1487 hok => ?_)
          obtain ⟨qv1487, etv1487, hsv1487⟩ := qv1487
          rw [etv1487] at hok
          obtain ⟨x1488, qx1488⟩ := qv1487
          obtain rfl := Sum.inl.inj qx1488
          refine t_istore [.ref o, .int (nI a1), .retAddr 0, .int (nI a3), .int (a4), .int (a5), .retAddr 0, .int (a7), .int (a8), .int (nI s), .int (z1480), .int (z1483), .int (x1488)] (Or.inr ⟨rfl, dX5_member_223⟩) (by decide) rfl ?_
          refine q_aload_n dX5_member_225 rfl ?_
          refine t_getc 15 kX5 (by decide) wPX5_72 dX5_member_226 hok mG_o rfl ?_
          refine q_iload dX5_member_229 rfl ?_
          refine q_isub dX5_member_231 ?_
          generalize (nI sv1487) - (nI s) = z1489
          exact q_iret dX5_member_232 rfl (rfl) ⟨th, sv1487, ⟨⟨_, rfl⟩, by omega⟩, hok, rfl⟩
      ·
        refine q_aload_n dX5_member_198 rfl ?_
        refine q_iload_n dX5_member_199 rfl ?_
        refine q_iload_n dX5_member_200 rfl ?_
        refine q_iconst (v := nI 4) dX5_member_201 rfl ?_
        refine q_iload dX5_member_202 rfl ?_
        refine t_callM (M' := mX5_reported) [.int (nI a1), .int (nI a3), .int (nI 4), .int (z1480)] [] dX5_member_204 wPX5_125v wIX5_reported wSX5_reported iX5_reported oX5_reported rfl hok (sX5_reported Sc Γ n o ml (th) (s) hB hml (by omega) (a1) (by omega) (a3) (by omega) (nI 4) (z1480)) (Nat.le_of_ble_eq_true rfl) (Nat.le_of_ble_eq_true rfl) (Nat.le_of_ble_eq_true rfl) rfl (fun _ _ _ q => by obtain ⟨q, _⟩ := q; obtain ⟨_, q⟩ := q; cases q) (fun v1490 h thv1490 sv1490 qv1490 hok => ?_)
        obtain ⟨qv1490, etv1490, hsv1490⟩ := qv1490
        rw [etv1490] at hok
        obtain ⟨x1491, qx1491⟩ := qv1490
        obtain rfl := Sum.inl.inj qx1491
        refine t_istore [.ref o, .int (nI a1), .retAddr 0, .int (nI a3), .int (a4), .int (a5), .retAddr 0, .int (a7), .int (a8), .int (nI s), .int (z1480), .int (z1483), .int (x1491)] (Or.inr ⟨rfl, dX5_member_207⟩) (by decide) rfl ?_
        refine q_iload dX5_member_209 rfl ?_
        refine q_if_eq (tgt := 225) dX5_member_211 (by decide) (fun c1492 => ?_) (fun c1492 => ?_)
        ·
          refine q_aload_n dX5_member_225 rfl ?_
          refine t_getc 15 kX5 (by decide) wPX5_72 dX5_member_226 hok mG_o rfl ?_
          refine q_iload dX5_member_229 rfl ?_
          refine q_isub dX5_member_231 ?_
          generalize (nI sv1490) - (nI s) = z1493
          exact q_iret dX5_member_232 rfl (rfl) ⟨th, sv1490, ⟨⟨_, rfl⟩, by omega⟩, hok, rfl⟩
        ·
          refine q_aload_n dX5_member_214 rfl ?_
          refine q_iload_n dX5_member_215 rfl ?_
          refine q_iload_n dX5_member_216 rfl ?_
          refine q_iconst (v := nI 5) dX5_member_217 rfl ?_
          refine q_iload dX5_member_218 rfl ?_
          refine t_callM (M' := mX5_reported) [.int (nI a1), .int (nI a3), .int (nI 5), .int (z1483)] [] dX5_member_220 wPX5_125v wIX5_reported wSX5_reported iX5_reported oX5_reported rfl hok (sX5_reported Sc Γ n o ml (th) (sv1490) hB hml (by omega) (a1) (by omega) (a3) (by omega) (nI 5) (z1483)) (Nat.le_of_ble_eq_true rfl) (Nat.le_of_ble_eq_true rfl) (Nat.le_of_ble_eq_true rfl) rfl (fun _ _ _ q => by obtain ⟨q, _⟩ := q; obtain ⟨_, q⟩ := q; cases q) (fun v1494 h thv1494 sv1494 qv1494 hok => ?_)
          obtain ⟨qv1494, etv1494, hsv1494⟩ := qv1494
          rw [etv1494] at hok
          obtain ⟨x1495, qx1495⟩ := qv1494
          obtain rfl := Sum.inl.inj qx1495
          refine t_istore [.ref o, .int (nI a1), .retAddr 0, .int (nI a3), .int (a4), .int (a5), .retAddr 0, .int (a7), .int (a8), .int (nI s), .int (z1480), .int (z1483), .int (x1495)] (Or.inr ⟨rfl, dX5_member_223⟩) (by decide) rfl ?_
          refine q_aload_n dX5_member_225 rfl ?_
          refine t_getc 15 kX5 (by decide) wPX5_72 dX5_member_226 hok mG_o rfl ?_
          refine q_iload dX5_member_229 rfl ?_
          refine q_isub dX5_member_231 ?_
          generalize (nI sv1494) - (nI s) = z1496
          exact q_iret dX5_member_232 rfl (rfl) ⟨th, sv1494, ⟨⟨_, rfl⟩, by omega⟩, hok, rfl⟩
    ·
      refine q_iload dX5_member_150 rfl ?_
      refine q_iload dX5_member_152 rfl ?_
      refine q_iconst (v := -1) dX5_member_154 rfl ?_
      refine q_ixor dX5_member_155 ?_
      generalize (a5) ^^^ (-1) = z1497
      refine q_iand dX5_member_156 ?_
      generalize (a8) &&& (z1497) = z1498
      refine q_goto (tgt := 167) dX5_member_157 (by decide) ?_
      refine t_istore [.ref o, .int (nI a1), .retAddr 0, .int (nI a3), .int (a4), .int (a5), .retAddr 0, .int (a7), .int (a8), .int (nI s), .int (z1498), .retAddr 0, .retAddr 0] (Or.inr ⟨rfl, dX5_member_167⟩) (by decide) rfl ?_
      refine q_iload dX5_member_169 rfl ?_
      refine q_if_eq (tgt := 184) dX5_member_171 (by decide) (fun c1499 => ?_) (fun c1499 => ?_)
      · exact absurd c1499 c1478
      refine q_iload dX5_member_174 rfl ?_
      refine q_iload dX5_member_176 rfl ?_
      refine q_iconst (v := -1) dX5_member_178 rfl ?_
      refine q_ixor dX5_member_179 ?_
      generalize (a8) ^^^ (-1) = z1500
      refine q_iand dX5_member_180 ?_
      generalize (a5) &&& (z1500) = z1501
      refine q_goto (tgt := 191) dX5_member_181 (by decide) ?_
      refine t_istore [.ref o, .int (nI a1), .retAddr 0, .int (nI a3), .int (a4), .int (a5), .retAddr 0, .int (a7), .int (a8), .int (nI s), .int (z1498), .int (z1501), .retAddr 0] (Or.inr ⟨rfl, dX5_member_191⟩) (by decide) rfl ?_
      refine q_iload dX5_member_193 rfl ?_
      refine q_if_eq (tgt := 209) dX5_member_195 (by decide) (fun c1502 => ?_) (fun c1502 => ?_)
      ·
        refine q_iload dX5_member_209 rfl ?_
        refine q_if_eq (tgt := 225) dX5_member_211 (by decide) (fun c1503 => ?_) (fun c1503 => ?_)
        ·
          refine q_aload_n dX5_member_225 rfl ?_
          refine t_getc 15 kX5 (by decide) wPX5_72 dX5_member_226 hok mG_o rfl ?_
          refine q_iload dX5_member_229 rfl ?_
          refine q_isub dX5_member_231 ?_
          generalize (nI s) - (nI s) = z1504
          exact q_iret dX5_member_232 rfl (rfl) ⟨th, s, ⟨⟨_, rfl⟩, by omega⟩, hok, rfl⟩
        ·
          refine q_aload_n dX5_member_214 rfl ?_
          refine q_iload_n dX5_member_215 rfl ?_
          refine q_iload_n dX5_member_216 rfl ?_
          refine q_iconst (v := nI 5) dX5_member_217 rfl ?_
          refine q_iload dX5_member_218 rfl ?_
          refine t_callM (M' := mX5_reported) [.int (nI a1), .int (nI a3), .int (nI 5), .int (z1501)] [] dX5_member_220 wPX5_125v wIX5_reported wSX5_reported iX5_reported oX5_reported rfl hok (sX5_reported Sc Γ n o ml (th) (s) hB hml (by omega) (a1) (by omega) (a3) (by omega) (nI 5) (z1501)) (Nat.le_of_ble_eq_true rfl) (Nat.le_of_ble_eq_true rfl) (Nat.le_of_ble_eq_true rfl) rfl (fun _ _ _ q => by obtain ⟨q, _⟩ := q; obtain ⟨_, q⟩ := q; cases q) (fun v1505 h thv1505 sv1505 qv1505 hok => ?_)
          obtain ⟨qv1505, etv1505, hsv1505⟩ := qv1505
          rw [etv1505] at hok
          obtain ⟨x1506, qx1506⟩ := qv1505
          obtain rfl := Sum.inl.inj qx1506
          refine t_istore [.ref o, .int (nI a1), .retAddr 0, .int (nI a3), .int (a4), .int (a5), .retAddr 0, .int (a7), .int (a8), .int (nI s), .int (z1498), .int (z1501), .int (x1506)] (Or.inr ⟨rfl, dX5_member_223⟩) (by decide) rfl ?_
          refine q_aload_n dX5_member_225 rfl ?_
          refine t_getc 15 kX5 (by decide) wPX5_72 dX5_member_226 hok mG_o rfl ?_
          refine q_iload dX5_member_229 rfl ?_
          refine q_isub dX5_member_231 ?_
          generalize (nI sv1505) - (nI s) = z1507
          exact q_iret dX5_member_232 rfl (rfl) ⟨th, sv1505, ⟨⟨_, rfl⟩, by omega⟩, hok, rfl⟩
      ·
        refine q_aload_n dX5_member_198 rfl ?_
        refine q_iload_n dX5_member_199 rfl ?_
        refine q_iload_n dX5_member_200 rfl ?_
        refine q_iconst (v := nI 4) dX5_member_201 rfl ?_
        refine q_iload dX5_member_202 rfl ?_
        refine t_callM (M' := mX5_reported) [.int (nI a1), .int (nI a3), .int (nI 4), .int (z1498)] [] dX5_member_204 wPX5_125v wIX5_reported wSX5_reported iX5_reported oX5_reported rfl hok (sX5_reported Sc Γ n o ml (th) (s) hB hml (by omega) (a1) (by omega) (a3) (by omega) (nI 4) (z1498)) (Nat.le_of_ble_eq_true rfl) (Nat.le_of_ble_eq_true rfl) (Nat.le_of_ble_eq_true rfl) rfl (fun _ _ _ q => by obtain ⟨q, _⟩ := q; obtain ⟨_, q⟩ := q; cases q) (fun v1508 h thv1508 sv1508 qv1508 hok => ?_)
        obtain ⟨qv1508, etv1508, hsv1508⟩ := qv1508
        rw [etv1508] at hok
        obtain ⟨x1509, qx1509⟩ := qv1508
        obtain rfl := Sum.inl.inj qx1509
        refine t_istore [.ref o, .int (nI a1), .retAddr 0, .int (nI a3), .int (a4), .int (a5), .retAddr 0, .int (a7), .int (a8), .int (nI s), .int (z1498), .int (z1501), .int (x1509)] (Or.inr ⟨rfl, dX5_member_207⟩) (by decide) rfl ?_
        refine q_iload dX5_member_209 rfl ?_
        refine q_if_eq (tgt := 225) dX5_member_211 (by decide) (fun c1510 => ?_) (fun c1510 => ?_)
        ·
          refine q_aload_n dX5_member_225 rfl ?_
          refine t_getc 15 kX5 (by decide) wPX5_72 dX5_member_226 hok mG_o rfl ?_
          refine q_iload dX5_member_229 rfl ?_
          refine q_isub dX5_member_231 ?_
          generalize (nI sv1508) - (nI s) = z1511
          exact q_iret dX5_member_232 rfl (rfl) ⟨th, sv1508, ⟨⟨_, rfl⟩, by omega⟩, hok, rfl⟩
        ·
          refine q_aload_n dX5_member_214 rfl ?_
          refine q_iload_n dX5_member_215 rfl ?_
          refine q_iload_n dX5_member_216 rfl ?_
          refine q_iconst (v := nI 5) dX5_member_217 rfl ?_
          refine q_iload dX5_member_218 rfl ?_
          refine t_callM (M' := mX5_reported) [.int (nI a1), .int (nI a3), .int (nI 5), .int (z1501)] [] dX5_member_220 wPX5_125v wIX5_reported wSX5_reported iX5_reported oX5_reported rfl hok (sX5_reported Sc Γ n o ml (th) (sv1508) hB hml (by omega) (a1) (by omega) (a3) (by omega) (nI 5) (z1501)) (Nat.le_of_ble_eq_true rfl) (Nat.le_of_ble_eq_true rfl) (Nat.le_of_ble_eq_true rfl) rfl (fun _ _ _ q => by obtain ⟨q, _⟩ := q; obtain ⟨_, q⟩ := q; cases q) (fun v1512 h thv1512 sv1512 qv1512 hok => ?_)
          obtain ⟨qv1512, etv1512, hsv1512⟩ := qv1512
          rw [etv1512] at hok
          obtain ⟨x1513, qx1513⟩ := qv1512
          obtain rfl := Sum.inl.inj qx1513
          refine t_istore [.ref o, .int (nI a1), .retAddr 0, .int (nI a3), .int (a4), .int (a5), .retAddr 0, .int (a7), .int (a8), .int (nI s), .int (z1498), .int (z1501), .int (x1513)] (Or.inr ⟨rfl, dX5_member_223⟩) (by decide) rfl ?_
          refine q_aload_n dX5_member_225 rfl ?_
          refine t_getc 15 kX5 (by decide) wPX5_72 dX5_member_226 hok mG_o rfl ?_
          refine q_iload dX5_member_229 rfl ?_
          refine q_isub dX5_member_231 ?_
          generalize (nI sv1512) - (nI s) = z1514
          exact q_iret dX5_member_232 rfl (rfl) ⟨th, sv1512, ⟨⟨_, rfl⟩, by omega⟩, hok, rfl⟩
  ·
    refine q_aload_n dX5_member_122 rfl ?_
    refine q_iload_n dX5_member_123 rfl ?_
    refine q_iload_n dX5_member_124 rfl ?_
    refine q_iload dX5_member_125 rfl ?_
    refine q_if_eq (tgt := 134) dX5_member_127 (by decide) (fun c1515 => ?_) (fun c1515 => ?_)
    ·
      refine q_iconst (v := nI 2) dX5_member_134 rfl ?_
      refine q_iload dX5_member_135 rfl ?_
      refine t_callM (M' := mX5_reported) [.int (nI a1), .int (nI a3), .int (nI 2), .int (a5)] [] dX5_member_137 wPX5_125v wIX5_reported wSX5_reported iX5_reported oX5_reported rfl hok (sX5_reported Sc Γ n o ml (th) (s) hB hml (by omega) (a1) (by omega) (a3) (by omega) (nI 2) (a5)) (Nat.le_of_ble_eq_true rfl) (Nat.le_of_ble_eq_true rfl) (Nat.le_of_ble_eq_true rfl) rfl (fun _ _ _ q => by obtain ⟨q, _⟩ := q; obtain ⟨_, q⟩ := q; cases q) (fun v1516 h thv1516 sv1516 qv1516 hok => ?_)
      obtain ⟨qv1516, etv1516, hsv1516⟩ := qv1516
      rw [etv1516] at hok
      obtain ⟨x1517, qx1517⟩ := qv1516
      obtain rfl := Sum.inl.inj qx1517
      refine t_istore [.ref o, .int (nI a1), .retAddr 0, .int (nI a3), .int (a4), .int (a5), .retAddr 0, .int (a7), .int (a8), .int (nI s), .int (x1517), .retAddr 0, .retAddr 0] (Or.inr ⟨rfl, dX5_member_140⟩) (by decide) rfl ?_
      refine q_goto (tgt := 225) dX5_member_142 (by decide) ?_
      refine q_aload_n dX5_member_225 rfl ?_
      refine t_getc 15 kX5 (by decide) wPX5_72 dX5_member_226 hok mG_o rfl ?_
      refine q_iload dX5_member_229 rfl ?_
      refine q_isub dX5_member_231 ?_
      generalize (nI sv1516) - (nI s) = z1518
      exact q_iret dX5_member_232 rfl (rfl) ⟨th, sv1516, ⟨⟨_, rfl⟩, by omega⟩, hok, rfl⟩
    ·
      refine q_iconst (v := nI 3) dX5_member_130 rfl ?_
      refine q_goto (tgt := 135) dX5_member_131 (by decide) ?_
      refine q_iload dX5_member_135 rfl ?_
      refine t_callM (M' := mX5_reported) [.int (nI a1), .int (nI a3), .int (nI 3), .int (a5)] [] dX5_member_137 wPX5_125v wIX5_reported wSX5_reported iX5_reported oX5_reported rfl hok (sX5_reported Sc Γ n o ml (th) (s) hB hml (by omega) (a1) (by omega) (a3) (by omega) (nI 3) (a5)) (Nat.le_of_ble_eq_true rfl) (Nat.le_of_ble_eq_true rfl) (Nat.le_of_ble_eq_true rfl) rfl (fun _ _ _ q => by obtain ⟨q, _⟩ := q; obtain ⟨_, q⟩ := q; cases q) (fun v1519 h thv1519 sv1519 qv1519 hok => ?_)
      obtain ⟨qv1519, etv1519, hsv1519⟩ := qv1519
      rw [etv1519] at hok
      obtain ⟨x1520, qx1520⟩ := qv1519
      obtain rfl := Sum.inl.inj qx1520
      refine t_istore [.ref o, .int (nI a1), .retAddr 0, .int (nI a3), .int (a4), .int (a5), .retAddr 0, .int (a7), .int (a8), .int (nI s), .int (x1520), .retAddr 0, .retAddr 0] (Or.inr ⟨rfl, dX5_member_140⟩) (by decide) rfl ?_
      refine q_goto (tgt := 225) dX5_member_142 (by decide) ?_
      refine q_aload_n dX5_member_225 rfl ?_
      refine t_getc 15 kX5 (by decide) wPX5_72 dX5_member_226 hok mG_o rfl ?_
      refine q_iload dX5_member_229 rfl ?_
      refine q_isub dX5_member_231 ?_
      generalize (nI sv1519) - (nI s) = z1521
      exact q_iret dX5_member_232 rfl (rfl) ⟨th, sv1519, ⟨⟨_, rfl⟩, by omega⟩, hok, rfl⟩
set_option maxHeartbeats 4000000 in
theorem eX5_member (Sc : q_S) (Γ : Nat → q_K) (n o ml th s : Nat) (f e : Nat → Int32) (hB : mB Γ o) (hE : mE Γ o f e) (hml : ml ≤ 4) (hs : s ≤ 1600000000) (l m g ex v : Int32) (hex : q_bl ex) (h : q_H) (hok : q_ok (mG Γ o ml th s) h) : q_A Sc mX5_member 0 [.ref o, .int l, .int m, .int g, .int ex, .int v, .retAddr 0, .retAddr 0, .retAddr 0, .retAddr 0, .retAddr 0, .retAddr 0, .retAddr 0] [] h n 0 0 (fun O h' n' => ∃ th' s', (∃ x, O = .inl (some (.int x))) ∧ s' ≤ s + 8000 ∧ q_ok (mG (mS Γ o (q_mf f l m g v ml v) (q_mf e l m g v ml ex)) o ml th' s') h' ∧ n' = n) := by
  have e0 : (nI 0).toInt = 0 := rfl
  have e5 : (nI 5).toInt = 5 := rfl
  have e7 : (nI 7).toInt = 7 := rfl
  have e65 : (65535 : Int32).toInt = 65535 := rfl
  have hbad : ∀ (z : Nat) (h : q_H), z = 1 ∨ z = 2 → q_ok (mG Γ o ml th s) h → ¬ q_ok4 l.toInt m.toInt g.toInt v.toInt ml → q_A Sc mX5_member 48 [.ref o, .int l, .int m, .int g, .int ex, .int v, .retAddr 0, .retAddr 0, .retAddr 0, .retAddr 0, .retAddr 0, .retAddr 0, .retAddr 0] [.int (nI z), .ref o] h n 0 0 (fun O h' n' => ∃ th' s', (∃ x, O = .inl (some (.int x))) ∧ s' ≤ s + 8000 ∧ q_ok (mG (mS Γ o (q_mf f l m g v ml v) (q_mf e l m g v ml ex)) o ml th' s') h' ∧ n' = n) := fun z h hz hok hn => by
    refine t_putc 0 (z' := z) kX5 (by decide) wPX5_66 rfl dX5_member_48 hok mG_o rfl ⟨rfl, rfl⟩ (fun h hok => ?_)
    replace hok := mG_setT hok
    refine q_aload_n dX5_member_51 rfl ?_
    refine t_getc 0 kX5 (by decide) wPX5_66 dX5_member_52 hok mG_o rfl ?_
    refine q_if_le (tgt := 60) dX5_member_55 (by decide) (fun q => absurd q (by rcases hz with rfl | rfl <;> decide)) (fun _ => ?_)
    refine q_iconst (v := nI 0) dX5_member_58 rfl ?_
    exact q_iret dX5_member_59 rfl (rfl) ⟨z, s, ⟨_, rfl⟩, by omega, by rw [q_mf_no hn, q_mf_no hn, mS_id hE]; exact hok, rfl⟩
  have hbad1 : ∀ (h : q_H), q_ok (mG Γ o ml th s) h → ¬ q_ok4 l.toInt m.toInt g.toInt v.toInt ml → q_A Sc mX5_member 28 [.ref o, .int l, .int m, .int g, .int ex, .int v, .retAddr 0, .retAddr 0, .retAddr 0, .retAddr 0, .retAddr 0, .retAddr 0, .retAddr 0] [.ref o] h n 0 0 (fun O h' n' => ∃ th' s', (∃ x, O = .inl (some (.int x))) ∧ s' ≤ s + 8000 ∧ q_ok (mG (mS Γ o (q_mf f l m g v ml v) (q_mf e l m g v ml ex)) o ml th' s') h' ∧ n' = n) := fun h hok hn => by
    refine q_iconst (v := nI 1) dX5_member_28 rfl ?_
    refine q_goto (tgt := 48) dX5_member_29 (by decide) ?_
    exact hbad 1 h (Or.inl rfl) hok hn
  refine q_aload_n dX5_member_0 rfl ?_
  refine q_aload_n dX5_member_1 rfl ?_
  refine q_iload_n dX5_member_2 rfl ?_
  refine t_callM (M' := mX5_isLink) [.int l] [.ref o] dX5_member_3 wPX5_117v wIX5_isLink wSX5_isLink iX5_isLink oX5_isLink rfl hok (eX5_isLink Sc Γ n o ml th s hml l) (Nat.le_of_ble_eq_true rfl) (Nat.le_of_ble_eq_true rfl) (Nat.le_of_ble_eq_true rfl) rfl (fun _ _ _ q => by obtain ⟨⟨_, q, _⟩, _⟩ := q; cases q) (fun v h th' s' qv hok => ?_)
  obtain ⟨⟨x, qx, hx⟩, et, es⟩ := qv
  rw [et, es] at hok
  obtain rfl := Sum.inl.inj qx
  rcases hx with ⟨rfl, hl⟩ | ⟨rfl, hl⟩
  rotate_left
  · exact q_if_eq (tgt := 28) dX5_member_6 (by decide) (fun _ => hbad1 h hok (by omega)) (fun q => absurd rfl q)
  refine q_if_eq (tgt := 28) dX5_member_6 (by decide) (fun q => absurd q (by decide)) (fun _ => ?_)
  refine q_iload_n dX5_member_9 rfl ?_
  refine q_iconst (v := nI 0) dX5_member_10 rfl ?_
  refine q_iconst (v := nI 5) dX5_member_11 rfl ?_
  refine t_callS (M' := mX5_in) [.int m, .int (nI 0), .int (nI 5)] [.ref o] dX5_member_12 wPX5_120 wTX5_in wNX5 iX5_in oX5_in rfl hok (eX5_in Sc _ n m (nI 0) (nI 5)) (Nat.le_of_ble_eq_true rfl) (Nat.le_of_ble_eq_true rfl) (Nat.le_of_ble_eq_true rfl) (Nat.le_of_ble_eq_true rfl) (Nat.le_of_ble_eq_true rfl) rfl (fun v h qv hok => ?_) (fun x h qx hok => absurd qx (by intro q; obtain ⟨_, q, _⟩ := q; cases q))
  obtain ⟨x, qx, hx⟩ := qv
  obtain rfl := Sum.inl.inj qx
  rw [e0, e5] at hx
  rcases hx with ⟨rfl, hm⟩ | ⟨rfl, hm⟩
  rotate_left
  · exact q_if_eq (tgt := 28) dX5_member_15 (by decide) (fun _ => hbad1 h hok (by omega)) (fun q => absurd rfl q)
  refine q_if_eq (tgt := 28) dX5_member_15 (by decide) (fun q => absurd q (by decide)) (fun _ => ?_)
  refine q_iload_n dX5_member_18 rfl ?_
  refine q_iconst (v := nI 0) dX5_member_19 rfl ?_
  refine q_bipush (v := nI 7) dX5_member_20 rfl ?_
  refine t_callS (M' := mX5_in) [.int g, .int (nI 0), .int (nI 7)] [.ref o] dX5_member_22 wPX5_120 wTX5_in wNX5 iX5_in oX5_in rfl hok (eX5_in Sc _ n g (nI 0) (nI 7)) (Nat.le_of_ble_eq_true rfl) (Nat.le_of_ble_eq_true rfl) (Nat.le_of_ble_eq_true rfl) (Nat.le_of_ble_eq_true rfl) (Nat.le_of_ble_eq_true rfl) rfl (fun v h qv hok => ?_) (fun x h qx hok => absurd qx (by intro q; obtain ⟨_, q, _⟩ := q; cases q))
  obtain ⟨x, qx, hx⟩ := qv
  obtain rfl := Sum.inl.inj qx
  rw [e0, e7] at hx
  rcases hx with ⟨rfl, hg⟩ | ⟨rfl, hg⟩
  rotate_left
  · exact q_if_ne (tgt := 32) dX5_member_25 (by decide) (fun q => absurd rfl q) (fun _ => hbad1 h hok (by omega))
  refine q_if_ne (tgt := 32) dX5_member_25 (by decide) (fun _ => ?_) (fun q => absurd q (by decide))
  refine q_iload dX5_member_32 rfl ?_
  refine q_iconst (v := nI 0) dX5_member_34 rfl ?_
  refine q_ldc dX5_member_35 wPX5_124 ?_
  refine t_callS (M' := mX5_in) [.int v, .int (nI 0), .int (65535)] [.ref o] dX5_member_37 wPX5_120 wTX5_in wNX5 iX5_in oX5_in rfl hok (eX5_in Sc _ n v (nI 0) (65535)) (Nat.le_of_ble_eq_true rfl) (Nat.le_of_ble_eq_true rfl) (Nat.le_of_ble_eq_true rfl) (Nat.le_of_ble_eq_true rfl) (Nat.le_of_ble_eq_true rfl) rfl (fun v h qv hok => ?_) (fun x h qx hok => absurd qx (by intro q; obtain ⟨_, q, _⟩ := q; cases q))
  obtain ⟨x, qx, hx⟩ := qv
  obtain rfl := Sum.inl.inj qx
  rw [e0, e65] at hx
  rcases hx with ⟨rfl, hv⟩ | ⟨rfl, hv⟩
  rotate_left
  · refine q_if_eq (tgt := 47) dX5_member_40 (by decide) (fun _ => ?_) (fun q => absurd rfl q)
    refine q_iconst (v := nI 2) dX5_member_47 rfl ?_
    exact hbad 2 h (Or.inr rfl) hok (by omega)
  refine q_if_eq (tgt := 47) dX5_member_40 (by decide) (fun q => absurd q (by decide)) (fun _ => ?_)
  refine q_iconst (v := nI 0) dX5_member_43 rfl ?_
  refine q_goto (tgt := 48) dX5_member_44 (by decide) ?_
  have hy : q_ok4 l.toInt m.toInt g.toInt v.toInt ml := ⟨by omega, by omega, by omega, by omega, by omega, by omega, by omega, by omega⟩
  refine t_putc 0 (z' := 0) kX5 (by decide) wPX5_66 rfl dX5_member_48 hok mG_o rfl ⟨rfl, rfl⟩ (fun h hok => ?_)
  replace hok := mG_setT hok
  refine q_aload_n dX5_member_51 rfl ?_
  refine t_getc 0 kX5 (by decide) wPX5_66 dX5_member_52 hok mG_o rfl ?_
  refine q_if_le (tgt := 60) dX5_member_55 (by decide) (fun _ => ?_) (fun q => absurd (by decide) q)
  obtain ⟨j, hj, rfl⟩ := q_tnat (by omega) hy.1 hy.2.1
  obtain ⟨k, hk, rfl⟩ := q_tnat (B := 6) (by omega) hy.2.2.1 hy.2.2.2.1
  obtain ⟨i, hi, rfl⟩ := q_tnat (B := 8) (by omega) hy.2.2.2.2.1 hy.2.2.2.2.2.1
  have hx192 : 48 * j + 8 * k + i < 192 := by omega
  refine q_bipush (v := nI 48) dX5_member_60 rfl ?_
  refine q_iload_n dX5_member_62 rfl ?_
  refine t_imul_n dX5_member_63 ?_
  refine q_bipush (v := nI 8) dX5_member_64 rfl ?_
  refine q_iload_n dX5_member_66 rfl ?_
  refine t_imul_n dX5_member_67 ?_
  refine t_iadd_n dX5_member_68 ?_
  refine q_iload_n dX5_member_69 rfl ?_
  refine t_iadd_n dX5_member_70 ?_
  refine t_istore [.ref o, .int (nI j), .int (nI k), .int (nI i), .int ex, .int v, .int (nI (48 * j + 8 * k + i)), .retAddr 0, .retAddr 0, .retAddr 0, .retAddr 0, .retAddr 0, .retAddr 0] (Or.inr ⟨rfl, dX5_member_71⟩) (by decide) rfl ?_
  refine q_aload_n dX5_member_73 rfl ?_
  refine t_getr 12 kX5 (by decide) wPX5_40 dX5_member_74 hok mG_o rfl ?_
  refine q_iload dX5_member_77 rfl ?_
  refine x_zald (by decide) dX5_member_79 hok ((mG_ne (by omega)).trans hE.1) hx192 ?_
  refine t_istore [.ref o, .int (nI j), .int (nI k), .int (nI i), .int ex, .int v, .int (nI (48 * j + 8 * k + i)), .int (e (48 * j + 8 * k + i)), .retAddr 0, .retAddr 0, .retAddr 0, .retAddr 0, .retAddr 0] (Or.inr ⟨rfl, dX5_member_80⟩) (by decide) rfl ?_
  refine q_aload_n dX5_member_82 rfl ?_
  refine t_getr 13 kX5 (by decide) wPX5_44 dX5_member_83 hok mG_o rfl ?_
  refine q_iload dX5_member_86 rfl ?_
  refine x_iald (by decide) dX5_member_88 hok ((mG_ne (by omega)).trans hE.2) hx192 ?_
  refine t_istore [.ref o, .int (nI j), .int (nI k), .int (nI i), .int ex, .int v, .int (nI (48 * j + 8 * k + i)), .int (e (48 * j + 8 * k + i)), .int (f (48 * j + 8 * k + i)), .retAddr 0, .retAddr 0, .retAddr 0, .retAddr 0] (Or.inr ⟨rfl, dX5_member_89⟩) (by decide) rfl ?_
  refine q_aload_n dX5_member_91 rfl ?_
  refine t_getr 12 kX5 (by decide) wPX5_40 dX5_member_92 hok mG_o rfl ?_
  refine q_iload dX5_member_95 rfl ?_
  refine q_iload dX5_member_97 rfl ?_
  refine x_zast (by decide) dX5_member_99 hok ((mG_ne (by omega)).trans hE.1) hx192 hex.vp (fun h hok => ?_)
  have hok := mG_gs (by omega) hok
  refine q_aload_n dX5_member_100 rfl ?_
  refine t_getr 13 kX5 (by decide) wPX5_44 dX5_member_101 hok mG_o rfl ?_
  refine q_iload dX5_member_104 rfl ?_
  refine q_iload dX5_member_106 rfl ?_
  refine x_iast (by decide) dX5_member_108 hok ((mG_ne (by omega)).trans ((gs_ne (by omega)).trans hE.2)) hx192 (fun h hok => ?_)
  have hok := mG_gs (by omega) hok
  refine q_weak [.ref o, .int (nI j), .retAddr 0, .int (nI i), .int ex, .int v, .retAddr 0, .int (e (48 * j + 8 * k + i)), .int (f (48 * j + 8 * k + i)), .retAddr 0, .retAddr 0, .retAddr 0, .retAddr 0] ⟨Or.inl rfl, Or.inl rfl, Or.inr ⟨0, rfl⟩, Or.inl rfl, Or.inl rfl, Or.inl rfl, Or.inr ⟨0, rfl⟩, Or.inl rfl, Or.inl rfl, Or.inl rfl, Or.inl rfl, Or.inl rfl, Or.inl rfl, trivial⟩ ?_
  refine q_mono (fun O h' n' hq => ?_) (sX5_m109 Sc _ n o ml 0 s (mB_gs (Or.inr (Or.inl rfl)) (mB_gs (Or.inl rfl) hB)) hml hs j (by omega) i hi ex hex v (e (48 * j + 8 * k + i)) (f (48 * j + 8 * k + i)) h hok)
  obtain ⟨th', s', ⟨h1, h2⟩, h3, h4⟩ := hq
  exact ⟨th', s', h1, by omega, by rw [q_mf_yes (by omega) (by omega) (by omega) hy, q_mf_yes (by omega) (by omega) (by omega) hy]; exact h3, h4⟩

