theorem mG_gs {Γ : Nat → q_K} {o ml th s w : Nat} {K : q_K} {h : q_H} (hne : w ≠ o) (hok : q_ok (gset (mG Γ o ml th s) w K) h) : q_ok (mG (gset Γ w K) o ml th s) h := fun j => by
  have h1 := hok j
  by_cases hj : j = w
  · subst hj
    rw [gs_at] at h1
    rw [show mG (gset Γ j K) o ml th s j = gset Γ j K j from if_neg hne, gs_at]
    exact h1
  · rw [gs_ne hj] at h1
    by_cases ho : j = o
    · subst ho
      rw [mG_o] at h1 ⊢
      exact h1
    · rw [show mG (gset Γ w K) o ml th s j = gset Γ w K j from if_neg ho, gs_ne hj]
      rw [show mG Γ o ml th s j = Γ j from if_neg ho] at h1
      exact h1
theorem mB_gs {Γ : Nat → q_K} {o w : Nat} {K : q_K} (h : w = o + 11 ∨ w = o + 12 ∨ o + 16 < w) (hB : mB Γ o) : mB (gset Γ w K) o := ⟨(gs_ne (by omega)).trans hB.1, (gs_ne (by omega)).trans hB.2.1, (gs_ne (by omega)).trans hB.2.2.1, (gs_ne (by omega)).trans hB.2.2.2.1, (gs_ne (by omega)).trans hB.2.2.2.2.1, (gs_ne (by omega)).trans hB.2.2.2.2.2.1, (gs_ne (by omega)).trans hB.2.2.2.2.2.2.1, (gs_ne (by omega)).trans hB.2.2.2.2.2.2.2.1, (gs_ne (by omega)).trans hB.2.2.2.2.2.2.2.2.1, (gs_ne (by omega)).trans hB.2.2.2.2.2.2.2.2.2.1, trivial, trivial, (gs_ne (by omega)).trans hB.2.2.2.2.2.2.2.2.2.2.2.2.1, (gs_ne (by omega)).trans hB.2.2.2.2.2.2.2.2.2.2.2.2.2.1, (gs_ne (by omega)).trans hB.2.2.2.2.2.2.2.2.2.2.2.2.2.2.1, (gs_ne (by omega)).trans hB.2.2.2.2.2.2.2.2.2.2.2.2.2.2.2⟩
theorem gs_swE {Γ : Nat → q_K} {a b : Nat} {x x' y : q_K} (hab : a ≠ b) : gset (gset (gset Γ a x) b y) a x' = gset (gset Γ a x') b y := by
  funext j
  by_cases hj : j = b
  · subst hj
    rw [gs_ne (Ne.symm hab), gs_at, gs_at]
  · by_cases hja : j = a
    · subst hja
      rw [gs_at, gs_ne hj, gs_at]
    · rw [gs_ne hja, gs_ne hj, gs_ne hja, gs_ne hj, gs_ne hja]
theorem gs_gsE {Γ : Nat → q_K} {a : Nat} {x y : q_K} : gset (gset Γ a x) a y = gset Γ a y := by
  funext j
  by_cases hj : j = a
  · subst hj
    rw [gs_at, gs_at]
  · rw [gs_ne hj, gs_ne hj, gs_ne hj]
theorem mG_ne {Γ : Nat → q_K} {o ml th s j : Nat} (h : j ≠ o) : mG Γ o ml th s j = Γ j := if_neg h
def mE (Γ : Nat → q_K) (o : Nat) (f e : Nat → Int32) : Prop := Γ (o + 11) = (9, 0, q_rg 192 e) ∧ Γ (o + 12) = (8, 0, q_rg 192 f)
abbrev mS (Γ : Nat → q_K) (o : Nat) (f e : Nat → Int32) : Nat → q_K := gset (gset Γ (o + 11) (9, 0, q_rg 192 e)) (o + 12) (8, 0, q_rg 192 f)

set_option maxHeartbeats 4000000 in
theorem eX5_b116 (Sc : q_S) (Γ : Nat → q_K) (n o ml th s : Nat) (f e : Nat → Int32) (hE : mE Γ o f e) (h : q_H) (hok : q_ok (mG Γ o ml th s) h) : q_A Sc mX5_begin 116 [.ref o, .retAddr 0] [] h n 0 0 (fun O h' n' => O = .inl none ∧ n' = n ∧ q_ok (mG (mS Γ o z0 z0) o ml th 0) h') := by
  have hl : ∀ (d k : Nat) (F E : Nat → Int32) (h : q_H), k + d = 192 → (∀ j, j < k → F j = nI 0 ∧ E j = nI 0) → q_ok (mG (mS Γ o F E) o ml th s) h → q_A Sc mX5_begin 118 [.ref o, .int (nI k)] [] h n 0 0 (fun O h' n' => O = .inl none ∧ n' = n ∧ q_ok (mG (mS Γ o z0 z0) o ml th 0) h') := by
    intro d
    induction d with
    | zero =>
      intro k F E h hk hz hok
      refine q_iload_n dX5_begin_118 rfl ?_
      refine q_sipush (v := nI 192) dX5_begin_119 rfl ?_
      refine t_icmp_ge_n (tgt := 145) (by omega) (by omega) dX5_begin_122 (by decide) (fun c => ?_) (fun c => absurd c (by omega))
      unfold mS at hok
      rw [q_rg_cg (N := 192) (F := F) (F' := z0) (fun j hj => (hz j (by omega)).1), q_rg_cg (N := 192) (F := E) (F' := z0) (fun j hj => (hz j (by omega)).2)] at hok
      refine q_aload_n dX5_begin_145 rfl ?_
      refine q_iconst (v := nI 0) dX5_begin_146 rfl ?_
      refine t_puti 14 kX5 (by decide) wPX5_69 rfl dX5_begin_147 hok mG_o rfl ⟨rfl, rfl⟩ (fun h hok => ?_)
      refine q_aload_n dX5_begin_150 rfl ?_
      refine q_iconst (v := nI 0) dX5_begin_151 rfl ?_
      refine t_putc 15 (z' := 0) kX5 (by decide) wPX5_72 rfl dX5_begin_152 hok mG_o rfl ⟨rfl, rfl⟩ (fun h hok => ?_)
      exact q_vret dX5_begin_155 rfl ⟨rfl, rfl, mG_setS hok⟩
    | succ d ih =>
      intro k F E h hk hz hok
      refine q_iload_n dX5_begin_118 rfl ?_
      refine q_sipush (v := nI 192) dX5_begin_119 rfl ?_
      refine t_icmp_ge_n (tgt := 145) (by omega) (by omega) dX5_begin_122 (by decide) (fun c => absurd c (by omega)) (fun c => ?_)
      refine q_aload_n dX5_begin_125 rfl ?_
      refine t_getr 12 kX5 (by decide) wPX5_40 dX5_begin_126 hok mG_o rfl ?_
      refine q_iload_n dX5_begin_129 rfl ?_
      refine q_iconst (v := nI 0) dX5_begin_130 rfl ?_
      refine x_zast (by decide) dX5_begin_131 hok ((mG_ne (by omega)).trans ((gs_ne (by omega)).trans gs_at)) (show k < 192 by omega) rfl (fun h hok => ?_)
      have hok := mG_gs (by omega) hok
      rw [gs_swE (by omega)] at hok
      refine q_aload_n dX5_begin_132 rfl ?_
      refine t_getr 13 kX5 (by decide) wPX5_44 dX5_begin_133 hok mG_o rfl ?_
      refine q_iload_n dX5_begin_136 rfl ?_
      refine q_iconst (v := nI 0) dX5_begin_137 rfl ?_
      refine x_iast (by decide) dX5_begin_138 hok ((mG_ne (by omega)).trans gs_at) (show k < 192 by omega) (fun h hok => ?_)
      have hok := mG_gs (by omega) hok
      rw [gs_gsE] at hok
      refine t_iinc_n [.ref o, .int (nI (k + 1))] dX5_begin_139 rfl (by decide) rfl ?_
      refine q_goto (tgt := 118) dX5_begin_142 (by decide) ?_
      refine ih (k + 1) _ _ h (by omega) (fun j hj => ?_) hok
      by_cases hjk : j = k
      · subst hjk
        exact ⟨if_pos rfl, if_pos rfl⟩
      · exact ⟨(if_neg hjk).trans (hz j (by omega)).1, (if_neg hjk).trans (hz j (by omega)).2⟩
  refine q_iconst (v := nI 0) dX5_begin_116 rfl ?_
  refine t_istore [.ref o, .int (nI 0)] (Or.inl ⟨1, rfl, rfl, dX5_begin_117⟩) (by decide) rfl ?_
  refine hl 192 0 f e h rfl (fun j hj => absurd hj (by omega)) ?_
  have e1 : mS Γ o f e = Γ := by
    funext j
    show gset (gset Γ (o + 11) _) (o + 12) _ j = _
    by_cases h2 : j = o + 12
    · subst h2
      rw [gs_at, hE.2]
    · rw [gs_ne h2]
      by_cases h1 : j = o + 11
      · subst h1
        rw [gs_at, hE.1]
      · rw [gs_ne h1]
  rw [e1]
  exact hok

set_option maxRecDepth 20000 in
set_option maxHeartbeats 4000000 in
theorem eX5_begin (Sc : q_S) (Γ : Nat → q_K) (n o ml th s : Nat) (hB : mB Γ o) (f e : Nat → Int32) (hE : mE Γ o f e) (h : q_H) (hok : q_ok (mG Γ o ml th s) h) : q_A Sc mX5_begin 0 [.ref o, .retAddr 0] [] h n 0 0 (fun O h' n' => O = .inl none ∧ n' = n ∧ q_ok (mG (mS Γ o z0 z0) o ml th 0) h') := by
  refine q_iconst (v := nI 0) dX5_begin_0 rfl ?_
  refine t_istore [.ref o, .int (nI 0)] (Or.inl ⟨1, rfl, rfl, dX5_begin_1⟩) (by decide) rfl ?_
  have hl1461 : ∀ (d1463 k1462 : Nat) (h : q_H), k1462 + d1463 = 4 → q_ok (mG Γ o ml (th) (s)) h → q_A Sc mX5_begin 2 [.ref o, .int (nI k1462)] [] h n 0 0 (fun O h' n' => O = .inl none ∧ n' = n ∧ q_ok (mG (mS Γ o z0 z0) o ml th 0) h') := by
    intro d1463
    induction d1463 with
    | zero =>
      intro k1462  h el1461 hok
      refine q_iload_n dX5_begin_2 rfl ?_
      refine q_iconst (v := nI 4) dX5_begin_3 rfl ?_
      refine t_icmp_ge_n (tgt := 59) (by omega) (by omega) dX5_begin_4 (by decide) (fun c1464 => ?_) (fun c1464 => ?_)
      rotate_left
      · exact absurd c1464 (by omega)
      refine q_iconst (v := nI 0) dX5_begin_59 rfl ?_
      refine t_istore [.ref o, .int (nI 0)] (Or.inl ⟨1, rfl, rfl, dX5_begin_60⟩) (by decide) rfl ?_
      have hl1465 : ∀ (d1467 k1466 : Nat) (h : q_H), k1466 + d1467 = 32 → q_ok (mG Γ o ml (th) (s)) h → q_A Sc mX5_begin 61 [.ref o, .int (nI k1466)] [] h n 0 0 (fun O h' n' => O = .inl none ∧ n' = n ∧ q_ok (mG (mS Γ o z0 z0) o ml th 0) h') := by
        intro d1467
        induction d1467 with
        | zero =>
          intro k1466  h el1465 hok
          refine q_iload_n dX5_begin_61 rfl ?_
          refine q_bipush (v := nI 32) dX5_begin_62 rfl ?_
          refine t_icmp_ge_n (tgt := 87) (by omega) (by omega) dX5_begin_64 (by decide) (fun c1468 => ?_) (fun c1468 => ?_)
          rotate_left
          · exact absurd c1468 (by omega)
          refine q_iconst (v := nI 0) dX5_begin_87 rfl ?_
          refine t_istore [.ref o, .int (nI 0)] (Or.inl ⟨1, rfl, rfl, dX5_begin_88⟩) (by decide) rfl ?_
          have hl1469 : ∀ (d1471 k1470 : Nat) (h : q_H), k1470 + d1471 = 512 → q_ok (mG Γ o ml (th) (s)) h → q_A Sc mX5_begin 89 [.ref o, .int (nI k1470)] [] h n 0 0 (fun O h' n' => O = .inl none ∧ n' = n ∧ q_ok (mG (mS Γ o z0 z0) o ml th 0) h') := by
            intro d1471
            induction d1471 with
            | zero =>
              intro k1470  h el1469 hok
              refine q_iload_n dX5_begin_89 rfl ?_
              refine q_sipush (v := nI 512) dX5_begin_90 rfl ?_
              refine t_icmp_ge_n (tgt := 116) (by omega) (by omega) dX5_begin_93 (by decide) (fun c1472 => ?_) (fun c1472 => ?_)
              rotate_left
              · exact absurd c1472 (by omega)
              refine q_weak [.ref o, .retAddr 0] ⟨Or.inl rfl, Or.inr ⟨0, rfl⟩, trivial⟩ ?_
              exact eX5_b116 Sc Γ n o ml th s f e hE h hok
            | succ d1471 ihl1469 =>
              intro k1470  h el1469 hok
              refine q_iload_n dX5_begin_89 rfl ?_
              refine q_sipush (v := nI 512) dX5_begin_90 rfl ?_
              refine t_icmp_ge_n (tgt := 116) (by omega) (by omega) dX5_begin_93 (by decide) (fun c1473 => ?_) (fun c1473 => ?_)
              · exact absurd c1473 (by omega)
              refine q_aload_n dX5_begin_96 rfl ?_
              refine t_getr 10 kX5 (by decide) wPX5_34 dX5_begin_97 hok mG_o rfl ?_
              refine q_iload_n dX5_begin_100 rfl ?_
              refine q_iconst (v := nI 0) dX5_begin_101 rfl ?_
              refine t_iast dX5_begin_102 hok (mG_a8 (ml := ml) (th := th) (s := s) hB) (by exact vp_in_nI (by omega) (by omega)) (fun h hok => ?_)
              refine q_aload_n dX5_begin_103 rfl ?_
              refine t_getr 11 kX5 (by decide) wPX5_37 dX5_begin_104 hok mG_o rfl ?_
              refine q_iload_n dX5_begin_107 rfl ?_
              refine q_iconst (v := nI 0) dX5_begin_108 rfl ?_
              refine t_iast dX5_begin_109 hok (mG_a9 (ml := ml) (th := th) (s := s) hB) (by exact vp_in_nI (by omega) (by omega)) (fun h hok => ?_)
              refine t_iinc_n [.ref o, .int (nI (k1470 + 1))] dX5_begin_110 rfl (by decide) rfl ?_
              refine q_goto (tgt := 89) dX5_begin_113 (by decide) ?_
              exact ihl1469 (k1470 + 1)  h (by omega) hok
          exact hl1469 (512) 0  h (by omega) hok
        | succ d1467 ihl1465 =>
          intro k1466  h el1465 hok
          refine q_iload_n dX5_begin_61 rfl ?_
          refine q_bipush (v := nI 32) dX5_begin_62 rfl ?_
          refine t_icmp_ge_n (tgt := 87) (by omega) (by omega) dX5_begin_64 (by decide) (fun c1474 => ?_) (fun c1474 => ?_)
          · exact absurd c1474 (by omega)
          refine q_aload_n dX5_begin_67 rfl ?_
          refine t_getr 8 kX5 (by decide) wPX5_28 dX5_begin_68 hok mG_o rfl ?_
          refine q_iload_n dX5_begin_71 rfl ?_
          refine q_iconst (v := -1) dX5_begin_72 rfl ?_
          refine t_iast dX5_begin_73 hok (mG_a6 (ml := ml) (th := th) (s := s) hB) (by exact vp_in_nI (by omega) (by omega)) (fun h hok => ?_)
          refine q_aload_n dX5_begin_74 rfl ?_
          refine t_getr 9 kX5 (by decide) wPX5_31 dX5_begin_75 hok mG_o rfl ?_
          refine q_iload_n dX5_begin_78 rfl ?_
          refine q_iconst (v := nI 0) dX5_begin_79 rfl ?_
          refine t_iast dX5_begin_80 hok (mG_a7 (ml := ml) (th := th) (s := s) hB) (by exact vp_in_nI (by omega) (by omega)) (fun h hok => ?_)
          refine t_iinc_n [.ref o, .int (nI (k1466 + 1))] dX5_begin_81 rfl (by decide) rfl ?_
          refine q_goto (tgt := 61) dX5_begin_84 (by decide) ?_
          exact ihl1465 (k1466 + 1)  h (by omega) hok
      exact hl1465 (32) 0  h (by omega) hok
    | succ d1463 ihl1461 =>
      intro k1462  h el1461 hok
      refine q_iload_n dX5_begin_2 rfl ?_
      refine q_iconst (v := nI 4) dX5_begin_3 rfl ?_
      refine t_icmp_ge_n (tgt := 59) (by omega) (by omega) dX5_begin_4 (by decide) (fun c1475 => ?_) (fun c1475 => ?_)
      · exact absurd c1475 (by omega)
      refine q_aload_n dX5_begin_7 rfl ?_
      refine t_getr 2 kX5 (by decide) wPX5_7 dX5_begin_8 hok mG_o rfl ?_
      refine q_iload_n dX5_begin_11 rfl ?_
      refine q_iconst (v := nI 2) dX5_begin_12 rfl ?_
      refine t_iast dX5_begin_13 hok (mG_a0 (ml := ml) (th := th) (s := s) hB) (by exact vp_in_nI (by omega) (by omega)) (fun h hok => ?_)
      refine q_aload_n dX5_begin_14 rfl ?_
      refine t_getr 3 kX5 (by decide) wPX5_13 dX5_begin_15 hok mG_o rfl ?_
      refine q_iload_n dX5_begin_18 rfl ?_
      refine q_bipush (v := nI 20) dX5_begin_19 rfl ?_
      refine t_iast dX5_begin_21 hok (mG_a1 (ml := ml) (th := th) (s := s) hB) (by exact vp_in_nI (by omega) (by omega)) (fun h hok => ?_)
      refine q_aload_n dX5_begin_22 rfl ?_
      refine t_getr 4 kX5 (by decide) wPX5_16 dX5_begin_23 hok mG_o rfl ?_
      refine q_iload_n dX5_begin_26 rfl ?_
      refine q_iconst (v := nI 4) dX5_begin_27 rfl ?_
      refine t_iast dX5_begin_28 hok (mG_a2 (ml := ml) (th := th) (s := s) hB) (by exact vp_in_nI (by omega) (by omega)) (fun h hok => ?_)
      refine q_aload_n dX5_begin_29 rfl ?_
      refine t_getr 5 kX5 (by decide) wPX5_19 dX5_begin_30 hok mG_o rfl ?_
      refine q_iload_n dX5_begin_33 rfl ?_
      refine q_sipush (v := nI 500) dX5_begin_34 rfl ?_
      refine t_iast dX5_begin_37 hok (mG_a3 (ml := ml) (th := th) (s := s) hB) (by exact vp_in_nI (by omega) (by omega)) (fun h hok => ?_)
      refine q_aload_n dX5_begin_38 rfl ?_
      refine t_getr 6 kX5 (by decide) wPX5_22 dX5_begin_39 hok mG_o rfl ?_
      refine q_iload_n dX5_begin_42 rfl ?_
      refine q_iconst (v := nI 0) dX5_begin_43 rfl ?_
      refine t_iast dX5_begin_44 hok (mG_a4 (ml := ml) (th := th) (s := s) hB) (by exact vp_in_nI (by omega) (by omega)) (fun h hok => ?_)
      refine q_aload_n dX5_begin_45 rfl ?_
      refine t_getr 7 kX5 (by decide) wPX5_25 dX5_begin_46 hok mG_o rfl ?_
      refine q_iload_n dX5_begin_49 rfl ?_
      refine q_bipush (v := nI 20) dX5_begin_50 rfl ?_
      refine t_iast dX5_begin_52 hok (mG_a5 (ml := ml) (th := th) (s := s) hB) (by exact vp_in_nI (by omega) (by omega)) (fun h hok => ?_)
      refine t_iinc_n [.ref o, .int (nI (k1462 + 1))] dX5_begin_53 rfl (by decide) rfl ?_
      refine q_goto (tgt := 2) dX5_begin_56 (by decide) ?_
      exact ihl1461 (k1462 + 1)  h (by omega) hok
  exact hl1461 (4) 0  h (by omega) hok
theorem eX5_clear (Sc : q_S) (Γ : Nat → q_K) (n o ml th s : Nat) (hB : mB Γ o) (f e : Nat → Int32) (hE : mE Γ o f e) (h : q_H) (hok : q_ok (mG Γ o ml th s) h) : q_A Sc mX5_clear 0 [.ref o] [] h n 0 0 (fun O h' n' => O = .inl none ∧ n' = n ∧ q_ok (mG (mS Γ o z0 z0) o ml 0 0) h') := by
  refine q_aload_n dX5_clear_0 rfl ?_
  refine q_iconst (v := nI 0) dX5_clear_1 rfl ?_
  refine t_putc 0 (z' := 0) kX5 (by decide) wPX5_66 rfl dX5_clear_2 hok mG_o rfl ⟨rfl, rfl⟩ (fun h hok => ?_)
  replace hok := mG_setT hok
  refine q_aload_n dX5_clear_5 rfl ?_
  obtain ⟨fs, hf1, -⟩ := hok.o mG_o
  refine q_callV (M' := mX5_begin) [] [] kX5 dX5_clear_6 wPX5_63v wIX5_begin wSX5_begin iX5_begin oX5_begin rfl hf1 (eX5_begin Sc Γ n o ml 0 s hB f e hE h hok) (Nat.le_of_ble_eq_true rfl) (Nat.le_of_ble_eq_true rfl) (Nat.le_of_ble_eq_true rfl) (Nat.le_of_ble_eq_true rfl) (Nat.le_of_ble_eq_true rfl) rfl (fun v h n' hP => ?_) (fun x h n' hP => by cases hP.1)
  obtain ⟨ev, rfl, hok⟩ := hP
  obtain rfl := Sum.inl.inj ev
  exact q_vret dX5_clear_9 rfl ⟨rfl, rfl, hok⟩
theorem q_and1 (y : Int32) : y &&& nI 1 = 0 ∨ y &&& nI 1 = nI 1 := by
  rw [← Int32.toBitVec_inj, ← Int32.toBitVec_inj, Int32.toBitVec_and]
  show y.toBitVec &&& 1#32 = 0#32 ∨ y.toBitVec &&& 1#32 = 1#32
  rw [BitVec.and_one_eq_setWidth_ofBool_getLsbD]
  cases y.toBitVec.getLsbD 0
  · exact Or.inl rfl
  · exact Or.inr rfl

