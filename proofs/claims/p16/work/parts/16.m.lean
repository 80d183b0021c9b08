def vX2_wants (i : Nat) (a1 : Nat) (a2 : Int32) (V : q_V) : Int32 := if (vX4_holds (V (i + 1) a1) a2 V) = (V (i + 2) a1) then ((nI 0)) else ((nI 1))
set_option maxRecDepth 20000 in
set_option maxHeartbeats 4000000 in
theorem eX2_wants (Sc : q_S) (Γ : Nat → q_K) (n : Nat) (V : q_V) (i : Nat) (H : sMb Γ i) (a1 : Nat) (b1 : a1 < 8) (a2 : Int32) : q_fn Sc Γ mX2_wants [.ref i, .int (nI a1), .int (a2)] n V (some (.int (vX2_wants i a1 a2 V))) V := by
  refine q_fn.of fun Q h hQ hok => ?_
  show q_A Sc mX2_wants 0 [.ref i, .int (nI a1), .int (a2)] [] h n 0 0 Q
  refine q_aload_n dX2_wants_0 rfl ?_
  refine v_getr 0 kX2 (by decide) wPX2_9 dX2_wants_1 hok H.1 rfl ?_
  refine q_iload_n dX2_wants_4 rfl ?_
  refine v_iald (by decide) dX2_wants_5 hok H.2.1 (j := a1) (by omega) ?_
  refine q_iload_n dX2_wants_6 rfl ?_
  refine v_callS (M' := mX4_holds) [.int (V (i + 1) a1), .int (a2)] [] dX2_wants_7 wPX2_19 wTX4_holds wNX4 iX4_holds oX4_holds rfl hok (eX4_holds Sc Γ n V (V (i + 1) a1) a2) (Nat.le_of_ble_eq_true rfl) (Nat.le_of_ble_eq_true rfl) (Nat.le_of_ble_eq_true rfl) rfl (fun h hok => ?_)
  refine q_aload_n dX2_wants_10 rfl ?_
  refine v_getr 1 kX2 (by decide) wPX2_15 dX2_wants_11 hok H.1 rfl ?_
  refine q_iload_n dX2_wants_14 rfl ?_
  refine v_zald (by decide) dX2_wants_15 hok H.2.2 (j := a1) (by omega) ?_
  refine q_icmp_eq (tgt := 23) dX2_wants_16 (by decide) (fun c362 => ?_) (fun c362 => ?_)
  ·
    refine q_iconst (v := nI 0) dX2_wants_23 rfl ?_
    exact q_iret dX2_wants_24 rfl (rfl) (hQ _ _ (by dsimp only [vX2_wants]; rw [if_pos c362]) (hok))
  ·
    refine q_iconst (v := nI 1) dX2_wants_19 rfl ?_
    refine q_goto (tgt := 24) dX2_wants_20 (by decide) ?_
    exact q_iret dX2_wants_24 rfl (rfl) (hQ _ _ (by dsimp only [vX2_wants]; rw [if_neg c362]) (hok))
theorem bX2_wants (i : Nat) (a1 : Nat) (a2 : Int32) (V : q_V) : q_bl (vX2_wants i a1 a2 V) := by
  dsimp only [vX2_wants]
  repeat' split
  all_goals first | exact Or.inl rfl | exact Or.inr rfl
def frc (X many : Nat) (x2 : Int32) (V : q_V) : q_V := let B363 := fun (k363 : Nat) (s363 : Int32) => let g363a := s363; vJ9_min_7cf53 g363a (V (X + 2 + 37 * k363) 7) V; let T363 := lp B363 many 0 x2; let V366 := vset V (X + 2 + 37 * many) 5 ((V (X + 2 + 37 * many) 5) + (T363)); let B367 := fun (k367 : Nat) (s367 : q_V) => let W367 := s367; let V369 := fX1_runClock (X + 2 + 37 * k367) (X + 2 + 37 * many) T363 W367; V369; let T367 := lp B367 many 0 V366; T367
def vrc (X many : Nat) (x2 : Int32) (V : q_V) : Int32 := let B363 := fun (k363 : Nat) (s363 : Int32) => let g363a := s363; vJ9_min_7cf53 g363a (V (X + 2 + 37 * k363) 7) V; let T363 := lp B363 many 0 x2; let V366 := vset V (X + 2 + 37 * many) 5 ((V (X + 2 + 37 * many) 5) + (T363)); let B367 := fun (k367 : Nat) (s367 : q_V) => let W367 := s367; let V369 := fX1_runClock (X + 2 + 37 * k367) (X + 2 + 37 * many) T363 W367; V369; let T367 := lp B367 many 0 V366; (x2) - (T363)
set_option maxHeartbeats 4000000 in
theorem krc (Sc : q_S) (Γ : Nat → q_K) (n : Nat) (V : q_V) (X many : Nat) (H : sGF Γ X many) (hm1 : 1 ≤ many) (hm4 : many ≤ 4) (m k : Nat) (x2 : Int32) {kc ks : Nat} {Q : q_O → q_H → Nat → Prop} {h : q_H} (hQ : ∀ h', q_ok (gX Γ (frc X many x2 V)) h' → q_A Sc mX4_runClocks 106 [.ref X, .int (nI m), .int (vrc X many x2 V), .int (nI k), .retAddr 0, .retAddr 0] [] h' n kc ks Q) (hok : q_ok (gX Γ V) h) : q_A Sc mX4_runClocks 13 [.ref X, .int (nI m), .int (x2), .int (nI k), .retAddr 0, .retAddr 0] [] h n kc ks Q := by
  refine q_iload_n dX4_runClocks_13 rfl ?_
  refine t_istore [.ref X, .int (nI m), .int (x2), .int (nI k), .int (x2), .retAddr 0] (Or.inr ⟨rfl, dX4_runClocks_14⟩) (by decide) rfl ?_
  refine q_iconst (v := nI 0) dX4_runClocks_16 rfl ?_
  refine t_istore [.ref X, .int (nI m), .int (x2), .int (nI k), .int (x2), .int (nI 0)] (Or.inr ⟨rfl, dX4_runClocks_17⟩) (by decide) rfl ?_
  obtain ⟨B363, hB363⟩ : ∃ B_ : Nat → Int32 → Int32, B_ = (fun (k363 : Nat) (s363 : Int32) => let g363a := s363; vJ9_min_7cf53 g363a (V (X + 2 + 37 * k363) 7) V) := ⟨_, rfl⟩
  have hl363 : ∀ (d363 k363 : Nat) (g363a : Int32) (h : q_H), k363 + d363 = many → lp B363 d363 k363 g363a = (lp B363 many 0 x2) → q_ok (gX Γ V) h → q_A Sc mX4_runClocks 19 [.ref X, .int (nI m), .int (x2), .int (nI k), .int (g363a), .int (nI k363)] [] h n kc ks Q := by
    intro d363
    induction d363 with
    | zero =>
      intro k363 g363a h e363 hT363 hok
      have hT363 : g363a = (lp B363 many 0 x2) := hT363
      subst hT363
      refine q_iload dX4_runClocks_19 rfl ?_
      refine q_aload_n dX4_runClocks_21 rfl ?_
      refine v_getr 0 kX4 (by decide) wPX4_20 dX4_runClocks_22 hok H.1 rfl ?_
      refine v_alen dX4_runClocks_25 hok H.2.1 rfl rg_len ?_
      refine t_icmp_ge_n (tgt := 52) (by omega) (by omega) dX4_runClocks_26 (by decide) (fun c365 => ?_) (fun c365 => ?_)
      rotate_left
      · exact absurd c365 (by omega)
      refine q_aload_n dX4_runClocks_52 rfl ?_
      refine v_getr 1 kX4 (by decide) wPX4_30 dX4_runClocks_53 hok H.1 rfl ?_
      refine q_dup dX4_runClocks_56 rfl ?_
      refine v_geti 5 kX3 (by decide) wPX4_138 dX4_runClocks_57 hok H.2.2.2.1 rfl ?_
      refine q_iload dX4_runClocks_60 rfl ?_
      refine q_iadd dX4_runClocks_62 ?_
      refine v_puti 5 kX3 (by decide) wPX4_138 rfl dX4_runClocks_63 hok H.2.2.2.1 rfl ⟨rfl, rfl⟩ (fun h hok => ?_)
      refine q_iconst (v := nI 0) dX4_runClocks_66 rfl ?_
      refine t_istore [.ref X, .int (nI m), .int (x2), .int (nI k), .int ((lp B363 many 0 x2)), .int (nI 0)] (Or.inr ⟨rfl, dX4_runClocks_67⟩) (by decide) rfl ?_
      obtain ⟨B367, hB367⟩ : ∃ B_ : Nat → q_V → q_V, B_ = (fun (k367 : Nat) (s367 : q_V) => let W367 := s367; (fX1_runClock (X + 2 + 37 * k367) (X + 2 + 37 * many) (lp B363 many 0 x2) W367)) := ⟨_, rfl⟩
      have hl367 : ∀ (d367 k367 : Nat) (W367 : q_V) (h : q_H), k367 + d367 = many → lp B367 d367 k367 W367 = (lp B367 many 0 (vset V (X + 2 + 37 * many) 5 ((V (X + 2 + 37 * many) 5) + ((lp B363 many 0 x2))))) → q_ok (gX Γ W367) h → q_A Sc mX4_runClocks 69 [.ref X, .int (nI m), .int (x2), .int (nI k), .int ((lp B363 many 0 x2)), .int (nI k367)] [] h n kc ks Q := by
        intro d367
        induction d367 with
        | zero =>
          intro k367  W367 h e367 hT367 hok
          have hT367 : W367 = (lp B367 many 0 (vset V (X + 2 + 37 * many) 5 ((V (X + 2 + 37 * many) 5) + ((lp B363 many 0 x2))))) := hT367
          subst hT367
          refine q_iload dX4_runClocks_69 rfl ?_
          refine q_aload_n dX4_runClocks_71 rfl ?_
          refine v_getr 0 kX4 (by decide) wPX4_20 dX4_runClocks_72 hok H.1 rfl ?_
          refine v_alen dX4_runClocks_75 hok H.2.1 rfl rg_len ?_
          refine t_icmp_ge_n (tgt := 101) (by omega) (by omega) dX4_runClocks_76 (by decide) (fun c370 => ?_) (fun c370 => ?_)
          rotate_left
          · exact absurd c370 (by omega)
          refine q_iload_n dX4_runClocks_101 rfl ?_
          refine q_iload dX4_runClocks_102 rfl ?_
          refine q_isub dX4_runClocks_104 ?_
          refine t_istore [.ref X, .int (nI m), .int ((x2) - ((lp B363 many 0 x2))), .int (nI k), .int ((lp B363 many 0 x2)), .int (nI k367)] (Or.inl ⟨2, rfl, rfl, dX4_runClocks_105⟩) (by decide) rfl ?_
          refine q_weak [.ref X, .int (nI m), .int ((x2) - ((lp B363 many 0 x2))), .int (nI k), .retAddr 0, .retAddr 0] ⟨Or.inl rfl, Or.inl rfl, Or.inl rfl, Or.inl rfl, Or.inr ⟨0, rfl⟩, Or.inr ⟨0, rfl⟩, trivial⟩ ?_
          subst hB367
          subst hB363
          dsimp only [vrc, frc] at hQ
          exact hQ h hok
        | succ d367 ih367 =>
          intro k367  W367 h e367 hT367 hok
          refine q_iload dX4_runClocks_69 rfl ?_
          refine q_aload_n dX4_runClocks_71 rfl ?_
          refine v_getr 0 kX4 (by decide) wPX4_20 dX4_runClocks_72 hok H.1 rfl ?_
          refine v_alen dX4_runClocks_75 hok H.2.1 rfl rg_len ?_
          refine t_icmp_ge_n (tgt := 101) (by omega) (by omega) dX4_runClocks_76 (by decide) (fun c368 => ?_) (fun c368 => ?_)
          · exact absurd c368 (by omega)
          refine q_aload_n dX4_runClocks_79 rfl ?_
          refine v_getr 0 kX4 (by decide) wPX4_20 dX4_runClocks_80 hok H.1 rfl ?_
          refine q_iload dX4_runClocks_83 rfl ?_
          refine v_aald (j := k367) (z := X + 2 + 37 * k367) "GroupFilters$Link" dX4_runClocks_85 hok H.2.1 rfl (rg_at (by omega)) (by rw [rg_len]; omega) ?_
          refine q_aload_n dX4_runClocks_86 rfl ?_
          refine v_getr 1 kX4 (by decide) wPX4_30 dX4_runClocks_87 hok H.1 rfl ?_
          refine q_iload dX4_runClocks_90 rfl ?_
          refine v_callV (M' := mX1_runClock) [.ref (X + 2 + 37 * many), .int ((lp B363 many 0 x2))] [] kX1 dX4_runClocks_92 wPX4_141v wIX1_runClock wSX1_runClock iX1_runClock oX1_runClock rfl hok (H.2.2.1 k367 (by omega)).1 (eX1_runClock Sc Γ n W367 (X + 2 + 37 * k367) (H.2.2.1 k367 (by omega)) (X + 2 + 37 * many) H.2.2.2 (lp B363 many 0 x2)) (Nat.le_of_ble_eq_true rfl) (Nat.le_of_ble_eq_true rfl) (Nat.le_of_ble_eq_true rfl) rfl (fun h hok => ?_)
          refine t_iinc_n [.ref X, .int (nI m), .int (x2), .int (nI k), .int ((lp B363 many 0 x2)), .int (nI (k367 + 1))] dX4_runClocks_95 rfl (by decide) rfl ?_
          refine q_goto (tgt := 69) dX4_runClocks_98 (by decide) ?_
          exact ih367 (k367 + 1) ((fX1_runClock (X + 2 + 37 * k367) (X + 2 + 37 * many) (lp B363 many 0 x2) W367)) h (by omega) ((congrArg (lp B367 d367 (k367 + 1)) (show (fX1_runClock (X + 2 + 37 * k367) (X + 2 + 37 * many) (lp B363 many 0 x2) W367) = B367 k367 W367 from by rw [hB367] <;> dsimp only)).trans hT367) hok
      exact hl367 many 0  ((vset V (X + 2 + 37 * many) 5 ((V (X + 2 + 37 * many) 5) + ((lp B363 many 0 x2))))) h (by omega) rfl hok
    | succ d363 ih363 =>
      intro k363 g363a h e363 hT363 hok
      refine q_iload dX4_runClocks_19 rfl ?_
      refine q_aload_n dX4_runClocks_21 rfl ?_
      refine v_getr 0 kX4 (by decide) wPX4_20 dX4_runClocks_22 hok H.1 rfl ?_
      refine v_alen dX4_runClocks_25 hok H.2.1 rfl rg_len ?_
      refine t_icmp_ge_n (tgt := 52) (by omega) (by omega) dX4_runClocks_26 (by decide) (fun c364 => ?_) (fun c364 => ?_)
      · exact absurd c364 (by omega)
      refine q_iload dX4_runClocks_29 rfl ?_
      refine q_aload_n dX4_runClocks_31 rfl ?_
      refine v_getr 0 kX4 (by decide) wPX4_20 dX4_runClocks_32 hok H.1 rfl ?_
      refine q_iload dX4_runClocks_35 rfl ?_
      refine v_aald (j := k363) (z := X + 2 + 37 * k363) "GroupFilters$Link" dX4_runClocks_37 hok H.2.1 rfl (rg_at (by omega)) (by rw [rg_len]; omega) ?_
      refine v_geti 7 kX1 (by decide) wPX4_128 dX4_runClocks_38 hok (H.2.2.1 k363 (by omega)).1 rfl ?_
      refine v_callS (M' := mJ9_min_7cf53) [.int (g363a), .int (V (X + 2 + 37 * k363) 7)] [] dX4_runClocks_41 wPX4_9 wTJ9_min_7cf53 wNJ9 iJ9_min_7cf53 oJ9_min_7cf53 rfl hok (eJ9_min_7cf53 Sc Γ n V g363a (V (X + 2 + 37 * k363) 7)) (Nat.le_of_ble_eq_true rfl) (Nat.le_of_ble_eq_true rfl) (Nat.le_of_ble_eq_true rfl) rfl (fun h hok => ?_)
      refine t_istore [.ref X, .int (nI m), .int (x2), .int (nI k), .int (vJ9_min_7cf53 g363a (V (X + 2 + 37 * k363) 7) V), .int (nI k363)] (Or.inr ⟨rfl, dX4_runClocks_44⟩) (by decide) rfl ?_
      refine t_iinc_n [.ref X, .int (nI m), .int (x2), .int (nI k), .int (vJ9_min_7cf53 g363a (V (X + 2 + 37 * k363) 7) V), .int (nI (k363 + 1))] dX4_runClocks_46 rfl (by decide) rfl ?_
      refine q_goto (tgt := 19) dX4_runClocks_49 (by decide) ?_
      exact ih363 (k363 + 1) (vJ9_min_7cf53 g363a (V (X + 2 + 37 * k363) 7) V) h (by omega) ((congrArg (lp B363 d363 (k363 + 1)) (show vJ9_min_7cf53 g363a (V (X + 2 + 37 * k363) 7) V = B363 k363 g363a from by rw [hB363] <;> dsimp only)).trans hT363) hok
  exact hl363 many 0 x2 h (by omega) rfl hok
def rcL (X many : Nat) : Nat → Int32 → q_V → q_V
  | 0, _, V => V
  | d + 1, x2, V => if x2 ≤ 0 then V else rcL X many d (vrc X many x2 V) (frc X many x2 V)
theorem eX4_runClocks (Sc : q_S) (Γ : Nat → q_K) (n : Nat) (V : q_V) (X many : Nat) (H : sGF Γ X many) (hm1 : 1 ≤ many) (hm4 : many ≤ 4) (m : Nat) (hm : m < 2001) : q_fn Sc Γ mX4_runClocks [.ref X, .int (nI m)] n V none (rcL X many m (nI m) V) := by
  refine q_fn.of fun Q h hQ hok => ?_
  show q_A Sc mX4_runClocks 0 [.ref X, .int (nI m), .retAddr 0, .retAddr 0, .retAddr 0, .retAddr 0] [] h n 0 0 Q
  have hl : ∀ (d k : Nat) (x2 : Int32) (W : q_V) (h : q_H), k + d = m → rcL X many d x2 W = rcL X many m (nI m) V → q_ok (gX Γ W) h → q_A Sc mX4_runClocks 4 [.ref X, .int (nI m), .int x2, .int (nI k), .retAddr 0, .retAddr 0] [] h n 0 0 Q := by
    intro d
    induction d with
    | zero =>
      intro k x2 W h hk hT hok
      have hT : W = rcL X many m (nI m) V := hT
      refine q_iload_n dX4_runClocks_4 rfl ?_
      refine q_iload_n dX4_runClocks_5 rfl ?_
      refine t_icmp_ge_n (tgt := 112) (by omega) (by omega) dX4_runClocks_6 (by decide) (fun c => ?_) (fun c => absurd c (by omega))
      exact q_vret dX4_runClocks_112 rfl (hQ _ _ rfl (by rw [← hT]; exact hok))
    | succ d ih =>
      intro k x2 W h hk hT hok
      refine q_iload_n dX4_runClocks_4 rfl ?_
      refine q_iload_n dX4_runClocks_5 rfl ?_
      refine t_icmp_ge_n (tgt := 112) (by omega) (by omega) dX4_runClocks_6 (by decide) (fun c => absurd c (by omega)) (fun c => ?_)
      refine q_iload_n dX4_runClocks_9 rfl ?_
      have hT : (if x2 ≤ 0 then W else rcL X many d (vrc X many x2 W) (frc X many x2 W)) = rcL X many m (nI m) V := hT
      refine q_if_le (tgt := 112) dX4_runClocks_10 (by decide) (fun c2 => ?_) (fun c2 => ?_)
      · rw [if_pos c2] at hT
        exact q_vret dX4_runClocks_112 rfl (hQ _ _ rfl (by rw [← hT]; exact hok))
      · rw [if_neg c2] at hT
        refine krc Sc Γ n W X many H hm1 hm4 m k x2 (fun h hok => ?_) hok
        refine t_iinc_n [.ref X, .int (nI m), .int (vrc X many x2 W), .int (nI (k + 1)), .retAddr 0, .retAddr 0] dX4_runClocks_106 rfl (by decide) rfl ?_
        refine q_goto (tgt := 4) dX4_runClocks_109 (by decide) ?_
        exact ih (k + 1) _ _ h (by omega) hT hok
  refine q_iload_n dX4_runClocks_0 rfl ?_
  refine t_istore [.ref X, .int (nI m), .int (nI m), .retAddr 0, .retAddr 0, .retAddr 0] (Or.inl ⟨2, rfl, rfl, dX4_runClocks_1⟩) (by decide) rfl ?_
  refine q_iconst (v := nI 0) dX4_runClocks_2 rfl ?_
  refine t_istore [.ref X, .int (nI m), .int (nI m), .int (nI 0), .retAddr 0, .retAddr 0] (Or.inl ⟨3, rfl, rfl, dX4_runClocks_3⟩) (by decide) rfl ?_
  exact hl m 0 (nI m) V h (by omega) rfl hok
theorem uX1_hasMemberFor (Sc : q_S) (Γ : Nat → q_K) (n : Nat) (V : q_V) (B : Nat) (H : sLk Γ B) (g : Nat) (hg : g < 8) (s : Int32) : q_fp Sc Γ mX1_hasMemberFor [.ref B, .int (nI g), .int s] n 0 0 V (fun O F => V = F ∧ ∃ x, O = .inl (some (.int x)) ∧ q_bl x) := by
  intro h hok
  show q_A Sc mX1_hasMemberFor 0 [.ref B, .int (nI g), .int s, .retAddr 0] [] h n 0 0 (fun O h' n' => ∃ F, (V = F ∧ ∃ x, O = .inl (some (.int x)) ∧ q_bl x) ∧ q_ok (gX Γ F) h' ∧ n' = n)
  have hl : ∀ (d m : Nat) (h : q_H), m + d = 6 → q_ok (gX Γ V) h → q_A Sc mX1_hasMemberFor 2 [.ref B, .int (nI g), .int s, .int (nI m)] [] h n 0 0 (fun O h' n' => ∃ F, (V = F ∧ ∃ x, O = .inl (some (.int x)) ∧ q_bl x) ∧ q_ok (gX Γ F) h' ∧ n' = n) := by
    intro d
    induction d with
    | zero =>
      intro m h hmd hok
      refine q_iload_n dX1_hasMemberFor_2 rfl ?_
      refine q_bipush (v := nI 6) dX1_hasMemberFor_3 rfl ?_
      refine t_icmp_ge_n (tgt := 30) (by omega) (by omega) dX1_hasMemberFor_5 (by decide) (fun c => ?_) (fun c => absurd c (by omega))
      refine q_iconst (v := nI 0) dX1_hasMemberFor_30 rfl ?_
      exact q_iret dX1_hasMemberFor_31 rfl (rfl) ⟨_, ⟨rfl, _, rfl, Or.inl rfl⟩, hok, rfl⟩
    | succ d ih =>
      intro m h hmd hok
      refine q_iload_n dX1_hasMemberFor_2 rfl ?_
      refine q_bipush (v := nI 6) dX1_hasMemberFor_3 rfl ?_
      refine t_icmp_ge_n (tgt := 30) (by omega) (by omega) dX1_hasMemberFor_5 (by decide) (fun c => absurd c (by omega)) (fun c => ?_)
      refine q_aload_n dX1_hasMemberFor_8 rfl ?_
      refine v_getr 2 kX1 (by decide) wPX1_19 dX1_hasMemberFor_9 hok H.1 rfl ?_
      refine q_iload_n dX1_hasMemberFor_12 rfl ?_
      refine v_aald (j := m) (z := B + 19 + 3 * m) "GroupFilters$Member" dX1_hasMemberFor_13 hok H.2.2.1 rfl (rg_at (by omega)) (by rw [rg_len]; omega) ?_
      refine q_iload_n dX1_hasMemberFor_14 rfl ?_
      refine q_iload_n dX1_hasMemberFor_15 rfl ?_
      refine v_callV (M' := mX2_wants) [.int (nI g), .int s] [] kX2 dX1_hasMemberFor_16 wPX1_140v wIX2_wants wSX2_wants iX2_wants oX2_wants rfl hok (H.2.2.2.2 m (by omega)).1 (eX2_wants Sc Γ n V (B + 19 + 3 * m) (H.2.2.2.2 m (by omega)) g (by omega) s) (Nat.le_of_ble_eq_true rfl) (Nat.le_of_ble_eq_true rfl) (Nat.le_of_ble_eq_true rfl) rfl (fun h hok => ?_)
      refine q_if_eq (tgt := 24) dX1_hasMemberFor_19 (by decide) (fun c2 => ?_) (fun c2 => ?_)
      · refine t_iinc_n [.ref B, .int (nI g), .int s, .int (nI (m + 1))] dX1_hasMemberFor_24 rfl (by decide) rfl ?_
        refine q_goto (tgt := 2) dX1_hasMemberFor_27 (by decide) ?_
        exact ih (m + 1) h (by omega) hok
      · refine q_iconst (v := nI 1) dX1_hasMemberFor_22 rfl ?_
        exact q_iret dX1_hasMemberFor_23 rfl (rfl) ⟨_, ⟨rfl, _, rfl, Or.inr rfl⟩, hok, rfl⟩
  refine q_iconst (v := nI 0) dX1_hasMemberFor_0 rfl ?_
  refine t_istore [.ref B, .int (nI g), .int s, .int (nI 0)] (Or.inl ⟨3, rfl, rfl, dX1_hasMemberFor_1⟩) (by decide) rfl ?_
  exact hl 6 0 h rfl hok
