def vX5_thrown (o ml : Nat) (V : q_V) : Int32 := (V o 0)
set_option maxRecDepth 20000 in
set_option maxHeartbeats 4000000 in
theorem eX5_thrown (Sc : q_S) (Γ : Nat → q_K) (n : Nat) (V : q_V) (o ml : Nat) (H : sM Γ o ml) (hm1 : 1 ≤ ml) (hml : ml ≤ 4) : q_fn Sc Γ mX5_thrown [.ref o] n V (some (.int (vX5_thrown o ml V))) V := by
  refine q_fn.of fun Q h hQ hok => ?_
  show q_A Sc mX5_thrown 0 [.ref o] [] h n 0 0 Q
  refine q_aload_n dX5_thrown_0 rfl ?_
  refine v_geti 0 kX5 (by decide) wPX5_66 dX5_thrown_1 hok H.1 rfl ?_
  exact q_iret dX5_thrown_4 rfl (rfl) (hQ _ _ (by dsimp only [vX5_thrown]) (hok))
def fX5_sent (o ml : Nat) (V : q_V) : q_V := let V442 := vset V o 0 (nI 0); V442
def vX5_sent (o ml : Nat) (V : q_V) : Int32 := let V442 := vset V o 0 (nI 0); (V442 o 15)
set_option maxRecDepth 20000 in
set_option maxHeartbeats 4000000 in
theorem eX5_sent (Sc : q_S) (Γ : Nat → q_K) (n : Nat) (V : q_V) (o ml : Nat) (H : sM Γ o ml) (hm1 : 1 ≤ ml) (hml : ml ≤ 4) : q_fn Sc Γ mX5_sent [.ref o] n V (some (.int (vX5_sent o ml V))) (fX5_sent o ml V) := by
  refine q_fn.of fun Q h hQ hok => ?_
  show q_A Sc mX5_sent 0 [.ref o] [] h n 0 0 Q
  refine q_aload_n dX5_sent_0 rfl ?_
  refine q_iconst (v := nI 0) dX5_sent_1 rfl ?_
  refine v_puti 0 kX5 (by decide) wPX5_66 rfl dX5_sent_2 hok H.1 rfl ⟨rfl, rfl⟩ (fun h hok => ?_)
  refine q_aload_n dX5_sent_5 rfl ?_
  refine v_geti 15 kX5 (by decide) wPX5_72 dX5_sent_6 hok H.1 rfl ?_
  exact q_iret dX5_sent_9 rfl (rfl) (hQ _ _ (by dsimp only [vX5_sent]) (by dsimp only [fX5_sent]; exact hok))
def fX5_begin (o ml : Nat) (V : q_V) : q_V := let B443 := fun (k443 : Nat) (s443 : q_V) => let W443 := s443; let V445 := vset W443 (o + 1) k443 (nI 2); let V446 := vset V445 (o + 2) k443 (nI 20); let V447 := vset V446 (o + 3) k443 (nI 4); let V448 := vset V447 (o + 4) k443 (nI 500); let V449 := vset V448 (o + 5) k443 (nI 0); let V450 := vset V449 (o + 6) k443 (nI 20); V450; let T443 := lp B443 4 0 V; let B452 := fun (k452 : Nat) (s452 : q_V) => let W452 := s452; let V454 := vset W452 (o + 7) k452 (-1); let V455 := vset V454 (o + 8) k452 (nI 0); V455; let T452 := lp B452 32 0 T443; let B457 := fun (k457 : Nat) (s457 : q_V) => let W457 := s457; let V459 := vset W457 (o + 9) k457 (nI 0); let V460 := vset V459 (o + 10) k457 (nI 0); V460; let T457 := lp B457 512 0 T452; let B462 := fun (k462 : Nat) (s462 : q_V) => let W462 := s462; let V464 := vset W462 (o + 11) k462 (nI 0); let V465 := vset V464 (o + 12) k462 (nI 0); V465; let T462 := lp B462 192 0 T457; let V467 := vset T462 o 14 (nI 0); let V468 := vset V467 o 15 (nI 0); V468
set_option maxRecDepth 20000 in
set_option maxHeartbeats 4000000 in
theorem eX5_begin (Sc : q_S) (Γ : Nat → q_K) (n : Nat) (V : q_V) (o ml : Nat) (H : sM Γ o ml) (hm1 : 1 ≤ ml) (hml : ml ≤ 4) : q_fn Sc Γ mX5_begin [.ref o] n V none (fX5_begin o ml V) := by
  refine q_fn.of fun Q h hQ hok => ?_
  show q_A Sc mX5_begin 0 [.ref o, .retAddr 0] [] h n 0 0 Q
  refine q_iconst (v := nI 0) dX5_begin_0 rfl ?_
  refine t_istore [.ref o, .int (nI 0)] (Or.inl ⟨1, rfl, rfl, dX5_begin_1⟩) (by decide) rfl ?_
  obtain ⟨B443, hB443⟩ : ∃ B_ : Nat → q_V → q_V, B_ = (fun (k443 : Nat) (s443 : q_V) => let W443 := s443; (vset (vset (vset (vset (vset (vset W443 (o + 1) k443 (nI 2)) (o + 2) k443 (nI 20)) (o + 3) k443 (nI 4)) (o + 4) k443 (nI 500)) (o + 5) k443 (nI 0)) (o + 6) k443 (nI 20))) := ⟨_, rfl⟩
  have hl443 : ∀ (d443 k443 : Nat) (W443 : q_V) (h : q_H), k443 + d443 = 4 → lp B443 d443 k443 W443 = (lp B443 4 0 V) → q_ok (gX Γ W443) h → q_A Sc mX5_begin 2 [.ref o, .int (nI k443)] [] h n 0 0 Q := by
    intro d443
    induction d443 with
    | zero =>
      intro k443  W443 h e443 hT443 hok
      have hT443 : W443 = (lp B443 4 0 V) := hT443
      subst hT443
      refine q_iload_n dX5_begin_2 rfl ?_
      refine q_iconst (v := nI 4) dX5_begin_3 rfl ?_
      refine t_icmp_ge_n (tgt := 59) (by omega) (by omega) dX5_begin_4 (by decide) (fun c451 => ?_) (fun c451 => ?_)
      rotate_left
      · exact absurd c451 (by omega)
      refine q_iconst (v := nI 0) dX5_begin_59 rfl ?_
      refine t_istore [.ref o, .int (nI 0)] (Or.inl ⟨1, rfl, rfl, dX5_begin_60⟩) (by decide) rfl ?_
      obtain ⟨B452, hB452⟩ : ∃ B_ : Nat → q_V → q_V, B_ = (fun (k452 : Nat) (s452 : q_V) => let W452 := s452; (vset (vset W452 (o + 7) k452 (-1)) (o + 8) k452 (nI 0))) := ⟨_, rfl⟩
      have hl452 : ∀ (d452 k452 : Nat) (W452 : q_V) (h : q_H), k452 + d452 = 32 → lp B452 d452 k452 W452 = (lp B452 32 0 (lp B443 4 0 V)) → q_ok (gX Γ W452) h → q_A Sc mX5_begin 61 [.ref o, .int (nI k452)] [] h n 0 0 Q := by
        intro d452
        induction d452 with
        | zero =>
          intro k452  W452 h e452 hT452 hok
          have hT452 : W452 = (lp B452 32 0 (lp B443 4 0 V)) := hT452
          subst hT452
          refine q_iload_n dX5_begin_61 rfl ?_
          refine q_bipush (v := nI 32) dX5_begin_62 rfl ?_
          refine t_icmp_ge_n (tgt := 87) (by omega) (by omega) dX5_begin_64 (by decide) (fun c456 => ?_) (fun c456 => ?_)
          rotate_left
          · exact absurd c456 (by omega)
          refine q_iconst (v := nI 0) dX5_begin_87 rfl ?_
          refine t_istore [.ref o, .int (nI 0)] (Or.inl ⟨1, rfl, rfl, dX5_begin_88⟩) (by decide) rfl ?_
          obtain ⟨B457, hB457⟩ : ∃ B_ : Nat → q_V → q_V, B_ = (fun (k457 : Nat) (s457 : q_V) => let W457 := s457; (vset (vset W457 (o + 9) k457 (nI 0)) (o + 10) k457 (nI 0))) := ⟨_, rfl⟩
          have hl457 : ∀ (d457 k457 : Nat) (W457 : q_V) (h : q_H), k457 + d457 = 512 → lp B457 d457 k457 W457 = (lp B457 512 0 (lp B452 32 0 (lp B443 4 0 V))) → q_ok (gX Γ W457) h → q_A Sc mX5_begin 89 [.ref o, .int (nI k457)] [] h n 0 0 Q := by
            intro d457
            induction d457 with
            | zero =>
              intro k457  W457 h e457 hT457 hok
              have hT457 : W457 = (lp B457 512 0 (lp B452 32 0 (lp B443 4 0 V))) := hT457
              subst hT457
              refine q_iload_n dX5_begin_89 rfl ?_
              refine q_sipush (v := nI 512) dX5_begin_90 rfl ?_
              refine t_icmp_ge_n (tgt := 116) (by omega) (by omega) dX5_begin_93 (by decide) (fun c461 => ?_) (fun c461 => ?_)
              rotate_left
              · exact absurd c461 (by omega)
              refine q_iconst (v := nI 0) dX5_begin_116 rfl ?_
              refine t_istore [.ref o, .int (nI 0)] (Or.inl ⟨1, rfl, rfl, dX5_begin_117⟩) (by decide) rfl ?_
              obtain ⟨B462, hB462⟩ : ∃ B_ : Nat → q_V → q_V, B_ = (fun (k462 : Nat) (s462 : q_V) => let W462 := s462; (vset (vset W462 (o + 11) k462 (nI 0)) (o + 12) k462 (nI 0))) := ⟨_, rfl⟩
              have hl462 : ∀ (d462 k462 : Nat) (W462 : q_V) (h : q_H), k462 + d462 = 192 → lp B462 d462 k462 W462 = (lp B462 192 0 (lp B457 512 0 (lp B452 32 0 (lp B443 4 0 V)))) → q_ok (gX Γ W462) h → q_A Sc mX5_begin 118 [.ref o, .int (nI k462)] [] h n 0 0 Q := by
                intro d462
                induction d462 with
                | zero =>
                  intro k462  W462 h e462 hT462 hok
                  have hT462 : W462 = (lp B462 192 0 (lp B457 512 0 (lp B452 32 0 (lp B443 4 0 V)))) := hT462
                  subst hT462
                  refine q_iload_n dX5_begin_118 rfl ?_
                  refine q_sipush (v := nI 192) dX5_begin_119 rfl ?_
                  refine t_icmp_ge_n (tgt := 145) (by omega) (by omega) dX5_begin_122 (by decide) (fun c466 => ?_) (fun c466 => ?_)
                  rotate_left
                  · exact absurd c466 (by omega)
                  refine q_aload_n dX5_begin_145 rfl ?_
                  refine q_iconst (v := nI 0) dX5_begin_146 rfl ?_
                  refine v_puti 14 kX5 (by decide) wPX5_69 rfl dX5_begin_147 hok H.1 rfl ⟨rfl, rfl⟩ (fun h hok => ?_)
                  refine q_aload_n dX5_begin_150 rfl ?_
                  refine q_iconst (v := nI 0) dX5_begin_151 rfl ?_
                  refine v_puti 15 kX5 (by decide) wPX5_72 rfl dX5_begin_152 hok H.1 rfl ⟨rfl, rfl⟩ (fun h hok => ?_)
                  exact q_vret dX5_begin_155 rfl (hQ _ _ (rfl) (by subst hB462; subst hB457; subst hB452; subst hB443; dsimp only [fX5_begin]; exact hok))
                | succ d462 ih462 =>
                  intro k462  W462 h e462 hT462 hok
                  refine q_iload_n dX5_begin_118 rfl ?_
                  refine q_sipush (v := nI 192) dX5_begin_119 rfl ?_
                  refine t_icmp_ge_n (tgt := 145) (by omega) (by omega) dX5_begin_122 (by decide) (fun c463 => ?_) (fun c463 => ?_)
                  · exact absurd c463 (by omega)
                  refine q_aload_n dX5_begin_125 rfl ?_
                  refine v_getr 12 kX5 (by decide) wPX5_40 dX5_begin_126 hok H.1 rfl ?_
                  refine q_iload_n dX5_begin_129 rfl ?_
                  refine q_iconst (v := nI 0) dX5_begin_130 rfl ?_
                  refine v_zast (by decide) dX5_begin_131 hok H.2.2.2.2.2.2.2.2.2.2.2.1 (j := k462) (by omega) rfl (fun h hok => ?_)
                  refine q_aload_n dX5_begin_132 rfl ?_
                  refine v_getr 13 kX5 (by decide) wPX5_44 dX5_begin_133 hok H.1 rfl ?_
                  refine q_iload_n dX5_begin_136 rfl ?_
                  refine q_iconst (v := nI 0) dX5_begin_137 rfl ?_
                  refine v_iast (by decide) dX5_begin_138 hok H.2.2.2.2.2.2.2.2.2.2.2.2.1 (j := k462) (by omega) (fun h hok => ?_)
                  refine t_iinc_n [.ref o, .int (nI (k462 + 1))] dX5_begin_139 rfl (by decide) rfl ?_
                  refine q_goto (tgt := 118) dX5_begin_142 (by decide) ?_
                  exact ih462 (k462 + 1) ((vset (vset W462 (o + 11) k462 (nI 0)) (o + 12) k462 (nI 0))) h (by omega) ((congrArg (lp B462 d462 (k462 + 1)) (show (vset (vset W462 (o + 11) k462 (nI 0)) (o + 12) k462 (nI 0)) = B462 k462 W462 from by rw [hB462] <;> dsimp only)).trans hT462) hok
              exact hl462 192 0  ((lp B457 512 0 (lp B452 32 0 (lp B443 4 0 V)))) h (by omega) rfl hok
            | succ d457 ih457 =>
              intro k457  W457 h e457 hT457 hok
              refine q_iload_n dX5_begin_89 rfl ?_
              refine q_sipush (v := nI 512) dX5_begin_90 rfl ?_
              refine t_icmp_ge_n (tgt := 116) (by omega) (by omega) dX5_begin_93 (by decide) (fun c458 => ?_) (fun c458 => ?_)
              · exact absurd c458 (by omega)
              refine q_aload_n dX5_begin_96 rfl ?_
              refine v_getr 10 kX5 (by decide) wPX5_34 dX5_begin_97 hok H.1 rfl ?_
              refine q_iload_n dX5_begin_100 rfl ?_
              refine q_iconst (v := nI 0) dX5_begin_101 rfl ?_
              refine v_iast (by decide) dX5_begin_102 hok H.2.2.2.2.2.2.2.2.2.1 (j := k457) (by omega) (fun h hok => ?_)
              refine q_aload_n dX5_begin_103 rfl ?_
              refine v_getr 11 kX5 (by decide) wPX5_37 dX5_begin_104 hok H.1 rfl ?_
              refine q_iload_n dX5_begin_107 rfl ?_
              refine q_iconst (v := nI 0) dX5_begin_108 rfl ?_
              refine v_iast (by decide) dX5_begin_109 hok H.2.2.2.2.2.2.2.2.2.2.1 (j := k457) (by omega) (fun h hok => ?_)
              refine t_iinc_n [.ref o, .int (nI (k457 + 1))] dX5_begin_110 rfl (by decide) rfl ?_
              refine q_goto (tgt := 89) dX5_begin_113 (by decide) ?_
              exact ih457 (k457 + 1) ((vset (vset W457 (o + 9) k457 (nI 0)) (o + 10) k457 (nI 0))) h (by omega) ((congrArg (lp B457 d457 (k457 + 1)) (show (vset (vset W457 (o + 9) k457 (nI 0)) (o + 10) k457 (nI 0)) = B457 k457 W457 from by rw [hB457] <;> dsimp only)).trans hT457) hok
          exact hl457 512 0  ((lp B452 32 0 (lp B443 4 0 V))) h (by omega) rfl hok
        | succ d452 ih452 =>
          intro k452  W452 h e452 hT452 hok
          refine q_iload_n dX5_begin_61 rfl ?_
          refine q_bipush (v := nI 32) dX5_begin_62 rfl ?_
          refine t_icmp_ge_n (tgt := 87) (by omega) (by omega) dX5_begin_64 (by decide) (fun c453 => ?_) (fun c453 => ?_)
          · exact absurd c453 (by omega)
          refine q_aload_n dX5_begin_67 rfl ?_
          refine v_getr 8 kX5 (by decide) wPX5_28 dX5_begin_68 hok H.1 rfl ?_
          refine q_iload_n dX5_begin_71 rfl ?_
          refine q_iconst (v := -1) dX5_begin_72 rfl ?_
          refine v_iast (by decide) dX5_begin_73 hok H.2.2.2.2.2.2.2.1 (j := k452) (by omega) (fun h hok => ?_)
          refine q_aload_n dX5_begin_74 rfl ?_
          refine v_getr 9 kX5 (by decide) wPX5_31 dX5_begin_75 hok H.1 rfl ?_
          refine q_iload_n dX5_begin_78 rfl ?_
          refine q_iconst (v := nI 0) dX5_begin_79 rfl ?_
          refine v_iast (by decide) dX5_begin_80 hok H.2.2.2.2.2.2.2.2.1 (j := k452) (by omega) (fun h hok => ?_)
          refine t_iinc_n [.ref o, .int (nI (k452 + 1))] dX5_begin_81 rfl (by decide) rfl ?_
          refine q_goto (tgt := 61) dX5_begin_84 (by decide) ?_
          exact ih452 (k452 + 1) ((vset (vset W452 (o + 7) k452 (-1)) (o + 8) k452 (nI 0))) h (by omega) ((congrArg (lp B452 d452 (k452 + 1)) (show (vset (vset W452 (o + 7) k452 (-1)) (o + 8) k452 (nI 0)) = B452 k452 W452 from by rw [hB452] <;> dsimp only)).trans hT452) hok
      exact hl452 32 0  ((lp B443 4 0 V)) h (by omega) rfl hok
    | succ d443 ih443 =>
      intro k443  W443 h e443 hT443 hok
      refine q_iload_n dX5_begin_2 rfl ?_
      refine q_iconst (v := nI 4) dX5_begin_3 rfl ?_
      refine t_icmp_ge_n (tgt := 59) (by omega) (by omega) dX5_begin_4 (by decide) (fun c444 => ?_) (fun c444 => ?_)
      · exact absurd c444 (by omega)
      refine q_aload_n dX5_begin_7 rfl ?_
      refine v_getr 2 kX5 (by decide) wPX5_7 dX5_begin_8 hok H.1 rfl ?_
      refine q_iload_n dX5_begin_11 rfl ?_
      refine q_iconst (v := nI 2) dX5_begin_12 rfl ?_
      refine v_iast (by decide) dX5_begin_13 hok H.2.1 (j := k443) (by omega) (fun h hok => ?_)
      refine q_aload_n dX5_begin_14 rfl ?_
      refine v_getr 3 kX5 (by decide) wPX5_13 dX5_begin_15 hok H.1 rfl ?_
      refine q_iload_n dX5_begin_18 rfl ?_
      refine q_bipush (v := nI 20) dX5_begin_19 rfl ?_
      refine v_iast (by decide) dX5_begin_21 hok H.2.2.1 (j := k443) (by omega) (fun h hok => ?_)
      refine q_aload_n dX5_begin_22 rfl ?_
      refine v_getr 4 kX5 (by decide) wPX5_16 dX5_begin_23 hok H.1 rfl ?_
      refine q_iload_n dX5_begin_26 rfl ?_
      refine q_iconst (v := nI 4) dX5_begin_27 rfl ?_
      refine v_iast (by decide) dX5_begin_28 hok H.2.2.2.1 (j := k443) (by omega) (fun h hok => ?_)
      refine q_aload_n dX5_begin_29 rfl ?_
      refine v_getr 5 kX5 (by decide) wPX5_19 dX5_begin_30 hok H.1 rfl ?_
      refine q_iload_n dX5_begin_33 rfl ?_
      refine q_sipush (v := nI 500) dX5_begin_34 rfl ?_
      refine v_iast (by decide) dX5_begin_37 hok H.2.2.2.2.1 (j := k443) (by omega) (fun h hok => ?_)
      refine q_aload_n dX5_begin_38 rfl ?_
      refine v_getr 6 kX5 (by decide) wPX5_22 dX5_begin_39 hok H.1 rfl ?_
      refine q_iload_n dX5_begin_42 rfl ?_
      refine q_iconst (v := nI 0) dX5_begin_43 rfl ?_
      refine v_iast (by decide) dX5_begin_44 hok H.2.2.2.2.2.1 (j := k443) (by omega) (fun h hok => ?_)
      refine q_aload_n dX5_begin_45 rfl ?_
      refine v_getr 7 kX5 (by decide) wPX5_25 dX5_begin_46 hok H.1 rfl ?_
      refine q_iload_n dX5_begin_49 rfl ?_
      refine q_bipush (v := nI 20) dX5_begin_50 rfl ?_
      refine v_iast (by decide) dX5_begin_52 hok H.2.2.2.2.2.2.1 (j := k443) (by omega) (fun h hok => ?_)
      refine t_iinc_n [.ref o, .int (nI (k443 + 1))] dX5_begin_53 rfl (by decide) rfl ?_
      refine q_goto (tgt := 2) dX5_begin_56 (by decide) ?_
      exact ih443 (k443 + 1) ((vset (vset (vset (vset (vset (vset W443 (o + 1) k443 (nI 2)) (o + 2) k443 (nI 20)) (o + 3) k443 (nI 4)) (o + 4) k443 (nI 500)) (o + 5) k443 (nI 0)) (o + 6) k443 (nI 20))) h (by omega) ((congrArg (lp B443 d443 (k443 + 1)) (show (vset (vset (vset (vset (vset (vset W443 (o + 1) k443 (nI 2)) (o + 2) k443 (nI 20)) (o + 3) k443 (nI 4)) (o + 4) k443 (nI 500)) (o + 5) k443 (nI 0)) (o + 6) k443 (nI 20)) = B443 k443 W443 from by rw [hB443] <;> dsimp only)).trans hT443) hok
  exact hl443 4 0  V h (by omega) rfl hok
def fX5_clear (o ml : Nat) (V : q_V) : q_V := let V469 := vset V o 0 (nI 0); let V470 := fX5_begin o ml V469; V470
set_option maxRecDepth 20000 in
set_option maxHeartbeats 4000000 in
theorem eX5_clear (Sc : q_S) (Γ : Nat → q_K) (n : Nat) (V : q_V) (o ml : Nat) (H : sM Γ o ml) (hm1 : 1 ≤ ml) (hml : ml ≤ 4) : q_fn Sc Γ mX5_clear [.ref o] n V none (fX5_clear o ml V) := by
  refine q_fn.of fun Q h hQ hok => ?_
  show q_A Sc mX5_clear 0 [.ref o] [] h n 0 0 Q
  refine q_aload_n dX5_clear_0 rfl ?_
  refine q_iconst (v := nI 0) dX5_clear_1 rfl ?_
  refine v_puti 0 kX5 (by decide) wPX5_66 rfl dX5_clear_2 hok H.1 rfl ⟨rfl, rfl⟩ (fun h hok => ?_)
  refine q_aload_n dX5_clear_5 rfl ?_
  refine v_callV (M' := mX5_begin) [] [] kX5 dX5_clear_6 wPX5_63v wIX5_begin wSX5_begin iX5_begin oX5_begin rfl hok H.1 (eX5_begin Sc Γ n (vset V o 0 (nI 0)) o ml H hm1 hml) (Nat.le_of_ble_eq_true rfl) (Nat.le_of_ble_eq_true rfl) (Nat.le_of_ble_eq_true rfl) rfl (fun h hok => ?_)
  exact q_vret dX5_clear_9 rfl (hQ _ _ (rfl) (by dsimp only [fX5_clear]; exact hok))
def fX5_settings (o ml : Nat) (a1 : Nat) (a2 : Int32) (a3 : Int32) (a4 : Int32) (V : q_V) : q_V := let V471 := vset V (o + 1) a1 (a2); let V472 := vset V471 (o + 2) a1 (a3); let V473 := vset V472 (o + 3) a1 (a4); let V474 := vset V473 (o + 6) a1 (a3); V474
def vX5_settings (o ml : Nat) (a1 : Nat) (a2 : Int32) (a3 : Int32) (a4 : Int32) (V : q_V) : Int32 := let V471 := vset V (o + 1) a1 (a2); let V472 := vset V471 (o + 2) a1 (a3); let V473 := vset V472 (o + 3) a1 (a4); let V474 := vset V473 (o + 6) a1 (a3); (vX5_grace o ml a1 V474)
set_option maxRecDepth 20000 in
set_option maxHeartbeats 4000000 in
theorem kX5_settings (Sc : q_S) (Γ : Nat → q_K) (n : Nat) (V : q_V) (o ml : Nat) (H : sM Γ o ml) (hm1 : 1 ≤ ml) (hml : ml ≤ 4) (a1 : Nat) (b1 : a1 < ml) (a2 : Int32) (a3 : Int32) (a4 : Int32)  {kc ks : Nat} {Q : q_O → q_H → Nat → Prop} {h : q_H} (hQ : ∀ (O : q_O) (h' : q_H), O = .inl (some (.int (vX5_settings o ml a1 a2 a3 a4 V))) → q_ok (gX Γ (fX5_settings o ml a1 a2 a3 a4 V)) h' → Q O h' n) (hok : q_ok (gX Γ V) h) : q_A Sc mX5_settings 61 [.ref o, .int (nI a1), .int (a2), .int (a3), .int (a4)] [] h n kc ks Q := by
  refine q_aload_n dX5_settings_61 rfl ?_
  refine v_getr 2 kX5 (by decide) wPX5_7 dX5_settings_62 hok H.1 rfl ?_
  refine q_iload_n dX5_settings_65 rfl ?_
  refine q_iload_n dX5_settings_66 rfl ?_
  refine v_iast (by decide) dX5_settings_67 hok H.2.1 (j := a1) (by omega) (fun h hok => ?_)
  refine q_aload_n dX5_settings_68 rfl ?_
  refine v_getr 3 kX5 (by decide) wPX5_13 dX5_settings_69 hok H.1 rfl ?_
  refine q_iload_n dX5_settings_72 rfl ?_
  refine q_iload_n dX5_settings_73 rfl ?_
  refine v_iast (by decide) dX5_settings_74 hok H.2.2.1 (j := a1) (by omega) (fun h hok => ?_)
  refine q_aload_n dX5_settings_75 rfl ?_
  refine v_getr 4 kX5 (by decide) wPX5_16 dX5_settings_76 hok H.1 rfl ?_
  refine q_iload_n dX5_settings_79 rfl ?_
  refine q_iload dX5_settings_80 rfl ?_
  refine v_iast (by decide) dX5_settings_82 hok H.2.2.2.1 (j := a1) (by omega) (fun h hok => ?_)
  refine q_aload_n dX5_settings_83 rfl ?_
  refine v_getr 7 kX5 (by decide) wPX5_25 dX5_settings_84 hok H.1 rfl ?_
  refine q_iload_n dX5_settings_87 rfl ?_
  refine q_iload_n dX5_settings_88 rfl ?_
  refine v_iast (by decide) dX5_settings_89 hok H.2.2.2.2.2.2.1 (j := a1) (by omega) (fun h hok => ?_)
  refine q_aload_n dX5_settings_90 rfl ?_
  refine q_iload_n dX5_settings_91 rfl ?_
  refine v_callV (M' := mX5_grace) [.int (nI a1)] [] kX5 dX5_settings_92 wPX5_98v wIX5_grace wSX5_grace iX5_grace oX5_grace rfl hok H.1 (eX5_grace Sc Γ n (vset (vset (vset (vset V (o + 1) a1 (a2)) (o + 2) a1 (a3)) (o + 3) a1 (a4)) (o + 6) a1 (a3)) o ml H hm1 hml a1 (by omega)) (Nat.le_of_ble_eq_true rfl) (Nat.le_of_ble_eq_true rfl) (Nat.le_of_ble_eq_true rfl) rfl (fun h hok => ?_)
  exact q_iret dX5_settings_95 rfl (rfl) (hQ _ _ (by dsimp only [vX5_settings]) (by dsimp only [fX5_settings]; exact hok))
def fX5_report_0 (o ml : Nat) (a1 : Nat) (a2 : Nat) (a4 : Int32) (V : q_V) : q_V := let V475 := fX5_reported_0 o ml a1 a2 a4 V; V475
def vX5_report_0 (o ml : Nat) (a1 : Nat) (a2 : Nat) (a4 : Int32) (V : q_V) : Int32 := let V475 := fX5_reported_0 o ml a1 a2 a4 V; (vX5_reported_0 o ml a1 a2 a4 V)
set_option maxRecDepth 20000 in
set_option maxHeartbeats 4000000 in
theorem kX5_report_0 (Sc : q_S) (Γ : Nat → q_K) (n : Nat) (V : q_V) (o ml : Nat) (H : sM Γ o ml) (hm1 : 1 ≤ ml) (hml : ml ≤ 4) (a1 : Nat) (b1 : a1 < ml) (a2 : Nat) (b2 : a2 < 8) (a4 : Int32) (b : Nat) (hb : b + 2 ≤ 2000000000) (hS : SB V o b)  {kc ks : Nat} {Q : q_O → q_H → Nat → Prop} {h : q_H} (hQ : ∀ (O : q_O) (h' : q_H), O = .inl (some (.int (vX5_report_0 o ml a1 a2 a4 V))) → q_ok (gX Γ (fX5_report_0 o ml a1 a2 a4 V)) h' → Q O h' n) (hok : q_ok (gX Γ V) h) : q_A Sc mX5_report 62 [.ref o, .int (nI a1), .int (nI a2), .int (nI 0), .int (a4)] [] h n kc ks Q := by
  refine q_aload_n dX5_report_62 rfl ?_
  refine q_iload_n dX5_report_63 rfl ?_
  refine q_iload_n dX5_report_64 rfl ?_
  refine q_iload_n dX5_report_65 rfl ?_
  refine q_iload dX5_report_66 rfl ?_
  refine v_callV (M' := mX5_reported) [.int (nI a1), .int (nI a2), .int (nI 0), .int (a4)] [] kX5 dX5_report_68 wPX5_125v wIX5_reported wSX5_reported iX5_reported oX5_reported rfl hok H.1 (eX5_reported_0 Sc Γ n V o ml H hm1 hml a1 (by omega) a2 (by omega) a4 (b) (by omega) hS) (Nat.le_of_ble_eq_true rfl) (Nat.le_of_ble_eq_true rfl) (Nat.le_of_ble_eq_true rfl) rfl (fun h hok => ?_)
  exact q_iret dX5_report_71 rfl (rfl) (hQ _ _ (by dsimp only [vX5_report_0]) (by dsimp only [fX5_report_0]; exact hok))
def fX5_report_1 (o ml : Nat) (a1 : Nat) (a2 : Nat) (a4 : Int32) (V : q_V) : q_V := let V476 := fX5_reported_1 o ml a1 a2 a4 V; V476
def vX5_report_1 (o ml : Nat) (a1 : Nat) (a2 : Nat) (a4 : Int32) (V : q_V) : Int32 := let V476 := fX5_reported_1 o ml a1 a2 a4 V; (vX5_reported_1 o ml a1 a2 a4 V)
set_option maxRecDepth 20000 in
set_option maxHeartbeats 4000000 in
theorem kX5_report_1 (Sc : q_S) (Γ : Nat → q_K) (n : Nat) (V : q_V) (o ml : Nat) (H : sM Γ o ml) (hm1 : 1 ≤ ml) (hml : ml ≤ 4) (a1 : Nat) (b1 : a1 < ml) (a2 : Nat) (b2 : a2 < 8) (a4 : Int32) (b : Nat) (hb : b + 2 ≤ 2000000000) (hS : SB V o b)  {kc ks : Nat} {Q : q_O → q_H → Nat → Prop} {h : q_H} (hQ : ∀ (O : q_O) (h' : q_H), O = .inl (some (.int (vX5_report_1 o ml a1 a2 a4 V))) → q_ok (gX Γ (fX5_report_1 o ml a1 a2 a4 V)) h' → Q O h' n) (hok : q_ok (gX Γ V) h) : q_A Sc mX5_report 62 [.ref o, .int (nI a1), .int (nI a2), .int (nI 1), .int (a4)] [] h n kc ks Q := by
  refine q_aload_n dX5_report_62 rfl ?_
  refine q_iload_n dX5_report_63 rfl ?_
  refine q_iload_n dX5_report_64 rfl ?_
  refine q_iload_n dX5_report_65 rfl ?_
  refine q_iload dX5_report_66 rfl ?_
  refine v_callV (M' := mX5_reported) [.int (nI a1), .int (nI a2), .int (nI 1), .int (a4)] [] kX5 dX5_report_68 wPX5_125v wIX5_reported wSX5_reported iX5_reported oX5_reported rfl hok H.1 (eX5_reported_1 Sc Γ n V o ml H hm1 hml a1 (by omega) a2 (by omega) a4 (b) (by omega) hS) (Nat.le_of_ble_eq_true rfl) (Nat.le_of_ble_eq_true rfl) (Nat.le_of_ble_eq_true rfl) rfl (fun h hok => ?_)
  exact q_iret dX5_report_71 rfl (rfl) (hQ _ _ (by dsimp only [vX5_report_1]) (by dsimp only [fX5_report_1]; exact hok))
def fX5_report_2 (o ml : Nat) (a1 : Nat) (a2 : Nat) (a4 : Int32) (V : q_V) : q_V := let V477 := fX5_reported_2 o ml a1 a2 a4 V; V477
def vX5_report_2 (o ml : Nat) (a1 : Nat) (a2 : Nat) (a4 : Int32) (V : q_V) : Int32 := let V477 := fX5_reported_2 o ml a1 a2 a4 V; (vX5_reported_2 o ml a1 a2 a4 V)
set_option maxRecDepth 20000 in
set_option maxHeartbeats 4000000 in
theorem kX5_report_2 (Sc : q_S) (Γ : Nat → q_K) (n : Nat) (V : q_V) (o ml : Nat) (H : sM Γ o ml) (hm1 : 1 ≤ ml) (hml : ml ≤ 4) (a1 : Nat) (b1 : a1 < ml) (a2 : Nat) (b2 : a2 < 8) (a4 : Int32) (b : Nat) (hb : b + 2 ≤ 2000000000) (hS : SB V o b)  {kc ks : Nat} {Q : q_O → q_H → Nat → Prop} {h : q_H} (hQ : ∀ (O : q_O) (h' : q_H), O = .inl (some (.int (vX5_report_2 o ml a1 a2 a4 V))) → q_ok (gX Γ (fX5_report_2 o ml a1 a2 a4 V)) h' → Q O h' n) (hok : q_ok (gX Γ V) h) : q_A Sc mX5_report 62 [.ref o, .int (nI a1), .int (nI a2), .int (nI 2), .int (a4)] [] h n kc ks Q := by
  refine q_aload_n dX5_report_62 rfl ?_
  refine q_iload_n dX5_report_63 rfl ?_
  refine q_iload_n dX5_report_64 rfl ?_
  refine q_iload_n dX5_report_65 rfl ?_
  refine q_iload dX5_report_66 rfl ?_
  refine v_callV (M' := mX5_reported) [.int (nI a1), .int (nI a2), .int (nI 2), .int (a4)] [] kX5 dX5_report_68 wPX5_125v wIX5_reported wSX5_reported iX5_reported oX5_reported rfl hok H.1 (eX5_reported_2 Sc Γ n V o ml H hm1 hml a1 (by omega) a2 (by omega) a4 (b) (by omega) hS) (Nat.le_of_ble_eq_true rfl) (Nat.le_of_ble_eq_true rfl) (Nat.le_of_ble_eq_true rfl) rfl (fun h hok => ?_)
  exact q_iret dX5_report_71 rfl (rfl) (hQ _ _ (by dsimp only [vX5_report_2]) (by dsimp only [fX5_report_2]; exact hok))
def fX5_report_3 (o ml : Nat) (a1 : Nat) (a2 : Nat) (a4 : Int32) (V : q_V) : q_V := let V478 := fX5_reported_3 o ml a1 a2 a4 V; V478
def vX5_report_3 (o ml : Nat) (a1 : Nat) (a2 : Nat) (a4 : Int32) (V : q_V) : Int32 := let V478 := fX5_reported_3 o ml a1 a2 a4 V; (vX5_reported_3 o ml a1 a2 a4 V)
set_option maxRecDepth 20000 in
set_option maxHeartbeats 4000000 in
theorem kX5_report_3 (Sc : q_S) (Γ : Nat → q_K) (n : Nat) (V : q_V) (o ml : Nat) (H : sM Γ o ml) (hm1 : 1 ≤ ml) (hml : ml ≤ 4) (a1 : Nat) (b1 : a1 < ml) (a2 : Nat) (b2 : a2 < 8) (a4 : Int32) (b : Nat) (hb : b + 2 ≤ 2000000000) (hS : SB V o b)  {kc ks : Nat} {Q : q_O → q_H → Nat → Prop} {h : q_H} (hQ : ∀ (O : q_O) (h' : q_H), O = .inl (some (.int (vX5_report_3 o ml a1 a2 a4 V))) → q_ok (gX Γ (fX5_report_3 o ml a1 a2 a4 V)) h' → Q O h' n) (hok : q_ok (gX Γ V) h) : q_A Sc mX5_report 62 [.ref o, .int (nI a1), .int (nI a2), .int (nI 3), .int (a4)] [] h n kc ks Q := by
  refine q_aload_n dX5_report_62 rfl ?_
  refine q_iload_n dX5_report_63 rfl ?_
  refine q_iload_n dX5_report_64 rfl ?_
  refine q_iload_n dX5_report_65 rfl ?_
  refine q_iload dX5_report_66 rfl ?_
  refine v_callV (M' := mX5_reported) [.int (nI a1), .int (nI a2), .int (nI 3), .int (a4)] [] kX5 dX5_report_68 wPX5_125v wIX5_reported wSX5_reported iX5_reported oX5_reported rfl hok H.1 (eX5_reported_3 Sc Γ n V o ml H hm1 hml a1 (by omega) a2 (by omega) a4 (b) (by omega) hS) (Nat.le_of_ble_eq_true rfl) (Nat.le_of_ble_eq_true rfl) (Nat.le_of_ble_eq_true rfl) rfl (fun h hok => ?_)
  exact q_iret dX5_report_71 rfl (rfl) (hQ _ _ (by dsimp only [vX5_report_3]) (by dsimp only [fX5_report_3]; exact hok))
def fX5_report_4 (o ml : Nat) (a1 : Nat) (a2 : Nat) (a4 : Int32) (V : q_V) : q_V := let V479 := fX5_reported_4 o ml a1 a2 a4 V; V479
def vX5_report_4 (o ml : Nat) (a1 : Nat) (a2 : Nat) (a4 : Int32) (V : q_V) : Int32 := let V479 := fX5_reported_4 o ml a1 a2 a4 V; (vX5_reported_4 o ml a1 a2 a4 V)
set_option maxRecDepth 20000 in
set_option maxHeartbeats 4000000 in
theorem kX5_report_4 (Sc : q_S) (Γ : Nat → q_K) (n : Nat) (V : q_V) (o ml : Nat) (H : sM Γ o ml) (hm1 : 1 ≤ ml) (hml : ml ≤ 4) (a1 : Nat) (b1 : a1 < ml) (a2 : Nat) (b2 : a2 < 8) (a4 : Int32) (b : Nat) (hb : b + 2 ≤ 2000000000) (hS : SB V o b)  {kc ks : Nat} {Q : q_O → q_H → Nat → Prop} {h : q_H} (hQ : ∀ (O : q_O) (h' : q_H), O = .inl (some (.int (vX5_report_4 o ml a1 a2 a4 V))) → q_ok (gX Γ (fX5_report_4 o ml a1 a2 a4 V)) h' → Q O h' n) (hok : q_ok (gX Γ V) h) : q_A Sc mX5_report 62 [.ref o, .int (nI a1), .int (nI a2), .int (nI 4), .int (a4)] [] h n kc ks Q := by
  refine q_aload_n dX5_report_62 rfl ?_
  refine q_iload_n dX5_report_63 rfl ?_
  refine q_iload_n dX5_report_64 rfl ?_
  refine q_iload_n dX5_report_65 rfl ?_
  refine q_iload dX5_report_66 rfl ?_
  refine v_callV (M' := mX5_reported) [.int (nI a1), .int (nI a2), .int (nI 4), .int (a4)] [] kX5 dX5_report_68 wPX5_125v wIX5_reported wSX5_reported iX5_reported oX5_reported rfl hok H.1 (eX5_reported_4 Sc Γ n V o ml H hm1 hml a1 (by omega) a2 (by omega) a4 (b) (by omega) hS) (Nat.le_of_ble_eq_true rfl) (Nat.le_of_ble_eq_true rfl) (Nat.le_of_ble_eq_true rfl) rfl (fun h hok => ?_)
  exact q_iret dX5_report_71 rfl (rfl) (hQ _ _ (by dsimp only [vX5_report_4]) (by dsimp only [fX5_report_4]; exact hok))
def fX5_report_5 (o ml : Nat) (a1 : Nat) (a2 : Nat) (a4 : Int32) (V : q_V) : q_V := let V480 := fX5_reported_5 o ml a1 a2 a4 V; V480
def vX5_report_5 (o ml : Nat) (a1 : Nat) (a2 : Nat) (a4 : Int32) (V : q_V) : Int32 := let V480 := fX5_reported_5 o ml a1 a2 a4 V; (vX5_reported_5 o ml a1 a2 a4 V)
set_option maxRecDepth 20000 in
set_option maxHeartbeats 4000000 in
theorem kX5_report_5 (Sc : q_S) (Γ : Nat → q_K) (n : Nat) (V : q_V) (o ml : Nat) (H : sM Γ o ml) (hm1 : 1 ≤ ml) (hml : ml ≤ 4) (a1 : Nat) (b1 : a1 < ml) (a2 : Nat) (b2 : a2 < 8) (a4 : Int32) (b : Nat) (hb : b + 2 ≤ 2000000000) (hS : SB V o b)  {kc ks : Nat} {Q : q_O → q_H → Nat → Prop} {h : q_H} (hQ : ∀ (O : q_O) (h' : q_H), O = .inl (some (.int (vX5_report_5 o ml a1 a2 a4 V))) → q_ok (gX Γ (fX5_report_5 o ml a1 a2 a4 V)) h' → Q O h' n) (hok : q_ok (gX Γ V) h) : q_A Sc mX5_report 62 [.ref o, .int (nI a1), .int (nI a2), .int (nI 5), .int (a4)] [] h n kc ks Q := by
  refine q_aload_n dX5_report_62 rfl ?_
  refine q_iload_n dX5_report_63 rfl ?_
  refine q_iload_n dX5_report_64 rfl ?_
  refine q_iload_n dX5_report_65 rfl ?_
  refine q_iload dX5_report_66 rfl ?_
  refine v_callV (M' := mX5_reported) [.int (nI a1), .int (nI a2), .int (nI 5), .int (a4)] [] kX5 dX5_report_68 wPX5_125v wIX5_reported wSX5_reported iX5_reported oX5_reported rfl hok H.1 (eX5_reported_5 Sc Γ n V o ml H hm1 hml a1 (by omega) a2 (by omega) a4 (b) (by omega) hS) (Nat.le_of_ble_eq_true rfl) (Nat.le_of_ble_eq_true rfl) (Nat.le_of_ble_eq_true rfl) rfl (fun h hok => ?_)
  exact q_iret dX5_report_71 rfl (rfl) (hQ _ _ (by dsimp only [vX5_report_5]) (by dsimp only [fX5_report_5]; exact hok))
def fX5_report (o ml l g : Nat) (a : Int32) (k : Nat) (V : q_V) : q_V := match k with
  | 0 => fX5_report_0 o ml l g a V
  | 1 => fX5_report_1 o ml l g a V
  | 2 => fX5_report_2 o ml l g a V
  | 3 => fX5_report_3 o ml l g a V
  | 4 => fX5_report_4 o ml l g a V
  | _ => fX5_report_5 o ml l g a V
def vX5_report (o ml l g : Nat) (a : Int32) (k : Nat) (V : q_V) : Int32 := match k with
  | 0 => vX5_report_0 o ml l g a V
  | 1 => vX5_report_1 o ml l g a V
  | 2 => vX5_report_2 o ml l g a V
  | 3 => vX5_report_3 o ml l g a V
  | 4 => vX5_report_4 o ml l g a V
  | _ => vX5_report_5 o ml l g a V
def fX5_query_n (o ml : Nat) (a1 : Nat) (a2 : Int32) (a4 : Int32) (a5 : Int32) (V : q_V) : q_V := if (nI 500) ≤ a2 then (V) else (if (V (o + 5) a1) = 0 then (let V483 := vset V (o + 4) a1 (a2); let V484 := vset V483 (o + 5) a1 (((V483 (o + 1) a1) * (V483 (o + 2) a1)) + ((V483 (o + 3) a1) / (nI 2))); V484) else (if (V (o + 4) a1) ≤ a2 then (let V486 := vset V (o + 4) a1 (V (o + 4) a1); let V487 := vset V486 (o + 5) a1 (((V486 (o + 1) a1) * (V486 (o + 2) a1)) + ((V486 (o + 3) a1) / (nI 2))); V487) else (let V488 := vset V (o + 4) a1 (a2); let V489 := vset V488 (o + 5) a1 (((V488 (o + 1) a1) * (V488 (o + 2) a1)) + ((V488 (o + 3) a1) / (nI 2))); V489)))
def vX5_query_n (o ml : Nat) (a1 : Nat) (a2 : Int32) (a4 : Int32) (a5 : Int32) (V : q_V) : Int32 := if (nI 500) ≤ a2 then ((vX5_asks o ml a1 V)) else (if (V (o + 5) a1) = 0 then (let V483 := vset V (o + 4) a1 (a2); let V484 := vset V483 (o + 5) a1 (((V483 (o + 1) a1) * (V483 (o + 2) a1)) + ((V483 (o + 3) a1) / (nI 2))); (vX5_asks o ml a1 V484)) else (if (V (o + 4) a1) ≤ a2 then (let V486 := vset V (o + 4) a1 (V (o + 4) a1); let V487 := vset V486 (o + 5) a1 (((V486 (o + 1) a1) * (V486 (o + 2) a1)) + ((V486 (o + 3) a1) / (nI 2))); (vX5_asks o ml a1 V487)) else (let V488 := vset V (o + 4) a1 (a2); let V489 := vset V488 (o + 5) a1 (((V488 (o + 1) a1) * (V488 (o + 2) a1)) + ((V488 (o + 3) a1) / (nI 2))); (vX5_asks o ml a1 V489))))
set_option maxRecDepth 20000 in
set_option maxHeartbeats 4000000 in
theorem kX5_query_n (Sc : q_S) (Γ : Nat → q_K) (n : Nat) (V : q_V) (o ml : Nat) (H : sM Γ o ml) (hm1 : 1 ≤ ml) (hml : ml ≤ 4) (a1 : Nat) (b1 : a1 < ml) (a2 : Int32) (a4 : Int32) (a5 : Int32) (b5 : q_bl a5)  {kc ks : Nat} {Q : q_O → q_H → Nat → Prop} {h : q_H} (hQ : ∀ (O : q_O) (h' : q_H), O = .inl (some (.int (vX5_query_n o ml a1 a2 a4 a5 V))) → q_ok (gX Γ (fX5_query_n o ml a1 a2 a4 a5 V)) h' → Q O h' n) (hok : q_ok (gX Γ V) h) : q_A Sc mX5_query 62 [.ref o, .int (nI a1), .int (a2), .int (-1), .int (a4), .int (a5)] [] h n kc ks Q := by
  refine q_iload_n dX5_query_62 rfl ?_
  refine q_sipush (v := nI 500) dX5_query_63 rfl ?_
  refine q_icmp_ge (tgt := 174) dX5_query_66 (by decide) (fun c481 => ?_) (fun c481 => ?_)
  ·
    refine q_aload_n dX5_query_174 rfl ?_
    refine q_iload_n dX5_query_175 rfl ?_
    refine v_callV (M' := mX5_asks) [.int (nI a1)] [] kX5 dX5_query_176 wPX5_75v wIX5_asks wSX5_asks iX5_asks oX5_asks rfl hok H.1 (eX5_asks Sc Γ n V o ml H hm1 hml a1 (by omega)) (Nat.le_of_ble_eq_true rfl) (Nat.le_of_ble_eq_true rfl) (Nat.le_of_ble_eq_true rfl) rfl (fun h hok => ?_)
    exact q_iret dX5_query_179 rfl (q_bl.nar (bX5_asks o ml a1 V)) (hQ _ _ (by dsimp only [vX5_query_n]; rw [if_pos c481]) (by dsimp only [fX5_query_n]; rw [if_pos c481]; exact hok))
  ·
    refine q_aload_n dX5_query_69 rfl ?_
    refine v_getr 5 kX5 (by decide) wPX5_19 dX5_query_70 hok H.1 rfl ?_
    refine q_iload_n dX5_query_73 rfl ?_
    refine q_aload_n dX5_query_74 rfl ?_
    refine v_getr 6 kX5 (by decide) wPX5_22 dX5_query_75 hok H.1 rfl ?_
    refine q_iload_n dX5_query_78 rfl ?_
    refine v_iald (by decide) dX5_query_79 hok H.2.2.2.2.2.1 (j := a1) (by omega) ?_
    refine q_if_eq (tgt := 93) dX5_query_80 (by decide) (fun c482 => ?_) (fun c482 => ?_)
    ·
      refine q_iload_n dX5_query_93 rfl ?_
      refine q_goto (tgt := 103) dX5_query_94 (by decide) ?_
      refine v_iast (by decide) dX5_query_103 hok H.2.2.2.2.1 (j := a1) (by omega) (fun h hok => ?_)
      refine q_aload_n dX5_query_104 rfl ?_
      refine v_getr 6 kX5 (by decide) wPX5_22 dX5_query_105 hok H.1 rfl ?_
      refine q_iload_n dX5_query_108 rfl ?_
      refine q_aload_n dX5_query_109 rfl ?_
      refine v_getr 2 kX5 (by decide) wPX5_7 dX5_query_110 hok H.1 rfl ?_
      refine q_iload_n dX5_query_113 rfl ?_
      refine v_iald (by decide) dX5_query_114 hok H.2.1 (j := a1) (by omega) ?_
      refine q_aload_n dX5_query_115 rfl ?_
      refine v_getr 3 kX5 (by decide) wPX5_13 dX5_query_116 hok H.1 rfl ?_
      refine q_iload_n dX5_query_119 rfl ?_
      refine v_iald (by decide) dX5_query_120 hok H.2.2.1 (j := a1) (by omega) ?_
      refine q_imul dX5_query_121 ?_
      refine q_aload_n dX5_query_122 rfl ?_
      refine v_getr 4 kX5 (by decide) wPX5_16 dX5_query_123 hok H.1 rfl ?_
      refine q_iload_n dX5_query_126 rfl ?_
      refine v_iald (by decide) dX5_query_127 hok H.2.2.2.1 (j := a1) (by omega) ?_
      refine q_iconst (v := nI 2) dX5_query_128 rfl ?_
      refine q_idiv dX5_query_129 (by decide) ?_
      refine q_iadd dX5_query_130 ?_
      refine v_iast (by decide) dX5_query_131 hok H.2.2.2.2.2.1 (j := a1) (by omega) (fun h hok => ?_)
      refine q_iload_n dX5_query_132 rfl ?_
      refine q_iconst (v := -1) dX5_query_133 rfl ?_
      refine q_icmp_eq (tgt := 174) dX5_query_134 (by decide) (fun _ => ?_) (fun q => absurd q (by decide))
      refine q_aload_n dX5_query_174 rfl ?_
      refine q_iload_n dX5_query_175 rfl ?_
      refine v_callV (M' := mX5_asks) [.int (nI a1)] [] kX5 dX5_query_176 wPX5_75v wIX5_asks wSX5_asks iX5_asks oX5_asks rfl hok H.1 (eX5_asks Sc Γ n (vset (vset V (o + 4) a1 (a2)) (o + 5) a1 ((((vset V (o + 4) a1 (a2)) (o + 1) a1) * ((vset V (o + 4) a1 (a2)) (o + 2) a1)) + (((vset V (o + 4) a1 (a2)) (o + 3) a1) / (nI 2)))) o ml H hm1 hml a1 (by omega)) (Nat.le_of_ble_eq_true rfl) (Nat.le_of_ble_eq_true rfl) (Nat.le_of_ble_eq_true rfl) rfl (fun h hok => ?_)
      exact q_iret dX5_query_179 rfl (q_bl.nar (bX5_asks o ml a1 ((vset (vset V (o + 4) a1 (a2)) (o + 5) a1 ((((vset V (o + 4) a1 (a2)) (o + 1) a1) * ((vset V (o + 4) a1 (a2)) (o + 2) a1)) + (((vset V (o + 4) a1 (a2)) (o + 3) a1) / (nI 2))))))) (hQ _ _ (by dsimp only [vX5_query_n]; rw [if_neg c481, if_pos c482]) (by dsimp only [fX5_query_n]; rw [if_neg c481, if_pos c482]; exact hok))
    ·
      refine q_iload_n dX5_query_83 rfl ?_
      refine q_aload_n dX5_query_84 rfl ?_
      refine v_getr 5 kX5 (by decide) wPX5_19 dX5_query_85 hok H.1 rfl ?_
      refine q_iload_n dX5_query_88 rfl ?_
      refine v_iald (by decide) dX5_query_89 hok H.2.2.2.2.1 (j := a1) (by omega) ?_
      refine q_icmp_ge (tgt := 97) dX5_query_90 (by decide) (fun c485 => ?_) (fun c485 => ?_)
      ·
        refine q_aload_n dX5_query_97 rfl ?_
        refine v_getr 5 kX5 (by decide) wPX5_19 dX5_query_98 hok H.1 rfl ?_
        refine q_iload_n dX5_query_101 rfl ?_
        refine v_iald (by decide) dX5_query_102 hok H.2.2.2.2.1 (j := a1) (by omega) ?_
        refine v_iast (by decide) dX5_query_103 hok H.2.2.2.2.1 (j := a1) (by omega) (fun h hok => ?_)
        refine q_aload_n dX5_query_104 rfl ?_
        refine v_getr 6 kX5 (by decide) wPX5_22 dX5_query_105 hok H.1 rfl ?_
        refine q_iload_n dX5_query_108 rfl ?_
        refine q_aload_n dX5_query_109 rfl ?_
        refine v_getr 2 kX5 (by decide) wPX5_7 dX5_query_110 hok H.1 rfl ?_
        refine q_iload_n dX5_query_113 rfl ?_
        refine v_iald (by decide) dX5_query_114 hok H.2.1 (j := a1) (by omega) ?_
        refine q_aload_n dX5_query_115 rfl ?_
        refine v_getr 3 kX5 (by decide) wPX5_13 dX5_query_116 hok H.1 rfl ?_
        refine q_iload_n dX5_query_119 rfl ?_
        refine v_iald (by decide) dX5_query_120 hok H.2.2.1 (j := a1) (by omega) ?_
        refine q_imul dX5_query_121 ?_
        refine q_aload_n dX5_query_122 rfl ?_
        refine v_getr 4 kX5 (by decide) wPX5_16 dX5_query_123 hok H.1 rfl ?_
        refine q_iload_n dX5_query_126 rfl ?_
        refine v_iald (by decide) dX5_query_127 hok H.2.2.2.1 (j := a1) (by omega) ?_
        refine q_iconst (v := nI 2) dX5_query_128 rfl ?_
        refine q_idiv dX5_query_129 (by decide) ?_
        refine q_iadd dX5_query_130 ?_
        refine v_iast (by decide) dX5_query_131 hok H.2.2.2.2.2.1 (j := a1) (by omega) (fun h hok => ?_)
        refine q_iload_n dX5_query_132 rfl ?_
        refine q_iconst (v := -1) dX5_query_133 rfl ?_
        refine q_icmp_eq (tgt := 174) dX5_query_134 (by decide) (fun _ => ?_) (fun q => absurd q (by decide))
        refine q_aload_n dX5_query_174 rfl ?_
        refine q_iload_n dX5_query_175 rfl ?_
        refine v_callV (M' := mX5_asks) [.int (nI a1)] [] kX5 dX5_query_176 wPX5_75v wIX5_asks wSX5_asks iX5_asks oX5_asks rfl hok H.1 (eX5_asks Sc Γ n (vset (vset V (o + 4) a1 (V (o + 4) a1)) (o + 5) a1 ((((vset V (o + 4) a1 (V (o + 4) a1)) (o + 1) a1) * ((vset V (o + 4) a1 (V (o + 4) a1)) (o + 2) a1)) + (((vset V (o + 4) a1 (V (o + 4) a1)) (o + 3) a1) / (nI 2)))) o ml H hm1 hml a1 (by omega)) (Nat.le_of_ble_eq_true rfl) (Nat.le_of_ble_eq_true rfl) (Nat.le_of_ble_eq_true rfl) rfl (fun h hok => ?_)
        exact q_iret dX5_query_179 rfl (q_bl.nar (bX5_asks o ml a1 ((vset (vset V (o + 4) a1 (V (o + 4) a1)) (o + 5) a1 ((((vset V (o + 4) a1 (V (o + 4) a1)) (o + 1) a1) * ((vset V (o + 4) a1 (V (o + 4) a1)) (o + 2) a1)) + (((vset V (o + 4) a1 (V (o + 4) a1)) (o + 3) a1) / (nI 2))))))) (hQ _ _ (by dsimp only [vX5_query_n]; rw [if_neg c481, if_neg c482, if_pos c485]) (by dsimp only [fX5_query_n]; rw [if_neg c481, if_neg c482, if_pos c485]; exact hok))
      ·
        refine q_iload_n dX5_query_93 rfl ?_
        refine q_goto (tgt := 103) dX5_query_94 (by decide) ?_
        refine v_iast (by decide) dX5_query_103 hok H.2.2.2.2.1 (j := a1) (by omega) (fun h hok => ?_)
        refine q_aload_n dX5_query_104 rfl ?_
        refine v_getr 6 kX5 (by decide) wPX5_22 dX5_query_105 hok H.1 rfl ?_
        refine q_iload_n dX5_query_108 rfl ?_
        refine q_aload_n dX5_query_109 rfl ?_
        refine v_getr 2 kX5 (by decide) wPX5_7 dX5_query_110 hok H.1 rfl ?_
        refine q_iload_n dX5_query_113 rfl ?_
        refine v_iald (by decide) dX5_query_114 hok H.2.1 (j := a1) (by omega) ?_
        refine q_aload_n dX5_query_115 rfl ?_
        refine v_getr 3 kX5 (by decide) wPX5_13 dX5_query_116 hok H.1 rfl ?_
        refine q_iload_n dX5_query_119 rfl ?_
        refine v_iald (by decide) dX5_query_120 hok H.2.2.1 (j := a1) (by omega) ?_
        refine q_imul dX5_query_121 ?_
        refine q_aload_n dX5_query_122 rfl ?_
        refine v_getr 4 kX5 (by decide) wPX5_16 dX5_query_123 hok H.1 rfl ?_
        refine q_iload_n dX5_query_126 rfl ?_
        refine v_iald (by decide) dX5_query_127 hok H.2.2.2.1 (j := a1) (by omega) ?_
        refine q_iconst (v := nI 2) dX5_query_128 rfl ?_
        refine q_idiv dX5_query_129 (by decide) ?_
        refine q_iadd dX5_query_130 ?_
        refine v_iast (by decide) dX5_query_131 hok H.2.2.2.2.2.1 (j := a1) (by omega) (fun h hok => ?_)
        refine q_iload_n dX5_query_132 rfl ?_
        refine q_iconst (v := -1) dX5_query_133 rfl ?_
        refine q_icmp_eq (tgt := 174) dX5_query_134 (by decide) (fun _ => ?_) (fun q => absurd q (by decide))
        refine q_aload_n dX5_query_174 rfl ?_
        refine q_iload_n dX5_query_175 rfl ?_
        refine v_callV (M' := mX5_asks) [.int (nI a1)] [] kX5 dX5_query_176 wPX5_75v wIX5_asks wSX5_asks iX5_asks oX5_asks rfl hok H.1 (eX5_asks Sc Γ n (vset (vset V (o + 4) a1 (a2)) (o + 5) a1 ((((vset V (o + 4) a1 (a2)) (o + 1) a1) * ((vset V (o + 4) a1 (a2)) (o + 2) a1)) + (((vset V (o + 4) a1 (a2)) (o + 3) a1) / (nI 2)))) o ml H hm1 hml a1 (by omega)) (Nat.le_of_ble_eq_true rfl) (Nat.le_of_ble_eq_true rfl) (Nat.le_of_ble_eq_true rfl) rfl (fun h hok => ?_)
        exact q_iret dX5_query_179 rfl (q_bl.nar (bX5_asks o ml a1 ((vset (vset V (o + 4) a1 (a2)) (o + 5) a1 ((((vset V (o + 4) a1 (a2)) (o + 1) a1) * ((vset V (o + 4) a1 (a2)) (o + 2) a1)) + (((vset V (o + 4) a1 (a2)) (o + 3) a1) / (nI 2))))))) (hQ _ _ (by dsimp only [vX5_query_n]; rw [if_neg c481, if_neg c482, if_neg c485]) (by dsimp only [fX5_query_n]; rw [if_neg c481, if_neg c482, if_neg c485]; exact hok))
def fX5_query_g (o ml : Nat) (a1 : Nat) (a2 : Int32) (a3 : Nat) (a4 : Int32) (a5 : Int32) (V : q_V) : q_V := if (nI 500) ≤ a2 then (V) else (if (V (o + 5) a1) = 0 then (let V492 := vset V (o + 4) a1 (a2); let V493 := vset V492 (o + 5) a1 (((V492 (o + 1) a1) * (V492 (o + 2) a1)) + ((V492 (o + 3) a1) / (nI 2))); if (nI a3) = (-1) then (V493) else (if a5 = 0 then (if a4 = 0 then (let V497 := fX5_lowerGroup o ml a1 ((8 * a1) + a3) V493; V497) else (let V498 := fX5_lower o ml a1 ((8 * a1) + a3) a4 V493; V498)) else (V493))) else (if (V (o + 4) a1) ≤ a2 then (let V500 := vset V (o + 4) a1 (V (o + 4) a1); let V501 := vset V500 (o + 5) a1 (((V500 (o + 1) a1) * (V500 (o + 2) a1)) + ((V500 (o + 3) a1) / (nI 2))); if (nI a3) = (-1) then (V501) else (if a5 = 0 then (if a4 = 0 then (let V505 := fX5_lowerGroup o ml a1 ((8 * a1) + a3) V501; V505) else (let V506 := fX5_lower o ml a1 ((8 * a1) + a3) a4 V501; V506)) else (V501))) else (let V507 := vset V (o + 4) a1 (a2); let V508 := vset V507 (o + 5) a1 (((V507 (o + 1) a1) * (V507 (o + 2) a1)) + ((V507 (o + 3) a1) / (nI 2))); if (nI a3) = (-1) then (V508) else (if a5 = 0 then (if a4 = 0 then (let V512 := fX5_lowerGroup o ml a1 ((8 * a1) + a3) V508; V512) else (let V513 := fX5_lower o ml a1 ((8 * a1) + a3) a4 V508; V513)) else (V508)))))
def vX5_query_g (o ml : Nat) (a1 : Nat) (a2 : Int32) (a3 : Nat) (a4 : Int32) (a5 : Int32) (V : q_V) : Int32 := if (nI 500) ≤ a2 then ((vX5_asks o ml a1 V)) else (if (V (o + 5) a1) = 0 then (let V492 := vset V (o + 4) a1 (a2); let V493 := vset V492 (o + 5) a1 (((V492 (o + 1) a1) * (V492 (o + 2) a1)) + ((V492 (o + 3) a1) / (nI 2))); if (nI a3) = (-1) then ((vX5_asks o ml a1 V493)) else (if a5 = 0 then (if a4 = 0 then (let V497 := fX5_lowerGroup o ml a1 ((8 * a1) + a3) V493; (vX5_asks o ml a1 V497)) else (let V498 := fX5_lower o ml a1 ((8 * a1) + a3) a4 V493; (vX5_asks o ml a1 V498))) else ((vX5_asks o ml a1 V493)))) else (if (V (o + 4) a1) ≤ a2 then (let V500 := vset V (o + 4) a1 (V (o + 4) a1); let V501 := vset V500 (o + 5) a1 (((V500 (o + 1) a1) * (V500 (o + 2) a1)) + ((V500 (o + 3) a1) / (nI 2))); if (nI a3) = (-1) then ((vX5_asks o ml a1 V501)) else (if a5 = 0 then (if a4 = 0 then (let V505 := fX5_lowerGroup o ml a1 ((8 * a1) + a3) V501; (vX5_asks o ml a1 V505)) else (let V506 := fX5_lower o ml a1 ((8 * a1) + a3) a4 V501; (vX5_asks o ml a1 V506))) else ((vX5_asks o ml a1 V501)))) else (let V507 := vset V (o + 4) a1 (a2); let V508 := vset V507 (o + 5) a1 (((V507 (o + 1) a1) * (V507 (o + 2) a1)) + ((V507 (o + 3) a1) / (nI 2))); if (nI a3) = (-1) then ((vX5_asks o ml a1 V508)) else (if a5 = 0 then (if a4 = 0 then (let V512 := fX5_lowerGroup o ml a1 ((8 * a1) + a3) V508; (vX5_asks o ml a1 V512)) else (let V513 := fX5_lower o ml a1 ((8 * a1) + a3) a4 V508; (vX5_asks o ml a1 V513))) else ((vX5_asks o ml a1 V508))))))
set_option maxRecDepth 20000 in
set_option maxHeartbeats 4000000 in
theorem kX5_query_g (Sc : q_S) (Γ : Nat → q_K) (n : Nat) (V : q_V) (o ml : Nat) (H : sM Γ o ml) (hm1 : 1 ≤ ml) (hml : ml ≤ 4) (a1 : Nat) (b1 : a1 < ml) (a2 : Int32) (a3 : Nat) (b3 : a3 < 8) (a4 : Int32) (a5 : Int32) (b5 : q_bl a5)  {kc ks : Nat} {Q : q_O → q_H → Nat → Prop} {h : q_H} (hQ : ∀ (O : q_O) (h' : q_H), O = .inl (some (.int (vX5_query_g o ml a1 a2 a3 a4 a5 V))) → q_ok (gX Γ (fX5_query_g o ml a1 a2 a3 a4 a5 V)) h' → Q O h' n) (hok : q_ok (gX Γ V) h) : q_A Sc mX5_query 62 [.ref o, .int (nI a1), .int (a2), .int (nI a3), .int (a4), .int (a5)] [] h n kc ks Q := by
  refine q_iload_n dX5_query_62 rfl ?_
  refine q_sipush (v := nI 500) dX5_query_63 rfl ?_
  refine q_icmp_ge (tgt := 174) dX5_query_66 (by decide) (fun c490 => ?_) (fun c490 => ?_)
  ·
    refine q_aload_n dX5_query_174 rfl ?_
    refine q_iload_n dX5_query_175 rfl ?_
    refine v_callV (M' := mX5_asks) [.int (nI a1)] [] kX5 dX5_query_176 wPX5_75v wIX5_asks wSX5_asks iX5_asks oX5_asks rfl hok H.1 (eX5_asks Sc Γ n V o ml H hm1 hml a1 (by omega)) (Nat.le_of_ble_eq_true rfl) (Nat.le_of_ble_eq_true rfl) (Nat.le_of_ble_eq_true rfl) rfl (fun h hok => ?_)
    exact q_iret dX5_query_179 rfl (q_bl.nar (bX5_asks o ml a1 V)) (hQ _ _ (by dsimp only [vX5_query_g]; rw [if_pos c490]) (by dsimp only [fX5_query_g]; rw [if_pos c490]; exact hok))
  ·
    refine q_aload_n dX5_query_69 rfl ?_
    refine v_getr 5 kX5 (by decide) wPX5_19 dX5_query_70 hok H.1 rfl ?_
    refine q_iload_n dX5_query_73 rfl ?_
    refine q_aload_n dX5_query_74 rfl ?_
    refine v_getr 6 kX5 (by decide) wPX5_22 dX5_query_75 hok H.1 rfl ?_
    refine q_iload_n dX5_query_78 rfl ?_
    refine v_iald (by decide) dX5_query_79 hok H.2.2.2.2.2.1 (j := a1) (by omega) ?_
    refine q_if_eq (tgt := 93) dX5_query_80 (by decide) (fun c491 => ?_) (fun c491 => ?_)
    ·
      refine q_iload_n dX5_query_93 rfl ?_
      refine q_goto (tgt := 103) dX5_query_94 (by decide) ?_
      refine v_iast (by decide) dX5_query_103 hok H.2.2.2.2.1 (j := a1) (by omega) (fun h hok => ?_)
      refine q_aload_n dX5_query_104 rfl ?_
      refine v_getr 6 kX5 (by decide) wPX5_22 dX5_query_105 hok H.1 rfl ?_
      refine q_iload_n dX5_query_108 rfl ?_
      refine q_aload_n dX5_query_109 rfl ?_
      refine v_getr 2 kX5 (by decide) wPX5_7 dX5_query_110 hok H.1 rfl ?_
      refine q_iload_n dX5_query_113 rfl ?_
      refine v_iald (by decide) dX5_query_114 hok H.2.1 (j := a1) (by omega) ?_
      refine q_aload_n dX5_query_115 rfl ?_
      refine v_getr 3 kX5 (by decide) wPX5_13 dX5_query_116 hok H.1 rfl ?_
      refine q_iload_n dX5_query_119 rfl ?_
      refine v_iald (by decide) dX5_query_120 hok H.2.2.1 (j := a1) (by omega) ?_
      refine q_imul dX5_query_121 ?_
      refine q_aload_n dX5_query_122 rfl ?_
      refine v_getr 4 kX5 (by decide) wPX5_16 dX5_query_123 hok H.1 rfl ?_
      refine q_iload_n dX5_query_126 rfl ?_
      refine v_iald (by decide) dX5_query_127 hok H.2.2.2.1 (j := a1) (by omega) ?_
      refine q_iconst (v := nI 2) dX5_query_128 rfl ?_
      refine q_idiv dX5_query_129 (by decide) ?_
      refine q_iadd dX5_query_130 ?_
      refine v_iast (by decide) dX5_query_131 hok H.2.2.2.2.2.1 (j := a1) (by omega) (fun h hok => ?_)
      refine q_iload_n dX5_query_132 rfl ?_
      refine q_iconst (v := -1) dX5_query_133 rfl ?_
      refine q_icmp_eq (tgt := 174) dX5_query_134 (by decide) (fun c494 => ?_) (fun c494 => ?_)
      ·
        refine q_aload_n dX5_query_174 rfl ?_
        refine q_iload_n dX5_query_175 rfl ?_
        refine v_callV (M' := mX5_asks) [.int (nI a1)] [] kX5 dX5_query_176 wPX5_75v wIX5_asks wSX5_asks iX5_asks oX5_asks rfl hok H.1 (eX5_asks Sc Γ n (vset (vset V (o + 4) a1 (a2)) (o + 5) a1 ((((vset V (o + 4) a1 (a2)) (o + 1) a1) * ((vset V (o + 4) a1 (a2)) (o + 2) a1)) + (((vset V (o + 4) a1 (a2)) (o + 3) a1) / (nI 2)))) o ml H hm1 hml a1 (by omega)) (Nat.le_of_ble_eq_true rfl) (Nat.le_of_ble_eq_true rfl) (Nat.le_of_ble_eq_true rfl) rfl (fun h hok => ?_)
        exact q_iret dX5_query_179 rfl (q_bl.nar (bX5_asks o ml a1 ((vset (vset V (o + 4) a1 (a2)) (o + 5) a1 ((((vset V (o + 4) a1 (a2)) (o + 1) a1) * ((vset V (o + 4) a1 (a2)) (o + 2) a1)) + (((vset V (o + 4) a1 (a2)) (o + 3) a1) / (nI 2))))))) (hQ _ _ (by dsimp only [vX5_query_g]; rw [if_neg c490, if_pos c491, if_pos c494]) (by dsimp only [fX5_query_g]; rw [if_neg c490, if_pos c491, if_pos c494]; exact hok))
      ·
        refine q_iload dX5_query_137 rfl ?_
        refine q_if_ne (tgt := 174) dX5_query_139 (by decide) (fun c495 => ?_) (fun c495 => ?_)
        ·
          refine q_aload_n dX5_query_174 rfl ?_
          refine q_iload_n dX5_query_175 rfl ?_
          refine v_callV (M' := mX5_asks) [.int (nI a1)] [] kX5 dX5_query_176 wPX5_75v wIX5_asks wSX5_asks iX5_asks oX5_asks rfl hok H.1 (eX5_asks Sc Γ n (vset (vset V (o + 4) a1 (a2)) (o + 5) a1 ((((vset V (o + 4) a1 (a2)) (o + 1) a1) * ((vset V (o + 4) a1 (a2)) (o + 2) a1)) + (((vset V (o + 4) a1 (a2)) (o + 3) a1) / (nI 2)))) o ml H hm1 hml a1 (by omega)) (Nat.le_of_ble_eq_true rfl) (Nat.le_of_ble_eq_true rfl) (Nat.le_of_ble_eq_true rfl) rfl (fun h hok => ?_)
          exact q_iret dX5_query_179 rfl (q_bl.nar (bX5_asks o ml a1 ((vset (vset V (o + 4) a1 (a2)) (o + 5) a1 ((((vset V (o + 4) a1 (a2)) (o + 1) a1) * ((vset V (o + 4) a1 (a2)) (o + 2) a1)) + (((vset V (o + 4) a1 (a2)) (o + 3) a1) / (nI 2))))))) (hQ _ _ (by dsimp only [vX5_query_g]; rw [if_neg c490, if_pos c491, if_neg c494, if_neg c495]) (by dsimp only [fX5_query_g]; rw [if_neg c490, if_pos c491, if_neg c494, if_neg c495]; exact hok))
        ·
          refine q_iload dX5_query_142 rfl ?_
          refine q_if_eq (tgt := 163) dX5_query_144 (by decide) (fun c496 => ?_) (fun c496 => ?_)
          ·
            refine q_aload_n dX5_query_163 rfl ?_
            refine q_iload_n dX5_query_164 rfl ?_
            refine q_bipush (v := nI 8) dX5_query_165 rfl ?_
            refine q_iload_n dX5_query_167 rfl ?_
            refine t_imul_n dX5_query_168 ?_
            refine q_iload_n dX5_query_169 rfl ?_
            refine t_iadd_n dX5_query_170 ?_
            refine v_callV (M' := mX5_lowerGroup) [.int (nI a1), .int (nI ((8 * a1) + a3))] [] kX5 dX5_query_171 wPX5_86v wIX5_lowerGroup wSX5_lowerGroup iX5_lowerGroup oX5_lowerGroup rfl hok H.1 (eX5_lowerGroup Sc Γ n (vset (vset V (o + 4) a1 (a2)) (o + 5) a1 ((((vset V (o + 4) a1 (a2)) (o + 1) a1) * ((vset V (o + 4) a1 (a2)) (o + 2) a1)) + (((vset V (o + 4) a1 (a2)) (o + 3) a1) / (nI 2)))) o ml H hm1 hml a1 (by omega) ((8 * a1) + a3) (by omega)) (Nat.le_of_ble_eq_true rfl) (Nat.le_of_ble_eq_true rfl) (Nat.le_of_ble_eq_true rfl) rfl (fun h hok => ?_)
            refine q_aload_n dX5_query_174 rfl ?_
            refine q_iload_n dX5_query_175 rfl ?_
            refine v_callV (M' := mX5_asks) [.int (nI a1)] [] kX5 dX5_query_176 wPX5_75v wIX5_asks wSX5_asks iX5_asks oX5_asks rfl hok H.1 (eX5_asks Sc Γ n (fX5_lowerGroup o ml a1 ((8 * a1) + a3) (vset (vset V (o + 4) a1 (a2)) (o + 5) a1 ((((vset V (o + 4) a1 (a2)) (o + 1) a1) * ((vset V (o + 4) a1 (a2)) (o + 2) a1)) + (((vset V (o + 4) a1 (a2)) (o + 3) a1) / (nI 2))))) o ml H hm1 hml a1 (by omega)) (Nat.le_of_ble_eq_true rfl) (Nat.le_of_ble_eq_true rfl) (Nat.le_of_ble_eq_true rfl) rfl (fun h hok => ?_)
            exact q_iret dX5_query_179 rfl (q_bl.nar (bX5_asks o ml a1 ((fX5_lowerGroup o ml a1 ((8 * a1) + a3) (vset (vset V (o + 4) a1 (a2)) (o + 5) a1 ((((vset V (o + 4) a1 (a2)) (o + 1) a1) * ((vset V (o + 4) a1 (a2)) (o + 2) a1)) + (((vset V (o + 4) a1 (a2)) (o + 3) a1) / (nI 2)))))))) (hQ _ _ (by dsimp only [vX5_query_g]; rw [if_neg c490, if_pos c491, if_neg c494, if_pos c495, if_pos c496]) (by dsimp only [fX5_query_g]; rw [if_neg c490, if_pos c491, if_neg c494, if_pos c495, if_pos c496]; exact hok))
          ·
            refine q_aload_n dX5_query_147 rfl ?_
            refine q_iload_n dX5_query_148 rfl ?_
            refine q_bipush (v := nI 8) dX5_query_149 rfl ?_
            refine q_iload_n dX5_query_151 rfl ?_
            refine t_imul_n dX5_query_152 ?_
            refine q_iload_n dX5_query_153 rfl ?_
            refine t_iadd_n dX5_query_154 ?_
            refine q_iload dX5_query_155 rfl ?_
            refine v_callV (M' := mX5_lower) [.int (nI a1), .int (nI ((8 * a1) + a3)), .int (a4)] [] kX5 dX5_query_157 wPX5_83v wIX5_lower wSX5_lower iX5_lower oX5_lower rfl hok H.1 (eX5_lower Sc Γ n (vset (vset V (o + 4) a1 (a2)) (o + 5) a1 ((((vset V (o + 4) a1 (a2)) (o + 1) a1) * ((vset V (o + 4) a1 (a2)) (o + 2) a1)) + (((vset V (o + 4) a1 (a2)) (o + 3) a1) / (nI 2)))) o ml H hm1 hml a1 (by omega) ((8 * a1) + a3) (by omega) a4) (Nat.le_of_ble_eq_true rfl) (Nat.le_of_ble_eq_true rfl) (Nat.le_of_ble_eq_true rfl) rfl (fun h hok => ?_)
            refine q_goto (tgt := 174) dX5_query_160 (by decide) ?_
            refine q_aload_n dX5_query_174 rfl ?_
            refine q_iload_n dX5_query_175 rfl ?_
            refine v_callV (M' := mX5_asks) [.int (nI a1)] [] kX5 dX5_query_176 wPX5_75v wIX5_asks wSX5_asks iX5_asks oX5_asks rfl hok H.1 (eX5_asks Sc Γ n (fX5_lower o ml a1 ((8 * a1) + a3) a4 (vset (vset V (o + 4) a1 (a2)) (o + 5) a1 ((((vset V (o + 4) a1 (a2)) (o + 1) a1) * ((vset V (o + 4) a1 (a2)) (o + 2) a1)) + (((vset V (o + 4) a1 (a2)) (o + 3) a1) / (nI 2))))) o ml H hm1 hml a1 (by omega)) (Nat.le_of_ble_eq_true rfl) (Nat.le_of_ble_eq_true rfl) (Nat.le_of_ble_eq_true rfl) rfl (fun h hok => ?_)
            exact q_iret dX5_query_179 rfl (q_bl.nar (bX5_asks o ml a1 ((fX5_lower o ml a1 ((8 * a1) + a3) a4 (vset (vset V (o + 4) a1 (a2)) (o + 5) a1 ((((vset V (o + 4) a1 (a2)) (o + 1) a1) * ((vset V (o + 4) a1 (a2)) (o + 2) a1)) + (((vset V (o + 4) a1 (a2)) (o + 3) a1) / (nI 2)))))))) (hQ _ _ (by dsimp only [vX5_query_g]; rw [if_neg c490, if_pos c491, if_neg c494, if_pos c495, if_neg c496]) (by dsimp only [fX5_query_g]; rw [if_neg c490, if_pos c491, if_neg c494, if_pos c495, if_neg c496]; exact hok))
    ·
      refine q_iload_n dX5_query_83 rfl ?_
      refine q_aload_n dX5_query_84 rfl ?_
      refine v_getr 5 kX5 (by decide) wPX5_19 dX5_query_85 hok H.1 rfl ?_
      refine q_iload_n dX5_query_88 rfl ?_
      refine v_iald (by decide) dX5_query_89 hok H.2.2.2.2.1 (j := a1) (by omega) ?_
      refine q_icmp_ge (tgt := 97) dX5_query_90 (by decide) (fun c499 => ?_) (fun c499 => ?_)
      ·
        refine q_aload_n dX5_query_97 rfl ?_
        refine v_getr 5 kX5 (by decide) wPX5_19 dX5_query_98 hok H.1 rfl ?_
        refine q_iload_n dX5_query_101 rfl ?_
        refine v_iald (by decide) dX5_query_102 hok H.2.2.2.2.1 (j := a1) (by omega) ?_
        refine v_iast (by decide) dX5_query_103 hok H.2.2.2.2.1 (j := a1) (by omega) (fun h hok => ?_)
        refine q_aload_n dX5_query_104 rfl ?_
        refine v_getr 6 kX5 (by decide) wPX5_22 dX5_query_105 hok H.1 rfl ?_
        refine q_iload_n dX5_query_108 rfl ?_
        refine q_aload_n dX5_query_109 rfl ?_
        refine v_getr 2 kX5 (by decide) wPX5_7 dX5_query_110 hok H.1 rfl ?_
        refine q_iload_n dX5_query_113 rfl ?_
        refine v_iald (by decide) dX5_query_114 hok H.2.1 (j := a1) (by omega) ?_
        refine q_aload_n dX5_query_115 rfl ?_
        refine v_getr 3 kX5 (by decide) wPX5_13 dX5_query_116 hok H.1 rfl ?_
        refine q_iload_n dX5_query_119 rfl ?_
        refine v_iald (by decide) dX5_query_120 hok H.2.2.1 (j := a1) (by omega) ?_
        refine q_imul dX5_query_121 ?_
        refine q_aload_n dX5_query_122 rfl ?_
        refine v_getr 4 kX5 (by decide) wPX5_16 dX5_query_123 hok H.1 rfl ?_
        refine q_iload_n dX5_query_126 rfl ?_
        refine v_iald (by decide) dX5_query_127 hok H.2.2.2.1 (j := a1) (by omega) ?_
        refine q_iconst (v := nI 2) dX5_query_128 rfl ?_
        refine q_idiv dX5_query_129 (by decide) ?_
        refine q_iadd dX5_query_130 ?_
        refine v_iast (by decide) dX5_query_131 hok H.2.2.2.2.2.1 (j := a1) (by omega) (fun h hok => ?_)
        refine q_iload_n dX5_query_132 rfl ?_
        refine q_iconst (v := -1) dX5_query_133 rfl ?_
        refine q_icmp_eq (tgt := 174) dX5_query_134 (by decide) (fun c502 => ?_) (fun c502 => ?_)
        ·
          refine q_aload_n dX5_query_174 rfl ?_
          refine q_iload_n dX5_query_175 rfl ?_
          refine v_callV (M' := mX5_asks) [.int (nI a1)] [] kX5 dX5_query_176 wPX5_75v wIX5_asks wSX5_asks iX5_asks oX5_asks rfl hok H.1 (eX5_asks Sc Γ n (vset (vset V (o + 4) a1 (V (o + 4) a1)) (o + 5) a1 ((((vset V (o + 4) a1 (V (o + 4) a1)) (o + 1) a1) * ((vset V (o + 4) a1 (V (o + 4) a1)) (o + 2) a1)) + (((vset V (o + 4) a1 (V (o + 4) a1)) (o + 3) a1) / (nI 2)))) o ml H hm1 hml a1 (by omega)) (Nat.le_of_ble_eq_true rfl) (Nat.le_of_ble_eq_true rfl) (Nat.le_of_ble_eq_true rfl) rfl (fun h hok => ?_)
          exact q_iret dX5_query_179 rfl (q_bl.nar (bX5_asks o ml a1 ((vset (vset V (o + 4) a1 (V (o + 4) a1)) (o + 5) a1 ((((vset V (o + 4) a1 (V (o + 4) a1)) (o + 1) a1) * ((vset V (o + 4) a1 (V (o + 4) a1)) (o + 2) a1)) + (((vset V (o + 4) a1 (V (o + 4) a1)) (o + 3) a1) / (nI 2))))))) (hQ _ _ (by dsimp only [vX5_query_g]; rw [if_neg c490, if_neg c491, if_pos c499, if_pos c502]) (by dsimp only [fX5_query_g]; rw [if_neg c490, if_neg c491, if_pos c499, if_pos c502]; exact hok))
        ·
          refine q_iload dX5_query_137 rfl ?_
          refine q_if_ne (tgt := 174) dX5_query_139 (by decide) (fun c503 => ?_) (fun c503 => ?_)
          ·
            refine q_aload_n dX5_query_174 rfl ?_
            refine q_iload_n dX5_query_175 rfl ?_
            refine v_callV (M' := mX5_asks) [.int (nI a1)] [] kX5 dX5_query_176 wPX5_75v wIX5_asks wSX5_asks iX5_asks oX5_asks rfl hok H.1 (eX5_asks Sc Γ n (vset (vset V (o + 4) a1 (V (o + 4) a1)) (o + 5) a1 ((((vset V (o + 4) a1 (V (o + 4) a1)) (o + 1) a1) * ((vset V (o + 4) a1 (V (o + 4) a1)) (o + 2) a1)) + (((vset V (o + 4) a1 (V (o + 4) a1)) (o + 3) a1) / (nI 2)))) o ml H hm1 hml a1 (by omega)) (Nat.le_of_ble_eq_true rfl) (Nat.le_of_ble_eq_true rfl) (Nat.le_of_ble_eq_true rfl) rfl (fun h hok => ?_)
            exact q_iret dX5_query_179 rfl (q_bl.nar (bX5_asks o ml a1 ((vset (vset V (o + 4) a1 (V (o + 4) a1)) (o + 5) a1 ((((vset V (o + 4) a1 (V (o + 4) a1)) (o + 1) a1) * ((vset V (o + 4) a1 (V (o + 4) a1)) (o + 2) a1)) + (((vset V (o + 4) a1 (V (o + 4) a1)) (o + 3) a1) / (nI 2))))))) (hQ _ _ (by dsimp only [vX5_query_g]; rw [if_neg c490, if_neg c491, if_pos c499, if_neg c502, if_neg c503]) (by dsimp only [fX5_query_g]; rw [if_neg c490, if_neg c491, if_pos c499, if_neg c502, if_neg c503]; exact hok))
          ·
            refine q_iload dX5_query_142 rfl ?_
            refine q_if_eq (tgt := 163) dX5_query_144 (by decide) (fun c504 => ?_) (fun c504 => ?_)
            ·
              refine q_aload_n dX5_query_163 rfl ?_
              refine q_iload_n dX5_query_164 rfl ?_
              refine q_bipush (v := nI 8) dX5_query_165 rfl ?_
              refine q_iload_n dX5_query_167 rfl ?_
              refine t_imul_n dX5_query_168 ?_
              refine q_iload_n dX5_query_169 rfl ?_
              refine t_iadd_n dX5_query_170 ?_
              refine v_callV (M' := mX5_lowerGroup) [.int (nI a1), .int (nI ((8 * a1) + a3))] [] kX5 dX5_query_171 wPX5_86v wIX5_lowerGroup wSX5_lowerGroup iX5_lowerGroup oX5_lowerGroup rfl hok H.1 (eX5_lowerGroup Sc Γ n (vset (vset V (o + 4) a1 (V (o + 4) a1)) (o + 5) a1 ((((vset V (o + 4) a1 (V (o + 4) a1)) (o + 1) a1) * ((vset V (o + 4) a1 (V (o + 4) a1)) (o + 2) a1)) + (((vset V (o + 4) a1 (V (o + 4) a1)) (o + 3) a1) / (nI 2)))) o ml H hm1 hml a1 (by omega) ((8 * a1) + a3) (by omega)) (Nat.le_of_ble_eq_true rfl) (Nat.le_of_ble_eq_true rfl) (Nat.le_of_ble_eq_true rfl) rfl (fun h hok => ?_)
              refine q_aload_n dX5_query_174 rfl ?_
              refine q_iload_n dX5_query_175 rfl ?_
              refine v_callV (M' := mX5_asks) [.int (nI a1)] [] kX5 dX5_query_176 wPX5_75v wIX5_asks wSX5_asks iX5_asks oX5_asks rfl hok H.1 (eX5_asks Sc Γ n (fX5_lowerGroup o ml a1 ((8 * a1) + a3) (vset (vset V (o + 4) a1 (V (o + 4) a1)) (o + 5) a1 ((((vset V (o + 4) a1 (V (o + 4) a1)) (o + 1) a1) * ((vset V (o + 4) a1 (V (o + 4) a1)) (o + 2) a1)) + (((vset V (o + 4) a1 (V (o + 4) a1)) (o + 3) a1) / (nI 2))))) o ml H hm1 hml a1 (by omega)) (Nat.le_of_ble_eq_true rfl) (Nat.le_of_ble_eq_true rfl) (Nat.le_of_ble_eq_true rfl) rfl (fun h hok => ?_)
              exact q_iret dX5_query_179 rfl (q_bl.nar (bX5_asks o ml a1 ((fX5_lowerGroup o ml a1 ((8 * a1) + a3) (vset (vset V (o + 4) a1 (V (o + 4) a1)) (o + 5) a1 ((((vset V (o + 4) a1 (V (o + 4) a1)) (o + 1) a1) * ((vset V (o + 4) a1 (V (o + 4) a1)) (o + 2) a1)) + (((vset V (o + 4) a1 (V (o + 4) a1)) (o + 3) a1) / (nI 2)))))))) (hQ _ _ (by dsimp only [vX5_query_g]; rw [if_neg c490, if_neg c491, if_pos c499, if_neg c502, if_pos c503, if_pos c504]) (by dsimp only [fX5_query_g]; rw [if_neg c490, if_neg c491, if_pos c499, if_neg c502, if_pos c503, if_pos c504]; exact hok))
            ·
              refine q_aload_n dX5_query_147 rfl ?_
              refine q_iload_n dX5_query_148 rfl ?_
              refine q_bipush (v := nI 8) dX5_query_149 rfl ?_
              refine q_iload_n dX5_query_151 rfl ?_
              refine t_imul_n dX5_query_152 ?_
              refine q_iload_n dX5_query_153 rfl ?_
              refine t_iadd_n dX5_query_154 ?_
              refine q_iload dX5_query_155 rfl ?_
              refine v_callV (M' := mX5_lower) [.int (nI a1), .int (nI ((8 * a1) + a3)), .int (a4)] [] kX5 dX5_query_157 wPX5_83v wIX5_lower wSX5_lower iX5_lower oX5_lower rfl hok H.1 (eX5_lower Sc Γ n (vset (vset V (o + 4) a1 (V (o + 4) a1)) (o + 5) a1 ((((vset V (o + 4) a1 (V (o + 4) a1)) (o + 1) a1) * ((vset V (o + 4) a1 (V (o + 4) a1)) (o + 2) a1)) + (((vset V (o + 4) a1 (V (o + 4) a1)) (o + 3) a1) / (nI 2)))) o ml H hm1 hml a1 (by omega) ((8 * a1) + a3) (by omega) a4) (Nat.le_of_ble_eq_true rfl) (Nat.le_of_ble_eq_true rfl) (Nat.le_of_ble_eq_true rfl) rfl (fun h hok => ?_)
              refine q_goto (tgt := 174) dX5_query_160 (by decide) ?_
              refine q_aload_n dX5_query_174 rfl ?_
              refine q_iload_n dX5_query_175 rfl ?_
              refine v_callV (M' := mX5_asks) [.int (nI a1)] [] kX5 dX5_query_176 wPX5_75v wIX5_asks wSX5_asks iX5_asks oX5_asks rfl hok H.1 (eX5_asks Sc Γ n (fX5_lower o ml a1 ((8 * a1) + a3) a4 (vset (vset V (o + 4) a1 (V (o + 4) a1)) (o + 5) a1 ((((vset V (o + 4) a1 (V (o + 4) a1)) (o + 1) a1) * ((vset V (o + 4) a1 (V (o + 4) a1)) (o + 2) a1)) + (((vset V (o + 4) a1 (V (o + 4) a1)) (o + 3) a1) / (nI 2))))) o ml H hm1 hml a1 (by omega)) (Nat.le_of_ble_eq_true rfl) (Nat.le_of_ble_eq_true rfl) (Nat.le_of_ble_eq_true rfl) rfl (fun h hok => ?_)
              exact q_iret dX5_query_179 rfl (q_bl.nar (bX5_asks o ml a1 ((fX5_lower o ml a1 ((8 * a1) + a3) a4 (vset (vset V (o + 4) a1 (V (o + 4) a1)) (o + 5) a1 ((((vset V (o + 4) a1 (V (o + 4) a1)) (o + 1) a1) * ((vset V (o + 4) a1 (V (o + 4) a1)) (o + 2) a1)) + (((vset V (o + 4) a1 (V (o + 4) a1)) (o + 3) a1) / (nI 2)))))))) (hQ _ _ (by dsimp only [vX5_query_g]; rw [if_neg c490, if_neg c491, if_pos c499, if_neg c502, if_pos c503, if_neg c504]) (by dsimp only [fX5_query_g]; rw [if_neg c490, if_neg c491, if_pos c499, if_neg c502, if_pos c503, if_neg c504]; exact hok))
      ·
        refine q_iload_n dX5_query_93 rfl ?_
        refine q_goto (tgt := 103) dX5_query_94 (by decide) ?_
        refine v_iast (by decide) dX5_query_103 hok H.2.2.2.2.1 (j := a1) (by omega) (fun h hok => ?_)
        refine q_aload_n dX5_query_104 rfl ?_
        refine v_getr 6 kX5 (by decide) wPX5_22 dX5_query_105 hok H.1 rfl ?_
        refine q_iload_n dX5_query_108 rfl ?_
        refine q_aload_n dX5_query_109 rfl ?_
        refine v_getr 2 kX5 (by decide) wPX5_7 dX5_query_110 hok H.1 rfl ?_
        refine q_iload_n dX5_query_113 rfl ?_
        refine v_iald (by decide) dX5_query_114 hok H.2.1 (j := a1) (by omega) ?_
        refine q_aload_n dX5_query_115 rfl ?_
        refine v_getr 3 kX5 (by decide) wPX5_13 dX5_query_116 hok H.1 rfl ?_
        refine q_iload_n dX5_query_119 rfl ?_
        refine v_iald (by decide) dX5_query_120 hok H.2.2.1 (j := a1) (by omega) ?_
        refine q_imul dX5_query_121 ?_
        refine q_aload_n dX5_query_122 rfl ?_
        refine v_getr 4 kX5 (by decide) wPX5_16 dX5_query_123 hok H.1 rfl ?_
        refine q_iload_n dX5_query_126 rfl ?_
        refine v_iald (by decide) dX5_query_127 hok H.2.2.2.1 (j := a1) (by omega) ?_
        refine q_iconst (v := nI 2) dX5_query_128 rfl ?_
        refine q_idiv dX5_query_129 (by decide) ?_
        refine q_iadd dX5_query_130 ?_
        refine v_iast (by decide) dX5_query_131 hok H.2.2.2.2.2.1 (j := a1) (by omega) (fun h hok => ?_)
        refine q_iload_n dX5_query_132 rfl ?_
        refine q_iconst (v := -1) dX5_query_133 rfl ?_
        refine q_icmp_eq (tgt := 174) dX5_query_134 (by decide) (fun c509 => ?_) (fun c509 => ?_)
        ·
          refine q_aload_n dX5_query_174 rfl ?_
          refine q_iload_n dX5_query_175 rfl ?_
          refine v_callV (M' := mX5_asks) [.int (nI a1)] [] kX5 dX5_query_176 wPX5_75v wIX5_asks wSX5_asks iX5_asks oX5_asks rfl hok H.1 (eX5_asks Sc Γ n (vset (vset V (o + 4) a1 (a2)) (o + 5) a1 ((((vset V (o + 4) a1 (a2)) (o + 1) a1) * ((vset V (o + 4) a1 (a2)) (o + 2) a1)) + (((vset V (o + 4) a1 (a2)) (o + 3) a1) / (nI 2)))) o ml H hm1 hml a1 (by omega)) (Nat.le_of_ble_eq_true rfl) (Nat.le_of_ble_eq_true rfl) (Nat.le_of_ble_eq_true rfl) rfl (fun h hok => ?_)
          exact q_iret dX5_query_179 rfl (q_bl.nar (bX5_asks o ml a1 ((vset (vset V (o + 4) a1 (a2)) (o + 5) a1 ((((vset V (o + 4) a1 (a2)) (o + 1) a1) * ((vset V (o + 4) a1 (a2)) (o + 2) a1)) + (((vset V (o + 4) a1 (a2)) (o + 3) a1) / (nI 2))))))) (hQ _ _ (by dsimp only [vX5_query_g]; rw [if_neg c490, if_neg c491, if_neg c499, if_pos c509]) (by dsimp only [fX5_query_g]; rw [if_neg c490, if_neg c491, if_neg c499, if_pos c509]; exact hok))
        ·
          refine q_iload dX5_query_137 rfl ?_
          refine q_if_ne (tgt := 174) dX5_query_139 (by decide) (fun c510 => ?_) (fun c510 => ?_)
          ·
            refine q_aload_n dX5_query_174 rfl ?_
            refine q_iload_n dX5_query_175 rfl ?_
            refine v_callV (M' := mX5_asks) [.int (nI a1)] [] kX5 dX5_query_176 wPX5_75v wIX5_asks wSX5_asks iX5_asks oX5_asks rfl hok H.1 (eX5_asks Sc Γ n (vset (vset V (o + 4) a1 (a2)) (o + 5) a1 ((((vset V (o + 4) a1 (a2)) (o + 1) a1) * ((vset V (o + 4) a1 (a2)) (o + 2) a1)) + (((vset V (o + 4) a1 (a2)) (o + 3) a1) / (nI 2)))) o ml H hm1 hml a1 (by omega)) (Nat.le_of_ble_eq_true rfl) (Nat.le_of_ble_eq_true rfl) (Nat.le_of_ble_eq_true rfl) rfl (fun h hok => ?_)
            exact q_iret dX5_query_179 rfl (q_bl.nar (bX5_asks o ml a1 ((vset (vset V (o + 4) a1 (a2)) (o + 5) a1 ((((vset V (o + 4) a1 (a2)) (o + 1) a1) * ((vset V (o + 4) a1 (a2)) (o + 2) a1)) + (((vset V (o + 4) a1 (a2)) (o + 3) a1) / (nI 2))))))) (hQ _ _ (by dsimp only [vX5_query_g]; rw [if_neg c490, if_neg c491, if_neg c499, if_neg c509, if_neg c510]) (by dsimp only [fX5_query_g]; rw [if_neg c490, if_neg c491, if_neg c499, if_neg c509, if_neg c510]; exact hok))
          ·
            refine q_iload dX5_query_142 rfl ?_
            refine q_if_eq (tgt := 163) dX5_query_144 (by decide) (fun c511 => ?_) (fun c511 => ?_)
            ·
              refine q_aload_n dX5_query_163 rfl ?_
              refine q_iload_n dX5_query_164 rfl ?_
              refine q_bipush (v := nI 8) dX5_query_165 rfl ?_
              refine q_iload_n dX5_query_167 rfl ?_
              refine t_imul_n dX5_query_168 ?_
              refine q_iload_n dX5_query_169 rfl ?_
              refine t_iadd_n dX5_query_170 ?_
              refine v_callV (M' := mX5_lowerGroup) [.int (nI a1), .int (nI ((8 * a1) + a3))] [] kX5 dX5_query_171 wPX5_86v wIX5_lowerGroup wSX5_lowerGroup iX5_lowerGroup oX5_lowerGroup rfl hok H.1 (eX5_lowerGroup Sc Γ n (vset (vset V (o + 4) a1 (a2)) (o + 5) a1 ((((vset V (o + 4) a1 (a2)) (o + 1) a1) * ((vset V (o + 4) a1 (a2)) (o + 2) a1)) + (((vset V (o + 4) a1 (a2)) (o + 3) a1) / (nI 2)))) o ml H hm1 hml a1 (by omega) ((8 * a1) + a3) (by omega)) (Nat.le_of_ble_eq_true rfl) (Nat.le_of_ble_eq_true rfl) (Nat.le_of_ble_eq_true rfl) rfl (fun h hok => ?_)
              refine q_aload_n dX5_query_174 rfl ?_
              refine q_iload_n dX5_query_175 rfl ?_
              refine v_callV (M' := mX5_asks) [.int (nI a1)] [] kX5 dX5_query_176 wPX5_75v wIX5_asks wSX5_asks iX5_asks oX5_asks rfl hok H.1 (eX5_asks Sc Γ n (fX5_lowerGroup o ml a1 ((8 * a1) + a3) (vset (vset V (o + 4) a1 (a2)) (o + 5) a1 ((((vset V (o + 4) a1 (a2)) (o + 1) a1) * ((vset V (o + 4) a1 (a2)) (o + 2) a1)) + (((vset V (o + 4) a1 (a2)) (o + 3) a1) / (nI 2))))) o ml H hm1 hml a1 (by omega)) (Nat.le_of_ble_eq_true rfl) (Nat.le_of_ble_eq_true rfl) (Nat.le_of_ble_eq_true rfl) rfl (fun h hok => ?_)
              exact q_iret dX5_query_179 rfl (q_bl.nar (bX5_asks o ml a1 ((fX5_lowerGroup o ml a1 ((8 * a1) + a3) (vset (vset V (o + 4) a1 (a2)) (o + 5) a1 ((((vset V (o + 4) a1 (a2)) (o + 1) a1) * ((vset V (o + 4) a1 (a2)) (o + 2) a1)) + (((vset V (o + 4) a1 (a2)) (o + 3) a1) / (nI 2)))))))) (hQ _ _ (by dsimp only [vX5_query_g]; rw [if_neg c490, if_neg c491, if_neg c499, if_neg c509, if_pos c510, if_pos c511]) (by dsimp only [fX5_query_g]; rw [if_neg c490, if_neg c491, if_neg c499, if_neg c509, if_pos c510, if_pos c511]; exact hok))
            ·
              refine q_aload_n dX5_query_147 rfl ?_
              refine q_iload_n dX5_query_148 rfl ?_
              refine q_bipush (v := nI 8) dX5_query_149 rfl ?_
              refine q_iload_n dX5_query_151 rfl ?_
              refine t_imul_n dX5_query_152 ?_
              refine q_iload_n dX5_query_153 rfl ?_
              refine t_iadd_n dX5_query_154 ?_
              refine q_iload dX5_query_155 rfl ?_
              refine v_callV (M' := mX5_lower) [.int (nI a1), .int (nI ((8 * a1) + a3)), .int (a4)] [] kX5 dX5_query_157 wPX5_83v wIX5_lower wSX5_lower iX5_lower oX5_lower rfl hok H.1 (eX5_lower Sc Γ n (vset (vset V (o + 4) a1 (a2)) (o + 5) a1 ((((vset V (o + 4) a1 (a2)) (o + 1) a1) * ((vset V (o + 4) a1 (a2)) (o + 2) a1)) + (((vset V (o + 4) a1 (a2)) (o + 3) a1) / (nI 2)))) o ml H hm1 hml a1 (by omega) ((8 * a1) + a3) (by omega) a4) (Nat.le_of_ble_eq_true rfl) (Nat.le_of_ble_eq_true rfl) (Nat.le_of_ble_eq_true rfl) rfl (fun h hok => ?_)
              refine q_goto (tgt := 174) dX5_query_160 (by decide) ?_
              refine q_aload_n dX5_query_174 rfl ?_
              refine q_iload_n dX5_query_175 rfl ?_
              refine v_callV (M' := mX5_asks) [.int (nI a1)] [] kX5 dX5_query_176 wPX5_75v wIX5_asks wSX5_asks iX5_asks oX5_asks rfl hok H.1 (eX5_asks Sc Γ n (fX5_lower o ml a1 ((8 * a1) + a3) a4 (vset (vset V (o + 4) a1 (a2)) (o + 5) a1 ((((vset V (o + 4) a1 (a2)) (o + 1) a1) * ((vset V (o + 4) a1 (a2)) (o + 2) a1)) + (((vset V (o + 4) a1 (a2)) (o + 3) a1) / (nI 2))))) o ml H hm1 hml a1 (by omega)) (Nat.le_of_ble_eq_true rfl) (Nat.le_of_ble_eq_true rfl) (Nat.le_of_ble_eq_true rfl) rfl (fun h hok => ?_)
              exact q_iret dX5_query_179 rfl (q_bl.nar (bX5_asks o ml a1 ((fX5_lower o ml a1 ((8 * a1) + a3) a4 (vset (vset V (o + 4) a1 (a2)) (o + 5) a1 ((((vset V (o + 4) a1 (a2)) (o + 1) a1) * ((vset V (o + 4) a1 (a2)) (o + 2) a1)) + (((vset V (o + 4) a1 (a2)) (o + 3) a1) / (nI 2)))))))) (hQ _ _ (by dsimp only [vX5_query_g]; rw [if_neg c490, if_neg c491, if_neg c499, if_neg c509, if_pos c510, if_neg c511]) (by dsimp only [fX5_query_g]; rw [if_neg c490, if_neg c491, if_neg c499, if_neg c509, if_pos c510, if_neg c511]; exact hok))
def fX5_tick (o ml : Nat) (a1 : Nat) (V : q_V) : q_V := let B514 := fun (k514 : Nat) (s514 : Int32 × q_V) => let g514a := s514.1; let W514 := s514.2; let V516 := vset W514 o 14 ((W514 o 14) + (nI 1)); let B517 := fun (k517 : Nat) (s517 : q_V) => let W517 := s517; let V519 := fX5_tickRecord o ml k517 W517; V519; let T517 := lp B517 (8 * ml) 0 V516; let B521 := fun (k521 : Nat) (s521 : Int32 × q_V) => let g521a := s521.1; let W521 := s521.2; let V523 := fX5_tickLink o ml k521 W521; if (vX5_tickLink o ml k521 W521) = 0 then ((g521a, V523)) else (((g521a) + (nI 1), V523)); let T521 := lp B521 ml 0 (g514a, T517); let V525 := T521.2; (T521.1, V525); let T514 := lp B514 a1 0 (nI 0, V); let V527 := T514.2; V527
def vX5_tick (o ml : Nat) (a1 : Nat) (V : q_V) : Int32 := let B514 := fun (k514 : Nat) (s514 : Int32 × q_V) => let g514a := s514.1; let W514 := s514.2; let V516 := vset W514 o 14 ((W514 o 14) + (nI 1)); let B517 := fun (k517 : Nat) (s517 : q_V) => let W517 := s517; let V519 := fX5_tickRecord o ml k517 W517; V519; let T517 := lp B517 (8 * ml) 0 V516; let B521 := fun (k521 : Nat) (s521 : Int32 × q_V) => let g521a := s521.1; let W521 := s521.2; let V523 := fX5_tickLink o ml k521 W521; if (vX5_tickLink o ml k521 W521) = 0 then ((g521a, V523)) else (((g521a) + (nI 1), V523)); let T521 := lp B521 ml 0 (g514a, T517); let V525 := T521.2; (T521.1, V525); let T514 := lp B514 a1 0 (nI 0, V); let V527 := T514.2; T514.1
set_option maxRecDepth 20000 in
set_option maxHeartbeats 4000000 in
theorem kX5_tick (Sc : q_S) (Γ : Nat → q_K) (n : Nat) (V : q_V) (o ml : Nat) (H : sM Γ o ml) (hm1 : 1 ≤ ml) (hml : ml ≤ 4) (a1 : Nat) (b1 : a1 < 2001) (b : Nat) (hb : b + 8004 ≤ 2000000000) (hS : SB V o b)  {kc ks : Nat} {Q : q_O → q_H → Nat → Prop} {h : q_H} (hQ : ∀ (O : q_O) (h' : q_H), O = .inl (some (.int (vX5_tick o ml a1 V))) → q_ok (gX Γ (fX5_tick o ml a1 V)) h' → Q O h' n) (hok : q_ok (gX Γ V) h) : q_A Sc mX5_tick 29 [.ref o, .int (nI a1), .retAddr 0, .retAddr 0, .retAddr 0] [] h n kc ks Q := by
  refine q_iconst (v := nI 0) dX5_tick_29 rfl ?_
  refine t_istore [.ref o, .int (nI a1), .int (nI 0), .retAddr 0, .retAddr 0] (Or.inl ⟨2, rfl, rfl, dX5_tick_30⟩) (by decide) rfl ?_
  refine q_iconst (v := nI 0) dX5_tick_31 rfl ?_
  refine t_istore [.ref o, .int (nI a1), .int (nI 0), .int (nI 0), .retAddr 0] (Or.inl ⟨3, rfl, rfl, dX5_tick_32⟩) (by decide) rfl ?_
  obtain ⟨B514, hB514⟩ : ∃ B_ : Nat → (Int32 × q_V) → (Int32 × q_V), B_ = (fun (k514 : Nat) (s514 : Int32 × q_V) => let g514a := s514.1; let W514 := s514.2; let B517 := fun (k517 : Nat) (s517 : q_V) => let W517 := s517; (fX5_tickRecord o ml k517 W517); let B521 := fun (k521 : Nat) (s521 : Int32 × q_V) => let g521a := s521.1; let W521 := s521.2; if (vX5_tickLink o ml k521 W521) = 0 then ((g521a, (fX5_tickLink o ml k521 W521))) else (((g521a) + (nI 1), (fX5_tickLink o ml k521 W521))); ((lp B521 ml 0 (g514a, (lp B517 (8 * ml) 0 (vset W514 o 14 ((W514 o 14) + (nI 1)))))).1, ((lp B521 ml 0 (g514a, (lp B517 (8 * ml) 0 (vset W514 o 14 ((W514 o 14) + (nI 1)))))).2))) := ⟨_, rfl⟩
  have hl514 : ∀ (d514 k514 : Nat) (g514a : Int32) (W514 : q_V) (h : q_H), k514 + d514 = a1 → lp B514 d514 k514 (g514a, W514) = (lp B514 a1 0 (nI 0, V)) → SB W514 o (b + 4 * k514) → q_ok (gX Γ W514) h → q_A Sc mX5_tick 33 [.ref o, .int (nI a1), .int (g514a), .int (nI k514), .retAddr 0] [] h n kc ks Q := by
    intro d514
    induction d514 with
    | zero =>
      intro k514 g514a W514 h e514 hT514 hS514 hok
      obtain ⟨hq5140, hq5141⟩ : g514a = ((lp B514 a1 0 (nI 0, V)).1) ∧ W514 = ((lp B514 a1 0 (nI 0, V)).2) := ⟨congrArg (fun q => q.1) hT514, congrArg (fun q => q.2) hT514⟩
      subst hq5140
      subst hq5141
      refine q_iload_n dX5_tick_33 rfl ?_
      refine q_iload_n dX5_tick_34 rfl ?_
      refine t_icmp_ge_n (tgt := 116) (by omega) (by omega) dX5_tick_35 (by decide) (fun c528 => ?_) (fun c528 => ?_)
      rotate_left
      · exact absurd c528 (by omega)
      refine q_iload_n dX5_tick_116 rfl ?_
      exact q_iret dX5_tick_117 rfl (rfl) (hQ _ _ (by subst hB514; dsimp only [vX5_tick]) (by subst hB514; dsimp only [fX5_tick]; exact hok))
    | succ d514 ih514 =>
      intro k514 g514a W514 h e514 hT514 hS514 hok
      refine q_iload_n dX5_tick_33 rfl ?_
      refine q_iload_n dX5_tick_34 rfl ?_
      refine t_icmp_ge_n (tgt := 116) (by omega) (by omega) dX5_tick_35 (by decide) (fun c515 => ?_) (fun c515 => ?_)
      · exact absurd c515 (by omega)
      refine q_aload_n dX5_tick_38 rfl ?_
      refine q_dup dX5_tick_39 rfl ?_
      refine v_geti 14 kX5 (by decide) wPX5_69 dX5_tick_40 hok H.1 rfl ?_
      refine q_iconst (v := nI 1) dX5_tick_43 rfl ?_
      refine q_iadd dX5_tick_44 ?_
      refine v_puti 14 kX5 (by decide) wPX5_69 rfl dX5_tick_45 hok H.1 rfl ⟨rfl, rfl⟩ (fun h hok => ?_)
      refine q_iconst (v := nI 0) dX5_tick_48 rfl ?_
      refine t_istore [.ref o, .int (nI a1), .int (g514a), .int (nI k514), .int (nI 0)] (Or.inr ⟨rfl, dX5_tick_49⟩) (by decide) rfl ?_
      obtain ⟨B517, hB517⟩ : ∃ B_ : Nat → q_V → q_V, B_ = (fun (k517 : Nat) (s517 : q_V) => let W517 := s517; (fX5_tickRecord o ml k517 W517)) := ⟨_, rfl⟩
      have hl517 : ∀ (d517 k517 : Nat) (W517 : q_V) (h : q_H), k517 + d517 = 8 * ml → lp B517 d517 k517 W517 = (lp B517 (8 * ml) 0 (vset W514 o 14 ((W514 o 14) + (nI 1)))) → SB W517 o (b + 4 * k514) → q_ok (gX Γ W517) h → q_A Sc mX5_tick 51 [.ref o, .int (nI a1), .int (g514a), .int (nI k514), .int (nI k517)] [] h n kc ks Q := by
        intro d517
        induction d517 with
        | zero =>
          intro k517  W517 h e517 hT517 hS517 hok
          have hT517 : W517 = (lp B517 (8 * ml) 0 (vset W514 o 14 ((W514 o 14) + (nI 1)))) := hT517
          subst hT517
          refine q_iload dX5_tick_51 rfl ?_
          refine q_bipush (v := nI 8) dX5_tick_53 rfl ?_
          refine q_aload_n dX5_tick_55 rfl ?_
          refine v_getc 1 kX5 (by decide) wPX5_59 dX5_tick_56 hok H.1 rfl ?_
          refine t_imul_n dX5_tick_59 ?_
          refine t_icmp_ge_n (tgt := 75) (by omega) (by omega) dX5_tick_60 (by decide) (fun c520 => ?_) (fun c520 => ?_)
          rotate_left
          · exact absurd c520 (by omega)
          refine q_iconst (v := nI 0) dX5_tick_75 rfl ?_
          refine t_istore [.ref o, .int (nI a1), .int (g514a), .int (nI k514), .int (nI 0)] (Or.inr ⟨rfl, dX5_tick_76⟩) (by decide) rfl ?_
          obtain ⟨B521, hB521⟩ : ∃ B_ : Nat → (Int32 × q_V) → (Int32 × q_V), B_ = (fun (k521 : Nat) (s521 : Int32 × q_V) => let g521a := s521.1; let W521 := s521.2; if (vX5_tickLink o ml k521 W521) = 0 then ((g521a, (fX5_tickLink o ml k521 W521))) else (((g521a) + (nI 1), (fX5_tickLink o ml k521 W521)))) := ⟨_, rfl⟩
          have hl521 : ∀ (d521 k521 : Nat) (g521a : Int32) (W521 : q_V) (h : q_H), k521 + d521 = ml → lp B521 d521 k521 (g521a, W521) = (lp B521 ml 0 (g514a, (lp B517 (8 * ml) 0 (vset W514 o 14 ((W514 o 14) + (nI 1)))))) → SB W521 o (b + 4 * k514 + k521) → q_ok (gX Γ W521) h → q_A Sc mX5_tick 78 [.ref o, .int (nI a1), .int (g521a), .int (nI k514), .int (nI k521)] [] h n kc ks Q := by
            intro d521
            induction d521 with
            | zero =>
              intro k521 g521a W521 h e521 hT521 hS521 hok
              obtain ⟨hq5210, hq5211⟩ : g521a = ((lp B521 ml 0 (g514a, (lp B517 (8 * ml) 0 (vset W514 o 14 ((W514 o 14) + (nI 1)))))).1) ∧ W521 = ((lp B521 ml 0 (g514a, (lp B517 (8 * ml) 0 (vset W514 o 14 ((W514 o 14) + (nI 1)))))).2) := ⟨congrArg (fun q => q.1) hT521, congrArg (fun q => q.2) hT521⟩
              subst hq5210
              subst hq5211
              refine q_iload dX5_tick_78 rfl ?_
              refine q_aload_n dX5_tick_80 rfl ?_
              refine v_getc 1 kX5 (by decide) wPX5_59 dX5_tick_81 hok H.1 rfl ?_
              refine t_icmp_ge_n (tgt := 110) (by omega) (by omega) dX5_tick_84 (by decide) (fun c526 => ?_) (fun c526 => ?_)
              rotate_left
              · exact absurd c526 (by omega)
              refine t_iinc_n [.ref o, .int (nI a1), .int ((lp B521 ml 0 (g514a, (lp B517 (8 * ml) 0 (vset W514 o 14 ((W514 o 14) + (nI 1)))))).1), .int (nI (k514 + 1)), .int (nI k521)] dX5_tick_110 rfl (by decide) rfl ?_
              refine q_goto (tgt := 33) dX5_tick_113 (by decide) ?_
              refine q_weak [.ref o, .int (nI a1), .int ((lp B521 ml 0 (g514a, (lp B517 (8 * ml) 0 (vset W514 o 14 ((W514 o 14) + (nI 1)))))).1), .int (nI (k514 + 1)), .retAddr 0] ⟨Or.inl rfl, Or.inl rfl, Or.inl rfl, Or.inl rfl, Or.inr ⟨0, rfl⟩, trivial⟩ ?_
              exact ih514 (k514 + 1) ((lp B521 ml 0 (g514a, (lp B517 (8 * ml) 0 (vset W514 o 14 ((W514 o 14) + (nI 1)))))).1) (((lp B521 ml 0 (g514a, (lp B517 (8 * ml) 0 (vset W514 o 14 ((W514 o 14) + (nI 1)))))).2)) h (by omega) ((congrArg (lp B514 d514 (k514 + 1)) (show ((lp B521 ml 0 (g514a, (lp B517 (8 * ml) 0 (vset W514 o 14 ((W514 o 14) + (nI 1)))))).1, ((lp B521 ml 0 (g514a, (lp B517 (8 * ml) 0 (vset W514 o 14 ((W514 o 14) + (nI 1)))))).2)) = B514 k514 (g514a, W514) from by subst hB521; subst hB517; rw [hB514] <;> dsimp only)).trans hT514) (hS521.mo (by omega)) hok
            | succ d521 ih521 =>
              intro k521 g521a W521 h e521 hT521 hS521 hok
              refine q_iload dX5_tick_78 rfl ?_
              refine q_aload_n dX5_tick_80 rfl ?_
              refine v_getc 1 kX5 (by decide) wPX5_59 dX5_tick_81 hok H.1 rfl ?_
              refine t_icmp_ge_n (tgt := 110) (by omega) (by omega) dX5_tick_84 (by decide) (fun c522 => ?_) (fun c522 => ?_)
              · exact absurd c522 (by omega)
              refine q_aload_n dX5_tick_87 rfl ?_
              refine q_iload dX5_tick_88 rfl ?_
              refine v_callV (M' := mX5_tickLink) [.int (nI k521)] [] kX5 dX5_tick_90 wPX5_133v wIX5_tickLink wSX5_tickLink iX5_tickLink oX5_tickLink rfl hok H.1 (eX5_tickLink Sc Γ n W521 o ml H hm1 hml k521 (by omega) (b + 4 * k514 + k521) (by omega) hS521) (Nat.le_of_ble_eq_true rfl) (Nat.le_of_ble_eq_true rfl) (Nat.le_of_ble_eq_true rfl) rfl (fun h hok => ?_)
              refine q_if_eq (tgt := 102) dX5_tick_93 (by decide) (fun c524 => ?_) (fun c524 => ?_)
              ·
                refine q_iload_n dX5_tick_102 rfl ?_
                refine t_istore [.ref o, .int (nI a1), .int (g521a), .int (nI k514), .int (nI k521)] (Or.inl ⟨2, rfl, rfl, dX5_tick_103⟩) (by decide) rfl ?_
                refine t_iinc_n [.ref o, .int (nI a1), .int (g521a), .int (nI k514), .int (nI (k521 + 1))] dX5_tick_104 rfl (by decide) rfl ?_
                refine q_goto (tgt := 78) dX5_tick_107 (by decide) ?_
                exact ih521 (k521 + 1) g521a ((fX5_tickLink o ml k521 W521)) h (by omega) ((congrArg (lp B521 d521 (k521 + 1)) (show (g521a, (fX5_tickLink o ml k521 W521)) = B521 k521 (g521a, W521) from by rw [hB521]; dsimp only; rw [if_pos c524])).trans hT521) ((SX5_tickLink o ml k521 hS521 (by omega)).mo (by omega)) hok
              ·
                refine q_iload_n dX5_tick_96 rfl ?_
                refine q_iconst (v := nI 1) dX5_tick_97 rfl ?_
                refine q_iadd dX5_tick_98 ?_
                refine q_goto (tgt := 103) dX5_tick_99 (by decide) ?_
                refine t_istore [.ref o, .int (nI a1), .int ((g521a) + (nI 1)), .int (nI k514), .int (nI k521)] (Or.inl ⟨2, rfl, rfl, dX5_tick_103⟩) (by decide) rfl ?_
                refine t_iinc_n [.ref o, .int (nI a1), .int ((g521a) + (nI 1)), .int (nI k514), .int (nI (k521 + 1))] dX5_tick_104 rfl (by decide) rfl ?_
                refine q_goto (tgt := 78) dX5_tick_107 (by decide) ?_
                exact ih521 (k521 + 1) ((g521a) + (nI 1)) ((fX5_tickLink o ml k521 W521)) h (by omega) ((congrArg (lp B521 d521 (k521 + 1)) (show ((g521a) + (nI 1), (fX5_tickLink o ml k521 W521)) = B521 k521 (g521a, W521) from by rw [hB521]; dsimp only; rw [if_neg c524])).trans hT521) ((SX5_tickLink o ml k521 hS521 (by omega)).mo (by omega)) hok
          exact hl521 ml 0 g514a ((lp B517 (8 * ml) 0 (vset W514 o 14 ((W514 o 14) + (nI 1))))) h (by omega) rfl (hS517.mo (by omega)) hok
        | succ d517 ih517 =>
          intro k517  W517 h e517 hT517 hS517 hok
          refine q_iload dX5_tick_51 rfl ?_
          refine q_bipush (v := nI 8) dX5_tick_53 rfl ?_
          refine q_aload_n dX5_tick_55 rfl ?_
          refine v_getc 1 kX5 (by decide) wPX5_59 dX5_tick_56 hok H.1 rfl ?_
          refine t_imul_n dX5_tick_59 ?_
          refine t_icmp_ge_n (tgt := 75) (by omega) (by omega) dX5_tick_60 (by decide) (fun c518 => ?_) (fun c518 => ?_)
          · exact absurd c518 (by omega)
          refine q_aload_n dX5_tick_63 rfl ?_
          refine q_iload dX5_tick_64 rfl ?_
          refine v_callV (M' := mX5_tickRecord) [.int (nI k517)] [] kX5 dX5_tick_66 wPX5_129v wIX5_tickRecord wSX5_tickRecord iX5_tickRecord oX5_tickRecord rfl hok H.1 (eX5_tickRecord Sc Γ n W517 o ml H hm1 hml k517 (by omega)) (Nat.le_of_ble_eq_true rfl) (Nat.le_of_ble_eq_true rfl) (Nat.le_of_ble_eq_true rfl) rfl (fun h hok => ?_)
          refine t_iinc_n [.ref o, .int (nI a1), .int (g514a), .int (nI k514), .int (nI (k517 + 1))] dX5_tick_69 rfl (by decide) rfl ?_
          refine q_goto (tgt := 51) dX5_tick_72 (by decide) ?_
          exact ih517 (k517 + 1) ((fX5_tickRecord o ml k517 W517)) h (by omega) ((congrArg (lp B517 d517 (k517 + 1)) (show (fX5_tickRecord o ml k517 W517) = B517 k517 W517 from by rw [hB517] <;> dsimp only)).trans hT517) ((SX5_tickRecord o ml k517 hS517).mo (by omega)) hok
      exact hl517 (8 * ml) 0  ((vset W514 o 14 ((W514 o 14) + (nI 1)))) h (by omega) rfl ((SB.vs hS514 (by first | exact Or.inr (by decide) | exact Or.inl (by omega))).mo (by omega)) hok
  exact hl514 a1 0 (nI 0) V h (by omega) rfl (hS.mo (by omega)) hok
def fX5_member (o ml : Nat) (a1 : Nat) (a2 : Nat) (a3 : Nat) (a4 : Int32) (a5 : Int32) (V : q_V) : q_V := let V529 := vset V (o + 11) (((48 * a1) + (8 * a2)) + a3) (a4); let V530 := vset V529 (o + 12) (((48 * a1) + (8 * a2)) + a3) (a5); if (V (o + 11) (((48 * a1) + (8 * a2)) + a3)) = a4 then (if a4 = 0 then (if ((a5) &&& ((V (o + 12) (((48 * a1) + (8 * a2)) + a3)) ^^^ (-1))) = 0 then (if ((V (o + 12) (((48 * a1) + (8 * a2)) + a3)) &&& ((a5) ^^^ (-1))) = 0 then (V530) else (let V536 := fX5_reported_5 o ml a1 a3 ((V (o + 12) (((48 * a1) + (8 * a2)) + a3)) &&& ((a5) ^^^ (-1))) V530; V536)) else (let V537 := fX5_reported_4 o ml a1 a3 ((a5) &&& ((V (o + 12) (((48 * a1) + (8 * a2)) + a3)) ^^^ (-1))) V530; if ((V (o + 12) (((48 * a1) + (8 * a2)) + a3)) &&& ((a5) ^^^ (-1))) = 0 then (V537) else (let V539 := fX5_reported_5 o ml a1 a3 ((V (o + 12) (((48 * a1) + (8 * a2)) + a3)) &&& ((a5) ^^^ (-1))) V537; V539))) else (if ((V (o + 12) (((48 * a1) + (8 * a2)) + a3)) &&& ((a5) ^^^ (-1))) = 0 then (if ((a5) &&& ((V (o + 12) (((48 * a1) + (8 * a2)) + a3)) ^^^ (-1))) = 0 then (V530) else (let V543 := fX5_reported_5 o ml a1 a3 ((a5) &&& ((V (o + 12) (((48 * a1) + (8 * a2)) + a3)) ^^^ (-1))) V530; V543)) else (let V544 := fX5_reported_4 o ml a1 a3 ((V (o + 12) (((48 * a1) + (8 * a2)) + a3)) &&& ((a5) ^^^ (-1))) V530; if ((a5) &&& ((V (o + 12) (((48 * a1) + (8 * a2)) + a3)) ^^^ (-1))) = 0 then (V544) else (let V546 := fX5_reported_5 o ml a1 a3 ((a5) &&& ((V (o + 12) (((48 * a1) + (8 * a2)) + a3)) ^^^ (-1))) V544; V546)))) else (if a4 = 0 then (let V548 := fX5_reported_2 o ml a1 a3 a5 V530; V548) else (let V549 := fX5_reported_3 o ml a1 a3 a5 V530; V549))
def vX5_member (o ml : Nat) (a1 : Nat) (a2 : Nat) (a3 : Nat) (a4 : Int32) (a5 : Int32) (V : q_V) : Int32 := let V529 := vset V (o + 11) (((48 * a1) + (8 * a2)) + a3) (a4); let V530 := vset V529 (o + 12) (((48 * a1) + (8 * a2)) + a3) (a5); if (V (o + 11) (((48 * a1) + (8 * a2)) + a3)) = a4 then (if a4 = 0 then (if ((a5) &&& ((V (o + 12) (((48 * a1) + (8 * a2)) + a3)) ^^^ (-1))) = 0 then (if ((V (o + 12) (((48 * a1) + (8 * a2)) + a3)) &&& ((a5) ^^^ (-1))) = 0 then (((V530 o 15) - (V530 o 15))) else (let V536 := fX5_reported_5 o ml a1 a3 ((V (o + 12) (((48 * a1) + (8 * a2)) + a3)) &&& ((a5) ^^^ (-1))) V530; ((V536 o 15) - (V530 o 15)))) else (let V537 := fX5_reported_4 o ml a1 a3 ((a5) &&& ((V (o + 12) (((48 * a1) + (8 * a2)) + a3)) ^^^ (-1))) V530; if ((V (o + 12) (((48 * a1) + (8 * a2)) + a3)) &&& ((a5) ^^^ (-1))) = 0 then (((V537 o 15) - (V530 o 15))) else (let V539 := fX5_reported_5 o ml a1 a3 ((V (o + 12) (((48 * a1) + (8 * a2)) + a3)) &&& ((a5) ^^^ (-1))) V537; ((V539 o 15) - (V530 o 15))))) else (if ((V (o + 12) (((48 * a1) + (8 * a2)) + a3)) &&& ((a5) ^^^ (-1))) = 0 then (if ((a5) &&& ((V (o + 12) (((48 * a1) + (8 * a2)) + a3)) ^^^ (-1))) = 0 then (((V530 o 15) - (V530 o 15))) else (let V543 := fX5_reported_5 o ml a1 a3 ((a5) &&& ((V (o + 12) (((48 * a1) + (8 * a2)) + a3)) ^^^ (-1))) V530; ((V543 o 15) - (V530 o 15)))) else (let V544 := fX5_reported_4 o ml a1 a3 ((V (o + 12) (((48 * a1) + (8 * a2)) + a3)) &&& ((a5) ^^^ (-1))) V530; if ((a5) &&& ((V (o + 12) (((48 * a1) + (8 * a2)) + a3)) ^^^ (-1))) = 0 then (((V544 o 15) - (V530 o 15))) else (let V546 := fX5_reported_5 o ml a1 a3 ((a5) &&& ((V (o + 12) (((48 * a1) + (8 * a2)) + a3)) ^^^ (-1))) V544; ((V546 o 15) - (V530 o 15)))))) else (if a4 = 0 then (let V548 := fX5_reported_2 o ml a1 a3 a5 V530; ((V548 o 15) - (V530 o 15))) else (let V549 := fX5_reported_3 o ml a1 a3 a5 V530; ((V549 o 15) - (V530 o 15))))
set_option maxRecDepth 20000 in
set_option maxHeartbeats 4000000 in
theorem kX5_member (Sc : q_S) (Γ : Nat → q_K) (n : Nat) (V : q_V) (o ml : Nat) (H : sM Γ o ml) (hm1 : 1 ≤ ml) (hml : ml ≤ 4) (a1 : Nat) (b1 : a1 < ml) (a2 : Nat) (b2 : a2 < 6) (a3 : Nat) (b3 : a3 < 8) (a4 : Int32) (b4 : q_bl a4) (a5 : Int32) (b : Nat) (hb : b + 4 ≤ 2000000000) (hS : SB V o b)  {kc ks : Nat} {Q : q_O → q_H → Nat → Prop} {h : q_H} (hQ : ∀ (O : q_O) (h' : q_H), O = .inl (some (.int (vX5_member o ml a1 a2 a3 a4 a5 V))) → q_ok (gX Γ (fX5_member o ml a1 a2 a3 a4 a5 V)) h' → Q O h' n) (hok : q_ok (gX Γ V) h) : q_A Sc mX5_member 60 [.ref o, .int (nI a1), .int (nI a2), .int (nI a3), .int (a4), .int (a5), .retAddr 0, .retAddr 0, .retAddr 0, .retAddr 0, .retAddr 0, .retAddr 0, .retAddr 0] [] h n kc ks Q := by
  refine q_bipush (v := nI 48) dX5_member_60 rfl ?_
  refine q_iload_n dX5_member_62 rfl ?_
  refine t_imul_n dX5_member_63 ?_
  refine q_bipush (v := nI 8) dX5_member_64 rfl ?_
  refine q_iload_n dX5_member_66 rfl ?_
  refine t_imul_n dX5_member_67 ?_
  refine t_iadd_n dX5_member_68 ?_
  refine q_iload_n dX5_member_69 rfl ?_
  refine t_iadd_n dX5_member_70 ?_
  refine t_istore [.ref o, .int (nI a1), .int (nI a2), .int (nI a3), .int (a4), .int (a5), .int (nI (((48 * a1) + (8 * a2)) + a3)), .retAddr 0, .retAddr 0, .retAddr 0, .retAddr 0, .retAddr 0, .retAddr 0] (Or.inr ⟨rfl, dX5_member_71⟩) (by decide) rfl ?_
  refine q_aload_n dX5_member_73 rfl ?_
  refine v_getr 12 kX5 (by decide) wPX5_40 dX5_member_74 hok H.1 rfl ?_
  refine q_iload dX5_member_77 rfl ?_
  refine v_zald (by decide) dX5_member_79 hok H.2.2.2.2.2.2.2.2.2.2.2.1 (j := ((48 * a1) + (8 * a2)) + a3) (by omega) ?_
  refine t_istore [.ref o, .int (nI a1), .int (nI a2), .int (nI a3), .int (a4), .int (a5), .int (nI (((48 * a1) + (8 * a2)) + a3)), .int (V (o + 11) (((48 * a1) + (8 * a2)) + a3)), .retAddr 0, .retAddr 0, .retAddr 0, .retAddr 0, .retAddr 0] (Or.inr ⟨rfl, dX5_member_80⟩) (by decide) rfl ?_
  refine q_aload_n dX5_member_82 rfl ?_
  refine v_getr 13 kX5 (by decide) wPX5_44 dX5_member_83 hok H.1 rfl ?_
  refine q_iload dX5_member_86 rfl ?_
  refine v_iald (by decide) dX5_member_88 hok H.2.2.2.2.2.2.2.2.2.2.2.2.1 (j := ((48 * a1) + (8 * a2)) + a3) (by omega) ?_
  refine t_istore [.ref o, .int (nI a1), .int (nI a2), .int (nI a3), .int (a4), .int (a5), .int (nI (((48 * a1) + (8 * a2)) + a3)), .int (V (o + 11) (((48 * a1) + (8 * a2)) + a3)), .int (V (o + 12) (((48 * a1) + (8 * a2)) + a3)), .retAddr 0, .retAddr 0, .retAddr 0, .retAddr 0] (Or.inr ⟨rfl, dX5_member_89⟩) (by decide) rfl ?_
  refine q_aload_n dX5_member_91 rfl ?_
  refine v_getr 12 kX5 (by decide) wPX5_40 dX5_member_92 hok H.1 rfl ?_
  refine q_iload dX5_member_95 rfl ?_
  refine q_iload dX5_member_97 rfl ?_
  refine v_zast (by decide) dX5_member_99 hok H.2.2.2.2.2.2.2.2.2.2.2.1 (j := ((48 * a1) + (8 * a2)) + a3) (by omega) (q_bl.vp b4) (fun h hok => ?_)
  refine q_aload_n dX5_member_100 rfl ?_
  refine v_getr 13 kX5 (by decide) wPX5_44 dX5_member_101 hok H.1 rfl ?_
  refine q_iload dX5_member_104 rfl ?_
  refine q_iload dX5_member_106 rfl ?_
  refine v_iast (by decide) dX5_member_108 hok H.2.2.2.2.2.2.2.2.2.2.2.2.1 (j := ((48 * a1) + (8 * a2)) + a3) (by omega) (fun h hok => ?_)
  refine q_aload_n dX5_member_109 rfl ?_
  refine v_geti 15 kX5 (by decide) wPX5_72 dX5_member_110 hok H.1 rfl ?_
  refine t_istore [.ref o, .int (nI a1), .int (nI a2), .int (nI a3), .int (a4), .int (a5), .int (nI (((48 * a1) + (8 * a2)) + a3)), .int (V (o + 11) (((48 * a1) + (8 * a2)) + a3)), .int (V (o + 12) (((48 * a1) + (8 * a2)) + a3)), .int ((vset (vset V (o + 11) (((48 * a1) + (8 * a2)) + a3) (a4)) (o + 12) (((48 * a1) + (8 * a2)) + a3) (a5)) o 15), .retAddr 0, .retAddr 0, .retAddr 0] (Or.inr ⟨rfl, dX5_member_113⟩) (by decide) rfl ?_
  refine q_iload dX5_member_115 rfl ?_
  refine q_iload dX5_member_117 rfl ?_
  refine q_icmp_eq (tgt := 145) dX5_member_119 (by decide) (fun c531 => ?_) (fun c531 => ?_)
  ·
    refine q_iload dX5_member_145 rfl ?_
    refine q_if_eq (tgt := 160) dX5_member_147 (by decide) (fun c532 => ?_) (fun c532 => ?_)
    ·
      refine q_iload dX5_member_160 rfl ?_
      refine q_iload dX5_member_162 rfl ?_
      refine q_iconst (v := -1) dX5_member_164 rfl ?_
      refine q_ixor dX5_member_165 ?_
      refine q_iand dX5_member_166 ?_
      refine t_istore [.ref o, .int (nI a1), .int (nI a2), .int (nI a3), .int (a4), .int (a5), .int (nI (((48 * a1) + (8 * a2)) + a3)), .int (V (o + 11) (((48 * a1) + (8 * a2)) + a3)), .int (V (o + 12) (((48 * a1) + (8 * a2)) + a3)), .int ((vset (vset V (o + 11) (((48 * a1) + (8 * a2)) + a3) (a4)) (o + 12) (((48 * a1) + (8 * a2)) + a3) (a5)) o 15), .int ((a5) &&& ((V (o + 12) (((48 * a1) + (8 * a2)) + a3)) ^^^ (-1))), .retAddr 0, .retAddr 0] (Or.inr ⟨rfl, dX5_member_167⟩) (by decide) rfl ?_
      refine q_iload dX5_member_169 rfl ?_
      refine q_if_eq (tgt := 184) dX5_member_171 (by decide) (fun c533 => ?_) (fun c533 => ?_)
      rotate_left
      · exact absurd c532 c533
      refine q_iload dX5_member_184 rfl ?_
      refine q_iload dX5_member_186 rfl ?_
      refine q_iconst (v := -1) dX5_member_188 rfl ?_
      refine q_ixor dX5_member_189 ?_
      refine q_iand dX5_member_190 ?_
      refine t_istore [.ref o, .int (nI a1), .int (nI a2), .int (nI a3), .int (a4), .int (a5), .int (nI (((48 * a1) + (8 * a2)) + a3)), .int (V (o + 11) (((48 * a1) + (8 * a2)) + a3)), .int (V (o + 12) (((48 * a1) + (8 * a2)) + a3)), .int ((vset (vset V (o + 11) (((48 * a1) + (8 * a2)) + a3) (a4)) (o + 12) (((48 * a1) + (8 * a2)) + a3) (a5)) o 15), .int ((a5) &&& ((V (o + 12) (((48 * a1) + (8 * a2)) + a3)) ^^^ (-1))), .int ((V (o + 12) (((48 * a1) + (8 * a2)) + a3)) &&& ((a5) ^^^ (-1))), .retAddr 0] (Or.inr ⟨rfl, dX5_member_191⟩) (by decide) rfl ?_
      refine q_iload dX5_member_193 rfl ?_
      refine q_if_eq (tgt := 209) dX5_member_195 (by decide) (fun c534 => ?_) (fun c534 => ?_)
      ·
        refine q_iload dX5_member_209 rfl ?_
        refine q_if_eq (tgt := 225) dX5_member_211 (by decide) (fun c535 => ?_) (fun c535 => ?_)
        ·
          refine q_aload_n dX5_member_225 rfl ?_
          refine v_geti 15 kX5 (by decide) wPX5_72 dX5_member_226 hok H.1 rfl ?_
          refine q_iload dX5_member_229 rfl ?_
          refine q_isub dX5_member_231 ?_
          exact q_iret dX5_member_232 rfl (rfl) (hQ _ _ (by dsimp only [vX5_member]; rw [if_pos c531, if_pos c532, if_pos c534, if_pos c535]) (by dsimp only [fX5_member]; rw [if_pos c531, if_pos c532, if_pos c534, if_pos c535]; exact hok))
        ·
          refine q_aload_n dX5_member_214 rfl ?_
          refine q_iload_n dX5_member_215 rfl ?_
          refine q_iload_n dX5_member_216 rfl ?_
          refine q_iconst (v := nI 5) dX5_member_217 rfl ?_
          refine q_iload dX5_member_218 rfl ?_
          refine v_callV (M' := mX5_reported) [.int (nI a1), .int (nI a3), .int (nI 5), .int ((V (o + 12) (((48 * a1) + (8 * a2)) + a3)) &&& ((a5) ^^^ (-1)))] [] kX5 dX5_member_220 wPX5_125v wIX5_reported wSX5_reported iX5_reported oX5_reported rfl hok H.1 (eX5_reported_5 Sc Γ n (vset (vset V (o + 11) (((48 * a1) + (8 * a2)) + a3) (a4)) (o + 12) (((48 * a1) + (8 * a2)) + a3) (a5)) o ml H hm1 hml a1 (by omega) a3 (by omega) ((V (o + 12) (((48 * a1) + (8 * a2)) + a3)) &&& ((a5) ^^^ (-1))) (b) (by omega) (SB.vs (SB.vs hS (by first | exact Or.inr (by decide) | exact Or.inl (by omega))) (by first | exact Or.inr (by decide) | exact Or.inl (by omega)))) (Nat.le_of_ble_eq_true rfl) (Nat.le_of_ble_eq_true rfl) (Nat.le_of_ble_eq_true rfl) rfl (fun h hok => ?_)
          refine t_istore [.ref o, .int (nI a1), .int (nI a2), .int (nI a3), .int (a4), .int (a5), .int (nI (((48 * a1) + (8 * a2)) + a3)), .int (V (o + 11) (((48 * a1) + (8 * a2)) + a3)), .int (V (o + 12) (((48 * a1) + (8 * a2)) + a3)), .int ((vset (vset V (o + 11) (((48 * a1) + (8 * a2)) + a3) (a4)) (o + 12) (((48 * a1) + (8 * a2)) + a3) (a5)) o 15), .int ((a5) &&& ((V (o + 12) (((48 * a1) + (8 * a2)) + a3)) ^^^ (-1))), .int ((V (o + 12) (((48 * a1) + (8 * a2)) + a3)) &&& ((a5) ^^^ (-1))), .int (vX5_reported_5 o ml a1 a3 ((V (o + 12) (((48 * a1) + (8 * a2)) + a3)) &&& ((a5) ^^^ (-1))) (vset (vset V (o + 11) (((48 * a1) + (8 * a2)) + a3) (a4)) (o + 12) (((48 * a1) + (8 * a2)) + a3) (a5)))] (Or.inr ⟨rfl, dX5_member_223⟩) (by decide) rfl ?_
          refine q_aload_n dX5_member_225 rfl ?_
          refine v_geti 15 kX5 (by decide) wPX5_72 dX5_member_226 hok H.1 rfl ?_
          refine q_iload dX5_member_229 rfl ?_
          refine q_isub dX5_member_231 ?_
          exact q_iret dX5_member_232 rfl (rfl) (hQ _ _ (by dsimp only [vX5_member]; rw [if_pos c531, if_pos c532, if_pos c534, if_neg c535]) (by dsimp only [fX5_member]; rw [if_pos c531, if_pos c532, if_pos c534, if_neg c535]; exact hok))
      ·
        refine q_aload_n dX5_member_198 rfl ?_
        refine q_iload_n dX5_member_199 rfl ?_
        refine q_iload_n dX5_member_200 rfl ?_
        refine q_iconst (v := nI 4) dX5_member_201 rfl ?_
        refine q_iload dX5_member_202 rfl ?_
        refine v_callV (M' := mX5_reported) [.int (nI a1), .int (nI a3), .int (nI 4), .int ((a5) &&& ((V (o + 12) (((48 * a1) + (8 * a2)) + a3)) ^^^ (-1)))] [] kX5 dX5_member_204 wPX5_125v wIX5_reported wSX5_reported iX5_reported oX5_reported rfl hok H.1 (eX5_reported_4 Sc Γ n (vset (vset V (o + 11) (((48 * a1) + (8 * a2)) + a3) (a4)) (o + 12) (((48 * a1) + (8 * a2)) + a3) (a5)) o ml H hm1 hml a1 (by omega) a3 (by omega) ((a5) &&& ((V (o + 12) (((48 * a1) + (8 * a2)) + a3)) ^^^ (-1))) (b) (by omega) (SB.vs (SB.vs hS (by first | exact Or.inr (by decide) | exact Or.inl (by omega))) (by first | exact Or.inr (by decide) | exact Or.inl (by omega)))) (Nat.le_of_ble_eq_true rfl) (Nat.le_of_ble_eq_true rfl) (Nat.le_of_ble_eq_true rfl) rfl (fun h hok => ?_)
        refine t_istore [.ref o, .int (nI a1), .int (nI a2), .int (nI a3), .int (a4), .int (a5), .int (nI (((48 * a1) + (8 * a2)) + a3)), .int (V (o + 11) (((48 * a1) + (8 * a2)) + a3)), .int (V (o + 12) (((48 * a1) + (8 * a2)) + a3)), .int ((vset (vset V (o + 11) (((48 * a1) + (8 * a2)) + a3) (a4)) (o + 12) (((48 * a1) + (8 * a2)) + a3) (a5)) o 15), .int ((a5) &&& ((V (o + 12) (((48 * a1) + (8 * a2)) + a3)) ^^^ (-1))), .int ((V (o + 12) (((48 * a1) + (8 * a2)) + a3)) &&& ((a5) ^^^ (-1))), .int (vX5_reported_4 o ml a1 a3 ((a5) &&& ((V (o + 12) (((48 * a1) + (8 * a2)) + a3)) ^^^ (-1))) (vset (vset V (o + 11) (((48 * a1) + (8 * a2)) + a3) (a4)) (o + 12) (((48 * a1) + (8 * a2)) + a3) (a5)))] (Or.inr ⟨rfl, dX5_member_207⟩) (by decide) rfl ?_
        refine q_iload dX5_member_209 rfl ?_
        refine q_if_eq (tgt := 225) dX5_member_211 (by decide) (fun c538 => ?_) (fun c538 => ?_)
        ·
          refine q_aload_n dX5_member_225 rfl ?_
          refine v_geti 15 kX5 (by decide) wPX5_72 dX5_member_226 hok H.1 rfl ?_
          refine q_iload dX5_member_229 rfl ?_
          refine q_isub dX5_member_231 ?_
          exact q_iret dX5_member_232 rfl (rfl) (hQ _ _ (by dsimp only [vX5_member]; rw [if_pos c531, if_pos c532, if_neg c534, if_pos c538]) (by dsimp only [fX5_member]; rw [if_pos c531, if_pos c532, if_neg c534, if_pos c538]; exact hok))
        ·
          refine q_aload_n dX5_member_214 rfl ?_
          refine q_iload_n dX5_member_215 rfl ?_
          refine q_iload_n dX5_member_216 rfl ?_
          refine q_iconst (v := nI 5) dX5_member_217 rfl ?_
          refine q_iload dX5_member_218 rfl ?_
          refine v_callV (M' := mX5_reported) [.int (nI a1), .int (nI a3), .int (nI 5), .int ((V (o + 12) (((48 * a1) + (8 * a2)) + a3)) &&& ((a5) ^^^ (-1)))] [] kX5 dX5_member_220 wPX5_125v wIX5_reported wSX5_reported iX5_reported oX5_reported rfl hok H.1 (eX5_reported_5 Sc Γ n (fX5_reported_4 o ml a1 a3 ((a5) &&& ((V (o + 12) (((48 * a1) + (8 * a2)) + a3)) ^^^ (-1))) (vset (vset V (o + 11) (((48 * a1) + (8 * a2)) + a3) (a4)) (o + 12) (((48 * a1) + (8 * a2)) + a3) (a5))) o ml H hm1 hml a1 (by omega) a3 (by omega) ((V (o + 12) (((48 * a1) + (8 * a2)) + a3)) &&& ((a5) ^^^ (-1))) (b + 2) (by omega) (SX5_reported_4 o ml a1 a3 ((a5) &&& ((V (o + 12) (((48 * a1) + (8 * a2)) + a3)) ^^^ (-1))) (SB.vs (SB.vs hS (by first | exact Or.inr (by decide) | exact Or.inl (by omega))) (by first | exact Or.inr (by decide) | exact Or.inl (by omega))) (by omega))) (Nat.le_of_ble_eq_true rfl) (Nat.le_of_ble_eq_true rfl) (Nat.le_of_ble_eq_true rfl) rfl (fun h hok => ?_)
          refine t_istore [.ref o, .int (nI a1), .int (nI a2), .int (nI a3), .int (a4), .int (a5), .int (nI (((48 * a1) + (8 * a2)) + a3)), .int (V (o + 11) (((48 * a1) + (8 * a2)) + a3)), .int (V (o + 12) (((48 * a1) + (8 * a2)) + a3)), .int ((vset (vset V (o + 11) (((48 * a1) + (8 * a2)) + a3) (a4)) (o + 12) (((48 * a1) + (8 * a2)) + a3) (a5)) o 15), .int ((a5) &&& ((V (o + 12) (((48 * a1) + (8 * a2)) + a3)) ^^^ (-1))), .int ((V (o + 12) (((48 * a1) + (8 * a2)) + a3)) &&& ((a5) ^^^ (-1))), .int (vX5_reported_5 o ml a1 a3 ((V (o + 12) (((48 * a1) + (8 * a2)) + a3)) &&& ((a5) ^^^ (-1))) (fX5_reported_4 o ml a1 a3 ((a5) &&& ((V (o + 12) (((48 * a1) + (8 * a2)) + a3)) ^^^ (-1))) (vset (vset V (o + 11) (((48 * a1) + (8 * a2)) + a3) (a4)) (o + 12) (((48 * a1) + (8 * a2)) + a3) (a5))))] (Or.inr ⟨rfl, dX5_member_223⟩) (by decide) rfl ?_
          refine q_aload_n dX5_member_225 rfl ?_
          refine v_geti 15 kX5 (by decide) wPX5_72 dX5_member_226 hok H.1 rfl ?_
          refine q_iload dX5_member_229 rfl ?_
          refine q_isub dX5_member_231 ?_
          exact q_iret dX5_member_232 rfl (rfl) (hQ _ _ (by dsimp only [vX5_member]; rw [if_pos c531, if_pos c532, if_neg c534, if_neg c538]) (by dsimp only [fX5_member]; rw [if_pos c531, if_pos c532, if_neg c534, if_neg c538]; exact hok))
    ·
      refine q_iload dX5_member_150 rfl ?_
      refine q_iload dX5_member_152 rfl ?_
      refine q_iconst (v := -1) dX5_member_154 rfl ?_
      refine q_ixor dX5_member_155 ?_
      refine q_iand dX5_member_156 ?_
      refine q_goto (tgt := 167) dX5_member_157 (by decide) ?_
      refine t_istore [.ref o, .int (nI a1), .int (nI a2), .int (nI a3), .int (a4), .int (a5), .int (nI (((48 * a1) + (8 * a2)) + a3)), .int (V (o + 11) (((48 * a1) + (8 * a2)) + a3)), .int (V (o + 12) (((48 * a1) + (8 * a2)) + a3)), .int ((vset (vset V (o + 11) (((48 * a1) + (8 * a2)) + a3) (a4)) (o + 12) (((48 * a1) + (8 * a2)) + a3) (a5)) o 15), .int ((V (o + 12) (((48 * a1) + (8 * a2)) + a3)) &&& ((a5) ^^^ (-1))), .retAddr 0, .retAddr 0] (Or.inr ⟨rfl, dX5_member_167⟩) (by decide) rfl ?_
      refine q_iload dX5_member_169 rfl ?_
      refine q_if_eq (tgt := 184) dX5_member_171 (by decide) (fun c540 => ?_) (fun c540 => ?_)
      · exact absurd c540 c532
      refine q_iload dX5_member_174 rfl ?_
      refine q_iload dX5_member_176 rfl ?_
      refine q_iconst (v := -1) dX5_member_178 rfl ?_
      refine q_ixor dX5_member_179 ?_
      refine q_iand dX5_member_180 ?_
      refine q_goto (tgt := 191) dX5_member_181 (by decide) ?_
      refine t_istore [.ref o, .int (nI a1), .int (nI a2), .int (nI a3), .int (a4), .int (a5), .int (nI (((48 * a1) + (8 * a2)) + a3)), .int (V (o + 11) (((48 * a1) + (8 * a2)) + a3)), .int (V (o + 12) (((48 * a1) + (8 * a2)) + a3)), .int ((vset (vset V (o + 11) (((48 * a1) + (8 * a2)) + a3) (a4)) (o + 12) (((48 * a1) + (8 * a2)) + a3) (a5)) o 15), .int ((V (o + 12) (((48 * a1) + (8 * a2)) + a3)) &&& ((a5) ^^^ (-1))), .int ((a5) &&& ((V (o + 12) (((48 * a1) + (8 * a2)) + a3)) ^^^ (-1))), .retAddr 0] (Or.inr ⟨rfl, dX5_member_191⟩) (by decide) rfl ?_
      refine q_iload dX5_member_193 rfl ?_
      refine q_if_eq (tgt := 209) dX5_member_195 (by decide) (fun c541 => ?_) (fun c541 => ?_)
      ·
        refine q_iload dX5_member_209 rfl ?_
        refine q_if_eq (tgt := 225) dX5_member_211 (by decide) (fun c542 => ?_) (fun c542 => ?_)
        ·
          refine q_aload_n dX5_member_225 rfl ?_
          refine v_geti 15 kX5 (by decide) wPX5_72 dX5_member_226 hok H.1 rfl ?_
          refine q_iload dX5_member_229 rfl ?_
          refine q_isub dX5_member_231 ?_
          exact q_iret dX5_member_232 rfl (rfl) (hQ _ _ (by dsimp only [vX5_member]; rw [if_pos c531, if_neg c532, if_pos c541, if_pos c542]) (by dsimp only [fX5_member]; rw [if_pos c531, if_neg c532, if_pos c541, if_pos c542]; exact hok))
        ·
          refine q_aload_n dX5_member_214 rfl ?_
          refine q_iload_n dX5_member_215 rfl ?_
          refine q_iload_n dX5_member_216 rfl ?_
          refine q_iconst (v := nI 5) dX5_member_217 rfl ?_
          refine q_iload dX5_member_218 rfl ?_
          refine v_callV (M' := mX5_reported) [.int (nI a1), .int (nI a3), .int (nI 5), .int ((a5) &&& ((V (o + 12) (((48 * a1) + (8 * a2)) + a3)) ^^^ (-1)))] [] kX5 dX5_member_220 wPX5_125v wIX5_reported wSX5_reported iX5_reported oX5_reported rfl hok H.1 (eX5_reported_5 Sc Γ n (vset (vset V (o + 11) (((48 * a1) + (8 * a2)) + a3) (a4)) (o + 12) (((48 * a1) + (8 * a2)) + a3) (a5)) o ml H hm1 hml a1 (by omega) a3 (by omega) ((a5) &&& ((V (o + 12) (((48 * a1) + (8 * a2)) + a3)) ^^^ (-1))) (b) (by omega) (SB.vs (SB.vs hS (by first | exact Or.inr (by decide) | exact Or.inl (by omega))) (by first | exact Or.inr (by decide) | exact Or.inl (by omega)))) (Nat.le_of_ble_eq_true rfl) (Nat.le_of_ble_eq_true rfl) (Nat.le_of_ble_eq_true rfl) rfl (fun h hok => ?_)
          refine t_istore [.ref o, .int (nI a1), .int (nI a2), .int (nI a3), .int (a4), .int (a5), .int (nI (((48 * a1) + (8 * a2)) + a3)), .int (V (o + 11) (((48 * a1) + (8 * a2)) + a3)), .int (V (o + 12) (((48 * a1) + (8 * a2)) + a3)), .int ((vset (vset V (o + 11) (((48 * a1) + (8 * a2)) + a3) (a4)) (o + 12) (((48 * a1) + (8 * a2)) + a3) (a5)) o 15), .int ((V (o + 12) (((48 * a1) + (8 * a2)) + a3)) &&& ((a5) ^^^ (-1))), .int ((a5) &&& ((V (o + 12) (((48 * a1) + (8 * a2)) + a3)) ^^^ (-1))), .int (vX5_reported_5 o ml a1 a3 ((a5) &&& ((V (o + 12) (((48 * a1) + (8 * a2)) + a3)) ^^^ (-1))) (vset (vset V (o + 11) (((48 * a1) + (8 * a2)) + a3) (a4)) (o + 12) (((48 * a1) + (8 * a2)) + a3) (a5)))] (Or.inr ⟨rfl, dX5_member_223⟩) (by decide) rfl ?_
          refine q_aload_n dX5_member_225 rfl ?_
          refine v_geti 15 kX5 (by decide) wPX5_72 dX5_member_226 hok H.1 rfl ?_
          refine q_iload dX5_member_229 rfl ?_
          refine q_isub dX5_member_231 ?_
          exact q_iret dX5_member_232 rfl (rfl) (hQ _ _ (by dsimp only [vX5_member]; rw [if_pos c531, if_neg c532, if_pos c541, if_neg c542]) (by dsimp only [fX5_member]; rw [if_pos c531, if_neg c532, if_pos c541, if_neg c542]; exact hok))
      ·
        refine q_aload_n dX5_member_198 rfl ?_
        refine q_iload_n dX5_member_199 rfl ?_
        refine q_iload_n dX5_member_200 rfl ?_
        refine q_iconst (v := nI 4) dX5_member_201 rfl ?_
        refine q_iload dX5_member_202 rfl ?_
        refine v_callV (M' := mX5_reported) [.int (nI a1), .int (nI a3), .int (nI 4), .int ((V (o + 12) (((48 * a1) + (8 * a2)) + a3)) &&& ((a5) ^^^ (-1)))] [] kX5 dX5_member_204 wPX5_125v wIX5_reported wSX5_reported iX5_reported oX5_reported rfl hok H.1 (eX5_reported_4 Sc Γ n (vset (vset V (o + 11) (((48 * a1) + (8 * a2)) + a3) (a4)) (o + 12) (((48 * a1) + (8 * a2)) + a3) (a5)) o ml H hm1 hml a1 (by omega) a3 (by omega) ((V (o + 12) (((48 * a1) + (8 * a2)) + a3)) &&& ((a5) ^^^ (-1))) (b) (by omega) (SB.vs (SB.vs hS (by first | exact Or.inr (by decide) | exact Or.inl (by omega))) (by first | exact Or.inr (by decide) | exact Or.inl (by omega)))) (Nat.le_of_ble_eq_true rfl) (Nat.le_of_ble_eq_true rfl) (Nat.le_of_ble_eq_true rfl) rfl (fun h hok => ?_)
        refine t_istore [.ref o, .int (nI a1), .int (nI a2), .int (nI a3), .int (a4), .int (a5), .int (nI (((48 * a1) + (8 * a2)) + a3)), .int (V (o + 11) (((48 * a1) + (8 * a2)) + a3)), .int (V (o + 12) (((48 * a1) + (8 * a2)) + a3)), .int ((vset (vset V (o + 11) (((48 * a1) + (8 * a2)) + a3) (a4)) (o + 12) (((48 * a1) + (8 * a2)) + a3) (a5)) o 15), .int ((V (o + 12) (((48 * a1) + (8 * a2)) + a3)) &&& ((a5) ^^^ (-1))), .int ((a5) &&& ((V (o + 12) (((48 * a1) + (8 * a2)) + a3)) ^^^ (-1))), .int (vX5_reported_4 o ml a1 a3 ((V (o + 12) (((48 * a1) + (8 * a2)) + a3)) &&& ((a5) ^^^ (-1))) (vset (vset V (o + 11) (((48 * a1) + (8 * a2)) + a3) (a4)) (o + 12) (((48 * a1) + (8 * a2)) + a3) (a5)))] (Or.inr ⟨rfl, dX5_member_207⟩) (by decide) rfl ?_
        refine q_iload dX5_member_209 rfl ?_
        refine q_if_eq (tgt := 225) dX5_member_211 (by decide) (fun c545 => ?_) (fun c545 => ?_)
        ·
          refine q_aload_n dX5_member_225 rfl ?_
          refine v_geti 15 kX5 (by decide) wPX5_72 dX5_member_226 hok H.1 rfl ?_
          refine q_iload dX5_member_229 rfl ?_
          refine q_isub dX5_member_231 ?_
          exact q_iret dX5_member_232 rfl (rfl) (hQ _ _ (by dsimp only [vX5_member]; rw [if_pos c531, if_neg c532, if_neg c541, if_pos c545]) (by dsimp only [fX5_member]; rw [if_pos c531, if_neg c532, if_neg c541, if_pos c545]; exact hok))
        ·
          refine q_aload_n dX5_member_214 rfl ?_
          refine q_iload_n dX5_member_215 rfl ?_
          refine q_iload_n dX5_member_216 rfl ?_
          refine q_iconst (v := nI 5) dX5_member_217 rfl ?_
          refine q_iload dX5_member_218 rfl ?_
          refine v_callV (M' := mX5_reported) [.int (nI a1), .int (nI a3), .int (nI 5), .int ((a5) &&& ((V (o + 12) (((48 * a1) + (8 * a2)) + a3)) ^^^ (-1)))] [] kX5 dX5_member_220 wPX5_125v wIX5_reported wSX5_reported iX5_reported oX5_reported rfl hok H.1 (eX5_reported_5 Sc Γ n (fX5_reported_4 o ml a1 a3 ((V (o + 12) (((48 * a1) + (8 * a2)) + a3)) &&& ((a5) ^^^ (-1))) (vset (vset V (o + 11) (((48 * a1) + (8 * a2)) + a3) (a4)) (o + 12) (((48 * a1) + (8 * a2)) + a3) (a5))) o ml H hm1 hml a1 (by omega) a3 (by omega) ((a5) &&& ((V (o + 12) (((48 * a1) + (8 * a2)) + a3)) ^^^ (-1))) (b + 2) (by omega) (SX5_reported_4 o ml a1 a3 ((V (o + 12) (((48 * a1) + (8 * a2)) + a3)) &&& ((a5) ^^^ (-1))) (SB.vs (SB.vs hS (by first | exact Or.inr (by decide) | exact Or.inl (by omega))) (by first | exact Or.inr (by decide) | exact Or.inl (by omega))) (by omega))) (Nat.le_of_ble_eq_true rfl) (Nat.le_of_ble_eq_true rfl) (Nat.le_of_ble_eq_true rfl) rfl (fun h hok => ?_)
          refine t_istore [.ref o, .int (nI a1), .int (nI a2), .int (nI a3), .int (a4), .int (a5), .int (nI (((48 * a1) + (8 * a2)) + a3)), .int (V (o + 11) (((48 * a1) + (8 * a2)) + a3)), .int (V (o + 12) (((48 * a1) + (8 * a2)) + a3)), .int ((vset (vset V (o + 11) (((48 * a1) + (8 * a2)) + a3) (a4)) (o + 12) (((48 * a1) + (8 * a2)) + a3) (a5)) o 15), .int ((V (o + 12) (((48 * a1) + (8 * a2)) + a3)) &&& ((a5) ^^^ (-1))), .int ((a5) &&& ((V (o + 12) (((48 * a1) + (8 * a2)) + a3)) ^^^ (-1))), .int (vX5_reported_5 o ml a1 a3 ((a5) &&& ((V (o + 12) (((48 * a1) + (8 * a2)) + a3)) ^^^ (-1))) (fX5_reported_4 o ml a1 a3 ((V (o + 12) (((48 * a1) + (8 * a2)) + a3)) &&& ((a5) ^^^ (-1))) (vset (vset V (o + 11) (((48 * a1) + (8 * a2)) + a3) (a4)) (o + 12) (((48 * a1) + (8 * a2)) + a3) (a5))))] (Or.inr ⟨rfl, dX5_member_223⟩) (by decide) rfl ?_
          refine q_aload_n dX5_member_225 rfl ?_
          refine v_geti 15 kX5 (by decide) wPX5_72 dX5_member_226 hok H.1 rfl ?_
          refine q_iload dX5_member_229 rfl ?_
          refine q_isub dX5_member_231 ?_
          exact q_iret dX5_member_232 rfl (rfl) (hQ _ _ (by dsimp only [vX5_member]; rw [if_pos c531, if_neg c532, if_neg c541, if_neg c545]) (by dsimp only [fX5_member]; rw [if_pos c531, if_neg c532, if_neg c541, if_neg c545]; exact hok))
  ·
    refine q_aload_n dX5_member_122 rfl ?_
    refine q_iload_n dX5_member_123 rfl ?_
    refine q_iload_n dX5_member_124 rfl ?_
    refine q_iload dX5_member_125 rfl ?_
    refine q_if_eq (tgt := 134) dX5_member_127 (by decide) (fun c547 => ?_) (fun c547 => ?_)
    ·
      refine q_iconst (v := nI 2) dX5_member_134 rfl ?_
      refine q_iload dX5_member_135 rfl ?_
      refine v_callV (M' := mX5_reported) [.int (nI a1), .int (nI a3), .int (nI 2), .int (a5)] [] kX5 dX5_member_137 wPX5_125v wIX5_reported wSX5_reported iX5_reported oX5_reported rfl hok H.1 (eX5_reported_2 Sc Γ n (vset (vset V (o + 11) (((48 * a1) + (8 * a2)) + a3) (a4)) (o + 12) (((48 * a1) + (8 * a2)) + a3) (a5)) o ml H hm1 hml a1 (by omega) a3 (by omega) a5 (b) (by omega) (SB.vs (SB.vs hS (by first | exact Or.inr (by decide) | exact Or.inl (by omega))) (by first | exact Or.inr (by decide) | exact Or.inl (by omega)))) (Nat.le_of_ble_eq_true rfl) (Nat.le_of_ble_eq_true rfl) (Nat.le_of_ble_eq_true rfl) rfl (fun h hok => ?_)
      refine t_istore [.ref o, .int (nI a1), .int (nI a2), .int (nI a3), .int (a4), .int (a5), .int (nI (((48 * a1) + (8 * a2)) + a3)), .int (V (o + 11) (((48 * a1) + (8 * a2)) + a3)), .int (V (o + 12) (((48 * a1) + (8 * a2)) + a3)), .int ((vset (vset V (o + 11) (((48 * a1) + (8 * a2)) + a3) (a4)) (o + 12) (((48 * a1) + (8 * a2)) + a3) (a5)) o 15), .int (vX5_reported_2 o ml a1 a3 a5 (vset (vset V (o + 11) (((48 * a1) + (8 * a2)) + a3) (a4)) (o + 12) (((48 * a1) + (8 * a2)) + a3) (a5))), .retAddr 0, .retAddr 0] (Or.inr ⟨rfl, dX5_member_140⟩) (by decide) rfl ?_
      refine q_goto (tgt := 225) dX5_member_142 (by decide) ?_
      refine q_aload_n dX5_member_225 rfl ?_
      refine v_geti 15 kX5 (by decide) wPX5_72 dX5_member_226 hok H.1 rfl ?_
      refine q_iload dX5_member_229 rfl ?_
      refine q_isub dX5_member_231 ?_
      exact q_iret dX5_member_232 rfl (rfl) (hQ _ _ (by dsimp only [vX5_member]; rw [if_neg c531, if_pos c547]) (by dsimp only [fX5_member]; rw [if_neg c531, if_pos c547]; exact hok))
    ·
      refine q_iconst (v := nI 3) dX5_member_130 rfl ?_
      refine q_goto (tgt := 135) dX5_member_131 (by decide) ?_
      refine q_iload dX5_member_135 rfl ?_
      refine v_callV (M' := mX5_reported) [.int (nI a1), .int (nI a3), .int (nI 3), .int (a5)] [] kX5 dX5_member_137 wPX5_125v wIX5_reported wSX5_reported iX5_reported oX5_reported rfl hok H.1 (eX5_reported_3 Sc Γ n (vset (vset V (o + 11) (((48 * a1) + (8 * a2)) + a3) (a4)) (o + 12) (((48 * a1) + (8 * a2)) + a3) (a5)) o ml H hm1 hml a1 (by omega) a3 (by omega) a5 (b) (by omega) (SB.vs (SB.vs hS (by first | exact Or.inr (by decide) | exact Or.inl (by omega))) (by first | exact Or.inr (by decide) | exact Or.inl (by omega)))) (Nat.le_of_ble_eq_true rfl) (Nat.le_of_ble_eq_true rfl) (Nat.le_of_ble_eq_true rfl) rfl (fun h hok => ?_)
      refine t_istore [.ref o, .int (nI a1), .int (nI a2), .int (nI a3), .int (a4), .int (a5), .int (nI (((48 * a1) + (8 * a2)) + a3)), .int (V (o + 11) (((48 * a1) + (8 * a2)) + a3)), .int (V (o + 12) (((48 * a1) + (8 * a2)) + a3)), .int ((vset (vset V (o + 11) (((48 * a1) + (8 * a2)) + a3) (a4)) (o + 12) (((48 * a1) + (8 * a2)) + a3) (a5)) o 15), .int (vX5_reported_3 o ml a1 a3 a5 (vset (vset V (o + 11) (((48 * a1) + (8 * a2)) + a3) (a4)) (o + 12) (((48 * a1) + (8 * a2)) + a3) (a5))), .retAddr 0, .retAddr 0] (Or.inr ⟨rfl, dX5_member_140⟩) (by decide) rfl ?_
      refine q_goto (tgt := 225) dX5_member_142 (by decide) ?_
      refine q_aload_n dX5_member_225 rfl ?_
      refine v_geti 15 kX5 (by decide) wPX5_72 dX5_member_226 hok H.1 rfl ?_
      refine q_iload dX5_member_229 rfl ?_
      refine q_isub dX5_member_231 ?_
      exact q_iret dX5_member_232 rfl (rfl) (hQ _ _ (by dsimp only [vX5_member]; rw [if_neg c531, if_neg c547]) (by dsimp only [fX5_member]; rw [if_neg c531, if_neg c547]; exact hok))
def fX5_answer (o ml : Nat) (a1 : Nat) (a2 : Nat) (V : q_V) : q_V := let B550 := fun (k550 : Nat) (s550 : Int32 × q_V) => let g550a := s550.1; let W550 := s550.2; if (W550 (o + 11) (((48 * a1) + (8 * a2)) + k550)) = 0 then (if (W550 (o + 12) (((48 * a1) + (8 * a2)) + k550)) = 0 then ((g550a, W550)) else (let V557 := fX5_reported_0 o ml a1 k550 (W550 (o + 12) (((48 * a1) + (8 * a2)) + k550)) W550; (g550a + Int32.ofInt (1), V557))) else (let V554 := fX5_reported_1 o ml a1 k550 (W550 (o + 12) (((48 * a1) + (8 * a2)) + k550)) W550; (g550a + Int32.ofInt (1), V554)); let T550 := lp B550 8 0 (nI 0, V); let V558 := T550.2; V558
def vX5_answer (o ml : Nat) (a1 : Nat) (a2 : Nat) (V : q_V) : Int32 := let B550 := fun (k550 : Nat) (s550 : Int32 × q_V) => let g550a := s550.1; let W550 := s550.2; if (W550 (o + 11) (((48 * a1) + (8 * a2)) + k550)) = 0 then (if (W550 (o + 12) (((48 * a1) + (8 * a2)) + k550)) = 0 then ((g550a, W550)) else (let V557 := fX5_reported_0 o ml a1 k550 (W550 (o + 12) (((48 * a1) + (8 * a2)) + k550)) W550; (g550a + Int32.ofInt (1), V557))) else (let V554 := fX5_reported_1 o ml a1 k550 (W550 (o + 12) (((48 * a1) + (8 * a2)) + k550)) W550; (g550a + Int32.ofInt (1), V554)); let T550 := lp B550 8 0 (nI 0, V); let V558 := T550.2; T550.1
set_option maxRecDepth 20000 in
set_option maxHeartbeats 4000000 in
theorem kX5_answer (Sc : q_S) (Γ : Nat → q_K) (n : Nat) (V : q_V) (o ml : Nat) (H : sM Γ o ml) (hm1 : 1 ≤ ml) (hml : ml ≤ 4) (a1 : Nat) (b1 : a1 < ml) (a2 : Nat) (b2 : a2 < 6) (b : Nat) (hb : b + 16 ≤ 2000000000) (hS : SB V o b)  {kc ks : Nat} {Q : q_O → q_H → Nat → Prop} {h : q_H} (hQ : ∀ (O : q_O) (h' : q_H), O = .inl (some (.int (vX5_answer o ml a1 a2 V))) → q_ok (gX Γ (fX5_answer o ml a1 a2 V)) h' → Q O h' n) (hok : q_ok (gX Γ V) h) : q_A Sc mX5_answer 35 [.ref o, .int (nI a1), .int (nI a2), .retAddr 0, .retAddr 0, .retAddr 0, .retAddr 0] [] h n kc ks Q := by
  refine q_iconst (v := nI 0) dX5_answer_35 rfl ?_
  refine t_istore [.ref o, .int (nI a1), .int (nI a2), .int (nI 0), .retAddr 0, .retAddr 0, .retAddr 0] (Or.inl ⟨3, rfl, rfl, dX5_answer_36⟩) (by decide) rfl ?_
  refine q_iconst (v := nI 0) dX5_answer_37 rfl ?_
  refine t_istore [.ref o, .int (nI a1), .int (nI a2), .int (nI 0), .int (nI 0), .retAddr 0, .retAddr 0] (Or.inr ⟨rfl, dX5_answer_38⟩) (by decide) rfl ?_
  obtain ⟨B550, hB550⟩ : ∃ B_ : Nat → (Int32 × q_V) → (Int32 × q_V), B_ = (fun (k550 : Nat) (s550 : Int32 × q_V) => let g550a := s550.1; let W550 := s550.2; if (W550 (o + 11) (((48 * a1) + (8 * a2)) + k550)) = 0 then (if (W550 (o + 12) (((48 * a1) + (8 * a2)) + k550)) = 0 then ((g550a, W550)) else ((g550a + Int32.ofInt (1), (fX5_reported_0 o ml a1 k550 (W550 (o + 12) (((48 * a1) + (8 * a2)) + k550)) W550)))) else ((g550a + Int32.ofInt (1), (fX5_reported_1 o ml a1 k550 (W550 (o + 12) (((48 * a1) + (8 * a2)) + k550)) W550)))) := ⟨_, rfl⟩
  have hl550 : ∀ (d550 k550 : Nat) (g550a : Int32) (W550 : q_V) (h : q_H), k550 + d550 = 8 → lp B550 d550 k550 (g550a, W550) = (lp B550 8 0 (nI 0, V)) → SB W550 o (b + 2 * k550) → q_ok (gX Γ W550) h → q_A Sc mX5_answer 40 [.ref o, .int (nI a1), .int (nI a2), .int (g550a), .int (nI k550), .retAddr 0, .retAddr 0] [] h n kc ks Q := by
    intro d550
    induction d550 with
    | zero =>
      intro k550 g550a W550 h e550 hT550 hS550 hok
      obtain ⟨hq5500, hq5501⟩ : g550a = ((lp B550 8 0 (nI 0, V)).1) ∧ W550 = ((lp B550 8 0 (nI 0, V)).2) := ⟨congrArg (fun q => q.1) hT550, congrArg (fun q => q.2) hT550⟩
      subst hq5500
      subst hq5501
      refine q_iload dX5_answer_40 rfl ?_
      refine q_bipush (v := nI 8) dX5_answer_42 rfl ?_
      refine t_icmp_ge_n (tgt := 121) (by omega) (by omega) dX5_answer_44 (by decide) (fun c559 => ?_) (fun c559 => ?_)
      rotate_left
      · exact absurd c559 (by omega)
      refine q_iload_n dX5_answer_121 rfl ?_
      exact q_iret dX5_answer_122 rfl (rfl) (hQ _ _ (by subst hB550; dsimp only [vX5_answer]) (by subst hB550; dsimp only [fX5_answer]; exact hok))
    | succ d550 ih550 =>
      intro k550 g550a W550 h e550 hT550 hS550 hok
      refine q_iload dX5_answer_40 rfl ?_
      refine q_bipush (v := nI 8) dX5_answer_42 rfl ?_
      refine t_icmp_ge_n (tgt := 121) (by omega) (by omega) dX5_answer_44 (by decide) (fun c551 => ?_) (fun c551 => ?_)
      · exact absurd c551 (by omega)
      refine q_bipush (v := nI 48) dX5_answer_47 rfl ?_
      refine q_iload_n dX5_answer_49 rfl ?_
      refine t_imul_n dX5_answer_50 ?_
      refine q_bipush (v := nI 8) dX5_answer_51 rfl ?_
      refine q_iload_n dX5_answer_53 rfl ?_
      refine t_imul_n dX5_answer_54 ?_
      refine t_iadd_n dX5_answer_55 ?_
      refine q_iload dX5_answer_56 rfl ?_
      refine t_iadd_n dX5_answer_58 ?_
      refine t_istore [.ref o, .int (nI a1), .int (nI a2), .int (g550a), .int (nI k550), .int (nI (((48 * a1) + (8 * a2)) + k550)), .retAddr 0] (Or.inr ⟨rfl, dX5_answer_59⟩) (by decide) rfl ?_
      refine q_aload_n dX5_answer_61 rfl ?_
      refine v_getr 12 kX5 (by decide) wPX5_40 dX5_answer_62 hok H.1 rfl ?_
      refine q_iload dX5_answer_65 rfl ?_
      refine v_zald (by decide) dX5_answer_67 hok H.2.2.2.2.2.2.2.2.2.2.2.1 (j := ((48 * a1) + (8 * a2)) + k550) (by omega) ?_
      refine q_if_ne (tgt := 81) dX5_answer_68 (by decide) (fun c552 => ?_) (fun c552 => ?_)
      ·
        refine q_aload_n dX5_answer_81 rfl ?_
        refine q_iload_n dX5_answer_82 rfl ?_
        refine q_iload dX5_answer_83 rfl ?_
        refine q_aload_n dX5_answer_85 rfl ?_
        refine v_getr 12 kX5 (by decide) wPX5_40 dX5_answer_86 hok H.1 rfl ?_
        refine q_iload dX5_answer_89 rfl ?_
        refine v_zald (by decide) dX5_answer_91 hok H.2.2.2.2.2.2.2.2.2.2.2.1 (j := ((48 * a1) + (8 * a2)) + k550) (by omega) ?_
        refine q_if_eq (tgt := 99) dX5_answer_92 (by decide) (fun c553 => ?_) (fun c553 => ?_)
        · exact absurd c553 c552
        refine q_iconst (v := nI 1) dX5_answer_95 rfl ?_
        refine q_goto (tgt := 100) dX5_answer_96 (by decide) ?_
        refine q_aload_n dX5_answer_100 rfl ?_
        refine v_getr 13 kX5 (by decide) wPX5_44 dX5_answer_101 hok H.1 rfl ?_
        refine q_iload dX5_answer_104 rfl ?_
        refine v_iald (by decide) dX5_answer_106 hok H.2.2.2.2.2.2.2.2.2.2.2.2.1 (j := ((48 * a1) + (8 * a2)) + k550) (by omega) ?_
        refine v_callV (M' := mX5_reported) [.int (nI a1), .int (nI k550), .int (nI 1), .int (W550 (o + 12) (((48 * a1) + (8 * a2)) + k550))] [] kX5 dX5_answer_107 wPX5_125v wIX5_reported wSX5_reported iX5_reported oX5_reported rfl hok H.1 (eX5_reported_1 Sc Γ n W550 o ml H hm1 hml a1 (by omega) k550 (by omega) (W550 (o + 12) (((48 * a1) + (8 * a2)) + k550)) (b + 2 * k550) (by omega) hS550) (Nat.le_of_ble_eq_true rfl) (Nat.le_of_ble_eq_true rfl) (Nat.le_of_ble_eq_true rfl) rfl (fun h hok => ?_)
        refine t_istore [.ref o, .int (nI a1), .int (nI a2), .int (g550a), .int (nI k550), .int (nI (((48 * a1) + (8 * a2)) + k550)), .int (vX5_reported_1 o ml a1 k550 (W550 (o + 12) (((48 * a1) + (8 * a2)) + k550)) W550)] (Or.inr ⟨rfl, dX5_answer_110⟩) (by decide) rfl ?_
        refine t_iinc [.ref o, .int (nI a1), .int (nI a2), .int (g550a + Int32.ofInt (1)), .int (nI k550), .int (nI (((48 * a1) + (8 * a2)) + k550)), .int (vX5_reported_1 o ml a1 k550 (W550 (o + 12) (((48 * a1) + (8 * a2)) + k550)) W550)] dX5_answer_112 rfl rfl (by decide) rfl ?_
        refine t_iinc_n [.ref o, .int (nI a1), .int (nI a2), .int (g550a + Int32.ofInt (1)), .int (nI (k550 + 1)), .int (nI (((48 * a1) + (8 * a2)) + k550)), .int (vX5_reported_1 o ml a1 k550 (W550 (o + 12) (((48 * a1) + (8 * a2)) + k550)) W550)] dX5_answer_115 rfl (by decide) rfl ?_
        refine q_goto (tgt := 40) dX5_answer_118 (by decide) ?_
        refine q_weak [.ref o, .int (nI a1), .int (nI a2), .int (g550a + Int32.ofInt (1)), .int (nI (k550 + 1)), .retAddr 0, .retAddr 0] ⟨Or.inl rfl, Or.inl rfl, Or.inl rfl, Or.inl rfl, Or.inl rfl, Or.inr ⟨0, rfl⟩, Or.inr ⟨0, rfl⟩, trivial⟩ ?_
        exact ih550 (k550 + 1) (g550a + Int32.ofInt (1)) ((fX5_reported_1 o ml a1 k550 (W550 (o + 12) (((48 * a1) + (8 * a2)) + k550)) W550)) h (by omega) ((congrArg (lp B550 d550 (k550 + 1)) (show (g550a + Int32.ofInt (1), (fX5_reported_1 o ml a1 k550 (W550 (o + 12) (((48 * a1) + (8 * a2)) + k550)) W550)) = B550 k550 (g550a, W550) from by rw [hB550]; dsimp only; rw [if_neg c552])).trans hT550) ((SX5_reported_1 o ml a1 k550 (W550 (o + 12) (((48 * a1) + (8 * a2)) + k550)) hS550 (by omega)).mo (by omega)) hok
      ·
        refine q_aload_n dX5_answer_71 rfl ?_
        refine v_getr 13 kX5 (by decide) wPX5_44 dX5_answer_72 hok H.1 rfl ?_
        refine q_iload dX5_answer_75 rfl ?_
        refine v_iald (by decide) dX5_answer_77 hok H.2.2.2.2.2.2.2.2.2.2.2.2.1 (j := ((48 * a1) + (8 * a2)) + k550) (by omega) ?_
        refine q_if_eq (tgt := 115) dX5_answer_78 (by decide) (fun c555 => ?_) (fun c555 => ?_)
        ·
          refine t_iinc_n [.ref o, .int (nI a1), .int (nI a2), .int (g550a), .int (nI (k550 + 1)), .int (nI (((48 * a1) + (8 * a2)) + k550)), .retAddr 0] dX5_answer_115 rfl (by decide) rfl ?_
          refine q_goto (tgt := 40) dX5_answer_118 (by decide) ?_
          refine q_weak [.ref o, .int (nI a1), .int (nI a2), .int (g550a), .int (nI (k550 + 1)), .retAddr 0, .retAddr 0] ⟨Or.inl rfl, Or.inl rfl, Or.inl rfl, Or.inl rfl, Or.inl rfl, Or.inr ⟨0, rfl⟩, Or.inr ⟨0, rfl⟩, trivial⟩ ?_
          exact ih550 (k550 + 1) g550a W550 h (by omega) ((congrArg (lp B550 d550 (k550 + 1)) (show (g550a, W550) = B550 k550 (g550a, W550) from by rw [hB550]; dsimp only; rw [if_pos c552, if_pos c555])).trans hT550) (hS550.mo (by omega)) hok
        ·
          refine q_aload_n dX5_answer_81 rfl ?_
          refine q_iload_n dX5_answer_82 rfl ?_
          refine q_iload dX5_answer_83 rfl ?_
          refine q_aload_n dX5_answer_85 rfl ?_
          refine v_getr 12 kX5 (by decide) wPX5_40 dX5_answer_86 hok H.1 rfl ?_
          refine q_iload dX5_answer_89 rfl ?_
          refine v_zald (by decide) dX5_answer_91 hok H.2.2.2.2.2.2.2.2.2.2.2.1 (j := ((48 * a1) + (8 * a2)) + k550) (by omega) ?_
          refine q_if_eq (tgt := 99) dX5_answer_92 (by decide) (fun c556 => ?_) (fun c556 => ?_)
          rotate_left
          · exact absurd c552 c556
          refine q_iconst (v := nI 0) dX5_answer_99 rfl ?_
          refine q_aload_n dX5_answer_100 rfl ?_
          refine v_getr 13 kX5 (by decide) wPX5_44 dX5_answer_101 hok H.1 rfl ?_
          refine q_iload dX5_answer_104 rfl ?_
          refine v_iald (by decide) dX5_answer_106 hok H.2.2.2.2.2.2.2.2.2.2.2.2.1 (j := ((48 * a1) + (8 * a2)) + k550) (by omega) ?_
          refine v_callV (M' := mX5_reported) [.int (nI a1), .int (nI k550), .int (nI 0), .int (W550 (o + 12) (((48 * a1) + (8 * a2)) + k550))] [] kX5 dX5_answer_107 wPX5_125v wIX5_reported wSX5_reported iX5_reported oX5_reported rfl hok H.1 (eX5_reported_0 Sc Γ n W550 o ml H hm1 hml a1 (by omega) k550 (by omega) (W550 (o + 12) (((48 * a1) + (8 * a2)) + k550)) (b + 2 * k550) (by omega) hS550) (Nat.le_of_ble_eq_true rfl) (Nat.le_of_ble_eq_true rfl) (Nat.le_of_ble_eq_true rfl) rfl (fun h hok => ?_)
          refine t_istore [.ref o, .int (nI a1), .int (nI a2), .int (g550a), .int (nI k550), .int (nI (((48 * a1) + (8 * a2)) + k550)), .int (vX5_reported_0 o ml a1 k550 (W550 (o + 12) (((48 * a1) + (8 * a2)) + k550)) W550)] (Or.inr ⟨rfl, dX5_answer_110⟩) (by decide) rfl ?_
          refine t_iinc [.ref o, .int (nI a1), .int (nI a2), .int (g550a + Int32.ofInt (1)), .int (nI k550), .int (nI (((48 * a1) + (8 * a2)) + k550)), .int (vX5_reported_0 o ml a1 k550 (W550 (o + 12) (((48 * a1) + (8 * a2)) + k550)) W550)] dX5_answer_112 rfl rfl (by decide) rfl ?_
          refine t_iinc_n [.ref o, .int (nI a1), .int (nI a2), .int (g550a + Int32.ofInt (1)), .int (nI (k550 + 1)), .int (nI (((48 * a1) + (8 * a2)) + k550)), .int (vX5_reported_0 o ml a1 k550 (W550 (o + 12) (((48 * a1) + (8 * a2)) + k550)) W550)] dX5_answer_115 rfl (by decide) rfl ?_
          refine q_goto (tgt := 40) dX5_answer_118 (by decide) ?_
          refine q_weak [.ref o, .int (nI a1), .int (nI a2), .int (g550a + Int32.ofInt (1)), .int (nI (k550 + 1)), .retAddr 0, .retAddr 0] ⟨Or.inl rfl, Or.inl rfl, Or.inl rfl, Or.inl rfl, Or.inl rfl, Or.inr ⟨0, rfl⟩, Or.inr ⟨0, rfl⟩, trivial⟩ ?_
          exact ih550 (k550 + 1) (g550a + Int32.ofInt (1)) ((fX5_reported_0 o ml a1 k550 (W550 (o + 12) (((48 * a1) + (8 * a2)) + k550)) W550)) h (by omega) ((congrArg (lp B550 d550 (k550 + 1)) (show (g550a + Int32.ofInt (1), (fX5_reported_0 o ml a1 k550 (W550 (o + 12) (((48 * a1) + (8 * a2)) + k550)) W550)) = B550 k550 (g550a, W550) from by rw [hB550]; dsimp only; rw [if_pos c552, if_neg c555])).trans hT550) ((SX5_reported_0 o ml a1 k550 (W550 (o + 12) (((48 * a1) + (8 * a2)) + k550)) hS550 (by omega)).mo (by omega)) hok
  exact hl550 8 0 (nI 0) V h (by omega) rfl (hS.mo (by omega)) hok
def vX5_passed (o ml : Nat) (a1 : Nat) (a2 : Nat) (a3 : Nat) (V : q_V) : Int32 := let B560 := fun (k560 : Nat) (s560 : Int32) => let g560a := s560; if (V (o + 7) ((8 * k560) + a2)) = 0 then (if (V (o + 9) ((16 * ((8 * k560) + a2)) + a3)) = (nI 1) then (if (nI k560) = (nI a1) then (g560a) else ((g560a) + ((nI 1) <<< ((nI k560) &&& 31)))) else (if (V (o + 7) ((8 * k560) + a2)) = (nI 1) then (if (V (o + 9) ((16 * ((8 * k560) + a2)) + a3)) = (nI 2) then (if (nI k560) = (nI a1) then (g560a) else (g560a)) else (if (nI k560) = (nI a1) then (g560a) else ((g560a) + ((nI 1) <<< ((nI k560) &&& 31))))) else (if (nI k560) = (nI a1) then (g560a) else (g560a)))) else (if (V (o + 7) ((8 * k560) + a2)) = (nI 1) then (if (V (o + 9) ((16 * ((8 * k560) + a2)) + a3)) = (nI 2) then (if (nI k560) = (nI a1) then (g560a) else (g560a)) else (if (nI k560) = (nI a1) then (g560a) else ((g560a) + ((nI 1) <<< ((nI k560) &&& 31))))) else (if (nI k560) = (nI a1) then (g560a) else (g560a))); let T560 := lp B560 ml 0 (nI 0); T560
set_option maxRecDepth 20000 in
set_option maxHeartbeats 4000000 in
theorem kX5_passed (Sc : q_S) (Γ : Nat → q_K) (n : Nat) (V : q_V) (o ml : Nat) (H : sM Γ o ml) (hm1 : 1 ≤ ml) (hml : ml ≤ 4) (a1 : Nat) (b1 : a1 < ml) (a2 : Nat) (b2 : a2 < 8) (a3 : Nat) (b3 : a3 < 16) (ht : V o 0 = nI 0)  {kc ks : Nat} {Q : q_O → q_H → Nat → Prop} {h : q_H} (hQ : ∀ (O : q_O) (h' : q_H), O = .inl (some (.int (vX5_passed o ml a1 a2 a3 V))) → q_ok (gX Γ V) h' → Q O h' n) (hok : q_ok (gX Γ V) h) : q_A Sc mX5_passed 37 [.ref o, .int (nI a1), .int (nI a2), .int (nI a3), .retAddr 0, .retAddr 0, .retAddr 0, .retAddr 0, .retAddr 0] [] h n kc ks Q := by
  refine q_iconst (v := nI 0) dX5_passed_37 rfl ?_
  refine t_istore [.ref o, .int (nI a1), .int (nI a2), .int (nI a3), .int (nI 0), .retAddr 0, .retAddr 0, .retAddr 0, .retAddr 0] (Or.inr ⟨rfl, dX5_passed_38⟩) (by decide) rfl ?_
  refine q_iconst (v := nI 0) dX5_passed_40 rfl ?_
  refine t_istore [.ref o, .int (nI a1), .int (nI a2), .int (nI a3), .int (nI 0), .int (nI 0), .retAddr 0, .retAddr 0, .retAddr 0] (Or.inr ⟨rfl, dX5_passed_41⟩) (by decide) rfl ?_
  obtain ⟨B560, hB560⟩ : ∃ B_ : Nat → Int32 → Int32, B_ = (fun (k560 : Nat) (s560 : Int32) => let g560a := s560; if (V (o + 7) ((8 * k560) + a2)) = 0 then (if (V (o + 9) ((16 * ((8 * k560) + a2)) + a3)) = (nI 1) then (if (nI k560) = (nI a1) then (g560a) else ((g560a) + ((nI 1) <<< ((nI k560) &&& 31)))) else (if (V (o + 7) ((8 * k560) + a2)) = (nI 1) then (if (V (o + 9) ((16 * ((8 * k560) + a2)) + a3)) = (nI 2) then (if (nI k560) = (nI a1) then (g560a) else (g560a)) else (if (nI k560) = (nI a1) then (g560a) else ((g560a) + ((nI 1) <<< ((nI k560) &&& 31))))) else (if (nI k560) = (nI a1) then (g560a) else (g560a)))) else (if (V (o + 7) ((8 * k560) + a2)) = (nI 1) then (if (V (o + 9) ((16 * ((8 * k560) + a2)) + a3)) = (nI 2) then (if (nI k560) = (nI a1) then (g560a) else (g560a)) else (if (nI k560) = (nI a1) then (g560a) else ((g560a) + ((nI 1) <<< ((nI k560) &&& 31))))) else (if (nI k560) = (nI a1) then (g560a) else (g560a)))) := ⟨_, rfl⟩
  have hl560 : ∀ (d560 k560 : Nat) (g560a : Int32) (h : q_H), k560 + d560 = ml → lp B560 d560 k560 g560a = (lp B560 ml 0 (nI 0)) → q_ok (gX Γ V) h → q_A Sc mX5_passed 43 [.ref o, .int (nI a1), .int (nI a2), .int (nI a3), .int (g560a), .int (nI k560), .retAddr 0, .retAddr 0, .retAddr 0] [] h n kc ks Q := by
    intro d560
    induction d560 with
    | zero =>
      intro k560 g560a h e560 hT560 hok
      have hT560 : g560a = (lp B560 ml 0 (nI 0)) := hT560
      subst hT560
      refine q_iload dX5_passed_43 rfl ?_
      refine q_aload_n dX5_passed_45 rfl ?_
      refine v_getc 1 kX5 (by decide) wPX5_59 dX5_passed_46 hok H.1 rfl ?_
      refine t_icmp_ge_n (tgt := 153) (by omega) (by omega) dX5_passed_49 (by decide) (fun c575 => ?_) (fun c575 => ?_)
      rotate_left
      · exact absurd c575 (by omega)
      refine q_iload dX5_passed_153 rfl ?_
      exact q_iret dX5_passed_155 rfl (rfl) (hQ _ _ (by subst hB560; dsimp only [vX5_passed]) (hok))
    | succ d560 ih560 =>
      intro k560 g560a h e560 hT560 hok
      refine q_iload dX5_passed_43 rfl ?_
      refine q_aload_n dX5_passed_45 rfl ?_
      refine v_getc 1 kX5 (by decide) wPX5_59 dX5_passed_46 hok H.1 rfl ?_
      refine t_icmp_ge_n (tgt := 153) (by omega) (by omega) dX5_passed_49 (by decide) (fun c561 => ?_) (fun c561 => ?_)
      · exact absurd c561 (by omega)
      refine q_aload_n dX5_passed_52 rfl ?_
      refine v_getv 0 (x := nI 0) ht kX5 (by decide) wPX5_66 dX5_passed_53 hok H.1 rfl ?_
      refine q_if_ne (tgt := 153) dX5_passed_56 (by decide) (fun q => absurd q (by decide)) (fun _ => ?_)
      refine q_bipush (v := nI 8) dX5_passed_59 rfl ?_
      refine q_iload dX5_passed_61 rfl ?_
      refine t_imul_n dX5_passed_63 ?_
      refine q_iload_n dX5_passed_64 rfl ?_
      refine t_iadd_n dX5_passed_65 ?_
      refine t_istore [.ref o, .int (nI a1), .int (nI a2), .int (nI a3), .int (g560a), .int (nI k560), .int (nI ((8 * k560) + a2)), .retAddr 0, .retAddr 0] (Or.inr ⟨rfl, dX5_passed_66⟩) (by decide) rfl ?_
      refine q_aload_n dX5_passed_68 rfl ?_
      refine v_getr 10 kX5 (by decide) wPX5_34 dX5_passed_69 hok H.1 rfl ?_
      refine q_bipush (v := nI 16) dX5_passed_72 rfl ?_
      refine q_iload dX5_passed_74 rfl ?_
      refine t_imul_n dX5_passed_76 ?_
      refine q_iload_n dX5_passed_77 rfl ?_
      refine t_iadd_n dX5_passed_78 ?_
      refine v_iald (by decide) dX5_passed_79 hok H.2.2.2.2.2.2.2.2.2.1 (j := (16 * ((8 * k560) + a2)) + a3) (by omega) ?_
      refine t_istore [.ref o, .int (nI a1), .int (nI a2), .int (nI a3), .int (g560a), .int (nI k560), .int (nI ((8 * k560) + a2)), .int (V (o + 9) ((16 * ((8 * k560) + a2)) + a3)), .retAddr 0] (Or.inr ⟨rfl, dX5_passed_80⟩) (by decide) rfl ?_
      refine q_aload_n dX5_passed_82 rfl ?_
      refine v_getr 8 kX5 (by decide) wPX5_28 dX5_passed_83 hok H.1 rfl ?_
      refine q_iload dX5_passed_86 rfl ?_
      refine v_iald (by decide) dX5_passed_88 hok H.2.2.2.2.2.2.2.1 (j := (8 * k560) + a2) (by omega) ?_
      refine q_if_ne (tgt := 98) dX5_passed_89 (by decide) (fun c562 => ?_) (fun c562 => ?_)
      ·
        refine q_aload_n dX5_passed_98 rfl ?_
        refine v_getr 8 kX5 (by decide) wPX5_28 dX5_passed_99 hok H.1 rfl ?_
        refine q_iload dX5_passed_102 rfl ?_
        refine v_iald (by decide) dX5_passed_104 hok H.2.2.2.2.2.2.2.1 (j := (8 * k560) + a2) (by omega) ?_
        refine q_iconst (v := nI 1) dX5_passed_105 rfl ?_
        refine q_icmp_ne (tgt := 119) dX5_passed_106 (by decide) (fun c563 => ?_) (fun c563 => ?_)
        ·
          refine q_iconst (v := nI 0) dX5_passed_119 rfl ?_
          refine t_istore [.ref o, .int (nI a1), .int (nI a2), .int (nI a3), .int (g560a), .int (nI k560), .int (nI ((8 * k560) + a2)), .int (V (o + 9) ((16 * ((8 * k560) + a2)) + a3)), .int (nI 0)] (Or.inr ⟨rfl, dX5_passed_120⟩) (by decide) rfl ?_
          refine q_iload dX5_passed_122 rfl ?_
          refine q_iload_n dX5_passed_124 rfl ?_
          refine q_icmp_eq (tgt := 143) dX5_passed_125 (by decide) (fun c564 => ?_) (fun c564 => ?_)
          ·
            refine q_iload dX5_passed_143 rfl ?_
            refine t_istore [.ref o, .int (nI a1), .int (nI a2), .int (nI a3), .int (g560a), .int (nI k560), .int (nI ((8 * k560) + a2)), .int (V (o + 9) ((16 * ((8 * k560) + a2)) + a3)), .int (nI 0)] (Or.inr ⟨rfl, dX5_passed_145⟩) (by decide) rfl ?_
            refine t_iinc_n [.ref o, .int (nI a1), .int (nI a2), .int (nI a3), .int (g560a), .int (nI (k560 + 1)), .int (nI ((8 * k560) + a2)), .int (V (o + 9) ((16 * ((8 * k560) + a2)) + a3)), .int (nI 0)] dX5_passed_147 rfl (by decide) rfl ?_
            refine q_goto (tgt := 43) dX5_passed_150 (by decide) ?_
            refine q_weak [.ref o, .int (nI a1), .int (nI a2), .int (nI a3), .int (g560a), .int (nI (k560 + 1)), .retAddr 0, .retAddr 0, .retAddr 0] ⟨Or.inl rfl, Or.inl rfl, Or.inl rfl, Or.inl rfl, Or.inl rfl, Or.inl rfl, Or.inr ⟨0, rfl⟩, Or.inr ⟨0, rfl⟩, Or.inr ⟨0, rfl⟩, trivial⟩ ?_
            exact ih560 (k560 + 1) g560a h (by omega) ((congrArg (lp B560 d560 (k560 + 1)) (show g560a = B560 k560 g560a from by rw [hB560]; dsimp only; rw [if_neg c562, if_neg c563, if_pos c564])).trans hT560) hok
          ·
            refine q_iload dX5_passed_128 rfl ?_
            refine q_if_eq (tgt := 143) dX5_passed_130 (by decide) (fun _ => ?_) (fun q => absurd q (by decide))
            refine q_iload dX5_passed_143 rfl ?_
            refine t_istore [.ref o, .int (nI a1), .int (nI a2), .int (nI a3), .int (g560a), .int (nI k560), .int (nI ((8 * k560) + a2)), .int (V (o + 9) ((16 * ((8 * k560) + a2)) + a3)), .int (nI 0)] (Or.inr ⟨rfl, dX5_passed_145⟩) (by decide) rfl ?_
            refine t_iinc_n [.ref o, .int (nI a1), .int (nI a2), .int (nI a3), .int (g560a), .int (nI (k560 + 1)), .int (nI ((8 * k560) + a2)), .int (V (o + 9) ((16 * ((8 * k560) + a2)) + a3)), .int (nI 0)] dX5_passed_147 rfl (by decide) rfl ?_
            refine q_goto (tgt := 43) dX5_passed_150 (by decide) ?_
            refine q_weak [.ref o, .int (nI a1), .int (nI a2), .int (nI a3), .int (g560a), .int (nI (k560 + 1)), .retAddr 0, .retAddr 0, .retAddr 0] ⟨Or.inl rfl, Or.inl rfl, Or.inl rfl, Or.inl rfl, Or.inl rfl, Or.inl rfl, Or.inr ⟨0, rfl⟩, Or.inr ⟨0, rfl⟩, Or.inr ⟨0, rfl⟩, trivial⟩ ?_
            exact ih560 (k560 + 1) g560a h (by omega) ((congrArg (lp B560 d560 (k560 + 1)) (show g560a = B560 k560 g560a from by rw [hB560]; dsimp only; rw [if_neg c562, if_neg c563, if_neg c564])).trans hT560) hok
        ·
          refine q_iload dX5_passed_109 rfl ?_
          refine q_iconst (v := nI 2) dX5_passed_111 rfl ?_
          refine q_icmp_eq (tgt := 119) dX5_passed_112 (by decide) (fun c565 => ?_) (fun c565 => ?_)
          ·
            refine q_iconst (v := nI 0) dX5_passed_119 rfl ?_
            refine t_istore [.ref o, .int (nI a1), .int (nI a2), .int (nI a3), .int (g560a), .int (nI k560), .int (nI ((8 * k560) + a2)), .int (V (o + 9) ((16 * ((8 * k560) + a2)) + a3)), .int (nI 0)] (Or.inr ⟨rfl, dX5_passed_120⟩) (by decide) rfl ?_
            refine q_iload dX5_passed_122 rfl ?_
            refine q_iload_n dX5_passed_124 rfl ?_
            refine q_icmp_eq (tgt := 143) dX5_passed_125 (by decide) (fun c566 => ?_) (fun c566 => ?_)
            ·
              refine q_iload dX5_passed_143 rfl ?_
              refine t_istore [.ref o, .int (nI a1), .int (nI a2), .int (nI a3), .int (g560a), .int (nI k560), .int (nI ((8 * k560) + a2)), .int (V (o + 9) ((16 * ((8 * k560) + a2)) + a3)), .int (nI 0)] (Or.inr ⟨rfl, dX5_passed_145⟩) (by decide) rfl ?_
              refine t_iinc_n [.ref o, .int (nI a1), .int (nI a2), .int (nI a3), .int (g560a), .int (nI (k560 + 1)), .int (nI ((8 * k560) + a2)), .int (V (o + 9) ((16 * ((8 * k560) + a2)) + a3)), .int (nI 0)] dX5_passed_147 rfl (by decide) rfl ?_
              refine q_goto (tgt := 43) dX5_passed_150 (by decide) ?_
              refine q_weak [.ref o, .int (nI a1), .int (nI a2), .int (nI a3), .int (g560a), .int (nI (k560 + 1)), .retAddr 0, .retAddr 0, .retAddr 0] ⟨Or.inl rfl, Or.inl rfl, Or.inl rfl, Or.inl rfl, Or.inl rfl, Or.inl rfl, Or.inr ⟨0, rfl⟩, Or.inr ⟨0, rfl⟩, Or.inr ⟨0, rfl⟩, trivial⟩ ?_
              exact ih560 (k560 + 1) g560a h (by omega) ((congrArg (lp B560 d560 (k560 + 1)) (show g560a = B560 k560 g560a from by rw [hB560]; dsimp only; rw [if_neg c562, if_pos c563, if_pos c565, if_pos c566])).trans hT560) hok
            ·
              refine q_iload dX5_passed_128 rfl ?_
              refine q_if_eq (tgt := 143) dX5_passed_130 (by decide) (fun _ => ?_) (fun q => absurd q (by decide))
              refine q_iload dX5_passed_143 rfl ?_
              refine t_istore [.ref o, .int (nI a1), .int (nI a2), .int (nI a3), .int (g560a), .int (nI k560), .int (nI ((8 * k560) + a2)), .int (V (o + 9) ((16 * ((8 * k560) + a2)) + a3)), .int (nI 0)] (Or.inr ⟨rfl, dX5_passed_145⟩) (by decide) rfl ?_
              refine t_iinc_n [.ref o, .int (nI a1), .int (nI a2), .int (nI a3), .int (g560a), .int (nI (k560 + 1)), .int (nI ((8 * k560) + a2)), .int (V (o + 9) ((16 * ((8 * k560) + a2)) + a3)), .int (nI 0)] dX5_passed_147 rfl (by decide) rfl ?_
              refine q_goto (tgt := 43) dX5_passed_150 (by decide) ?_
              refine q_weak [.ref o, .int (nI a1), .int (nI a2), .int (nI a3), .int (g560a), .int (nI (k560 + 1)), .retAddr 0, .retAddr 0, .retAddr 0] ⟨Or.inl rfl, Or.inl rfl, Or.inl rfl, Or.inl rfl, Or.inl rfl, Or.inl rfl, Or.inr ⟨0, rfl⟩, Or.inr ⟨0, rfl⟩, Or.inr ⟨0, rfl⟩, trivial⟩ ?_
              exact ih560 (k560 + 1) g560a h (by omega) ((congrArg (lp B560 d560 (k560 + 1)) (show g560a = B560 k560 g560a from by rw [hB560]; dsimp only; rw [if_neg c562, if_pos c563, if_pos c565, if_neg c566])).trans hT560) hok
          ·
            refine q_iconst (v := nI 1) dX5_passed_115 rfl ?_
            refine q_goto (tgt := 120) dX5_passed_116 (by decide) ?_
            refine t_istore [.ref o, .int (nI a1), .int (nI a2), .int (nI a3), .int (g560a), .int (nI k560), .int (nI ((8 * k560) + a2)), .int (V (o + 9) ((16 * ((8 * k560) + a2)) + a3)), .int (nI 1)] (Or.inr ⟨rfl, dX5_passed_120⟩) (by decide) rfl ?_
            refine q_iload dX5_passed_122 rfl ?_
            refine q_iload_n dX5_passed_124 rfl ?_
            refine q_icmp_eq (tgt := 143) dX5_passed_125 (by decide) (fun c567 => ?_) (fun c567 => ?_)
            ·
              refine q_iload dX5_passed_143 rfl ?_
              refine t_istore [.ref o, .int (nI a1), .int (nI a2), .int (nI a3), .int (g560a), .int (nI k560), .int (nI ((8 * k560) + a2)), .int (V (o + 9) ((16 * ((8 * k560) + a2)) + a3)), .int (nI 1)] (Or.inr ⟨rfl, dX5_passed_145⟩) (by decide) rfl ?_
              refine t_iinc_n [.ref o, .int (nI a1), .int (nI a2), .int (nI a3), .int (g560a), .int (nI (k560 + 1)), .int (nI ((8 * k560) + a2)), .int (V (o + 9) ((16 * ((8 * k560) + a2)) + a3)), .int (nI 1)] dX5_passed_147 rfl (by decide) rfl ?_
              refine q_goto (tgt := 43) dX5_passed_150 (by decide) ?_
              refine q_weak [.ref o, .int (nI a1), .int (nI a2), .int (nI a3), .int (g560a), .int (nI (k560 + 1)), .retAddr 0, .retAddr 0, .retAddr 0] ⟨Or.inl rfl, Or.inl rfl, Or.inl rfl, Or.inl rfl, Or.inl rfl, Or.inl rfl, Or.inr ⟨0, rfl⟩, Or.inr ⟨0, rfl⟩, Or.inr ⟨0, rfl⟩, trivial⟩ ?_
              exact ih560 (k560 + 1) g560a h (by omega) ((congrArg (lp B560 d560 (k560 + 1)) (show g560a = B560 k560 g560a from by rw [hB560]; dsimp only; rw [if_neg c562, if_pos c563, if_neg c565, if_pos c567])).trans hT560) hok
            ·
              refine q_iload dX5_passed_128 rfl ?_
              refine q_if_eq (tgt := 143) dX5_passed_130 (by decide) (fun q => absurd q (by decide)) (fun _ => ?_)
              refine q_iload dX5_passed_133 rfl ?_
              refine q_iconst (v := nI 1) dX5_passed_135 rfl ?_
              refine q_iload dX5_passed_136 rfl ?_
              refine q_ishl dX5_passed_138 ?_
              refine q_iadd dX5_passed_139 ?_
              refine q_goto (tgt := 145) dX5_passed_140 (by decide) ?_
              refine t_istore [.ref o, .int (nI a1), .int (nI a2), .int (nI a3), .int ((g560a) + ((nI 1) <<< ((nI k560) &&& 31))), .int (nI k560), .int (nI ((8 * k560) + a2)), .int (V (o + 9) ((16 * ((8 * k560) + a2)) + a3)), .int (nI 1)] (Or.inr ⟨rfl, dX5_passed_145⟩) (by decide) rfl ?_
              refine t_iinc_n [.ref o, .int (nI a1), .int (nI a2), .int (nI a3), .int ((g560a) + ((nI 1) <<< ((nI k560) &&& 31))), .int (nI (k560 + 1)), .int (nI ((8 * k560) + a2)), .int (V (o + 9) ((16 * ((8 * k560) + a2)) + a3)), .int (nI 1)] dX5_passed_147 rfl (by decide) rfl ?_
              refine q_goto (tgt := 43) dX5_passed_150 (by decide) ?_
              refine q_weak [.ref o, .int (nI a1), .int (nI a2), .int (nI a3), .int ((g560a) + ((nI 1) <<< ((nI k560) &&& 31))), .int (nI (k560 + 1)), .retAddr 0, .retAddr 0, .retAddr 0] ⟨Or.inl rfl, Or.inl rfl, Or.inl rfl, Or.inl rfl, Or.inl rfl, Or.inl rfl, Or.inr ⟨0, rfl⟩, Or.inr ⟨0, rfl⟩, Or.inr ⟨0, rfl⟩, trivial⟩ ?_
              exact ih560 (k560 + 1) ((g560a) + ((nI 1) <<< ((nI k560) &&& 31))) h (by omega) ((congrArg (lp B560 d560 (k560 + 1)) (show (g560a) + ((nI 1) <<< ((nI k560) &&& 31)) = B560 k560 g560a from by rw [hB560]; dsimp only; rw [if_neg c562, if_pos c563, if_neg c565, if_neg c567])).trans hT560) hok
      ·
        refine q_iload dX5_passed_92 rfl ?_
        refine q_iconst (v := nI 1) dX5_passed_94 rfl ?_
        refine q_icmp_eq (tgt := 115) dX5_passed_95 (by decide) (fun c568 => ?_) (fun c568 => ?_)
        ·
          refine q_iconst (v := nI 1) dX5_passed_115 rfl ?_
          refine q_goto (tgt := 120) dX5_passed_116 (by decide) ?_
          refine t_istore [.ref o, .int (nI a1), .int (nI a2), .int (nI a3), .int (g560a), .int (nI k560), .int (nI ((8 * k560) + a2)), .int (V (o + 9) ((16 * ((8 * k560) + a2)) + a3)), .int (nI 1)] (Or.inr ⟨rfl, dX5_passed_120⟩) (by decide) rfl ?_
          refine q_iload dX5_passed_122 rfl ?_
          refine q_iload_n dX5_passed_124 rfl ?_
          refine q_icmp_eq (tgt := 143) dX5_passed_125 (by decide) (fun c569 => ?_) (fun c569 => ?_)
          ·
            refine q_iload dX5_passed_143 rfl ?_
            refine t_istore [.ref o, .int (nI a1), .int (nI a2), .int (nI a3), .int (g560a), .int (nI k560), .int (nI ((8 * k560) + a2)), .int (V (o + 9) ((16 * ((8 * k560) + a2)) + a3)), .int (nI 1)] (Or.inr ⟨rfl, dX5_passed_145⟩) (by decide) rfl ?_
            refine t_iinc_n [.ref o, .int (nI a1), .int (nI a2), .int (nI a3), .int (g560a), .int (nI (k560 + 1)), .int (nI ((8 * k560) + a2)), .int (V (o + 9) ((16 * ((8 * k560) + a2)) + a3)), .int (nI 1)] dX5_passed_147 rfl (by decide) rfl ?_
            refine q_goto (tgt := 43) dX5_passed_150 (by decide) ?_
            refine q_weak [.ref o, .int (nI a1), .int (nI a2), .int (nI a3), .int (g560a), .int (nI (k560 + 1)), .retAddr 0, .retAddr 0, .retAddr 0] ⟨Or.inl rfl, Or.inl rfl, Or.inl rfl, Or.inl rfl, Or.inl rfl, Or.inl rfl, Or.inr ⟨0, rfl⟩, Or.inr ⟨0, rfl⟩, Or.inr ⟨0, rfl⟩, trivial⟩ ?_
            exact ih560 (k560 + 1) g560a h (by omega) ((congrArg (lp B560 d560 (k560 + 1)) (show g560a = B560 k560 g560a from by rw [hB560]; dsimp only; rw [if_pos c562, if_pos c568, if_pos c569])).trans hT560) hok
          ·
            refine q_iload dX5_passed_128 rfl ?_
            refine q_if_eq (tgt := 143) dX5_passed_130 (by decide) (fun q => absurd q (by decide)) (fun _ => ?_)
            refine q_iload dX5_passed_133 rfl ?_
            refine q_iconst (v := nI 1) dX5_passed_135 rfl ?_
            refine q_iload dX5_passed_136 rfl ?_
            refine q_ishl dX5_passed_138 ?_
            refine q_iadd dX5_passed_139 ?_
            refine q_goto (tgt := 145) dX5_passed_140 (by decide) ?_
            refine t_istore [.ref o, .int (nI a1), .int (nI a2), .int (nI a3), .int ((g560a) + ((nI 1) <<< ((nI k560) &&& 31))), .int (nI k560), .int (nI ((8 * k560) + a2)), .int (V (o + 9) ((16 * ((8 * k560) + a2)) + a3)), .int (nI 1)] (Or.inr ⟨rfl, dX5_passed_145⟩) (by decide) rfl ?_
            refine t_iinc_n [.ref o, .int (nI a1), .int (nI a2), .int (nI a3), .int ((g560a) + ((nI 1) <<< ((nI k560) &&& 31))), .int (nI (k560 + 1)), .int (nI ((8 * k560) + a2)), .int (V (o + 9) ((16 * ((8 * k560) + a2)) + a3)), .int (nI 1)] dX5_passed_147 rfl (by decide) rfl ?_
            refine q_goto (tgt := 43) dX5_passed_150 (by decide) ?_
            refine q_weak [.ref o, .int (nI a1), .int (nI a2), .int (nI a3), .int ((g560a) + ((nI 1) <<< ((nI k560) &&& 31))), .int (nI (k560 + 1)), .retAddr 0, .retAddr 0, .retAddr 0] ⟨Or.inl rfl, Or.inl rfl, Or.inl rfl, Or.inl rfl, Or.inl rfl, Or.inl rfl, Or.inr ⟨0, rfl⟩, Or.inr ⟨0, rfl⟩, Or.inr ⟨0, rfl⟩, trivial⟩ ?_
            exact ih560 (k560 + 1) ((g560a) + ((nI 1) <<< ((nI k560) &&& 31))) h (by omega) ((congrArg (lp B560 d560 (k560 + 1)) (show (g560a) + ((nI 1) <<< ((nI k560) &&& 31)) = B560 k560 g560a from by rw [hB560]; dsimp only; rw [if_pos c562, if_pos c568, if_neg c569])).trans hT560) hok
        ·
          refine q_aload_n dX5_passed_98 rfl ?_
          refine v_getr 8 kX5 (by decide) wPX5_28 dX5_passed_99 hok H.1 rfl ?_
          refine q_iload dX5_passed_102 rfl ?_
          refine v_iald (by decide) dX5_passed_104 hok H.2.2.2.2.2.2.2.1 (j := (8 * k560) + a2) (by omega) ?_
          refine q_iconst (v := nI 1) dX5_passed_105 rfl ?_
          refine q_icmp_ne (tgt := 119) dX5_passed_106 (by decide) (fun c570 => ?_) (fun c570 => ?_)
          ·
            refine q_iconst (v := nI 0) dX5_passed_119 rfl ?_
            refine t_istore [.ref o, .int (nI a1), .int (nI a2), .int (nI a3), .int (g560a), .int (nI k560), .int (nI ((8 * k560) + a2)), .int (V (o + 9) ((16 * ((8 * k560) + a2)) + a3)), .int (nI 0)] (Or.inr ⟨rfl, dX5_passed_120⟩) (by decide) rfl ?_
            refine q_iload dX5_passed_122 rfl ?_
            refine q_iload_n dX5_passed_124 rfl ?_
            refine q_icmp_eq (tgt := 143) dX5_passed_125 (by decide) (fun c571 => ?_) (fun c571 => ?_)
            ·
              refine q_iload dX5_passed_143 rfl ?_
              refine t_istore [.ref o, .int (nI a1), .int (nI a2), .int (nI a3), .int (g560a), .int (nI k560), .int (nI ((8 * k560) + a2)), .int (V (o + 9) ((16 * ((8 * k560) + a2)) + a3)), .int (nI 0)] (Or.inr ⟨rfl, dX5_passed_145⟩) (by decide) rfl ?_
              refine t_iinc_n [.ref o, .int (nI a1), .int (nI a2), .int (nI a3), .int (g560a), .int (nI (k560 + 1)), .int (nI ((8 * k560) + a2)), .int (V (o + 9) ((16 * ((8 * k560) + a2)) + a3)), .int (nI 0)] dX5_passed_147 rfl (by decide) rfl ?_
              refine q_goto (tgt := 43) dX5_passed_150 (by decide) ?_
              refine q_weak [.ref o, .int (nI a1), .int (nI a2), .int (nI a3), .int (g560a), .int (nI (k560 + 1)), .retAddr 0, .retAddr 0, .retAddr 0] ⟨Or.inl rfl, Or.inl rfl, Or.inl rfl, Or.inl rfl, Or.inl rfl, Or.inl rfl, Or.inr ⟨0, rfl⟩, Or.inr ⟨0, rfl⟩, Or.inr ⟨0, rfl⟩, trivial⟩ ?_
              exact ih560 (k560 + 1) g560a h (by omega) ((congrArg (lp B560 d560 (k560 + 1)) (show g560a = B560 k560 g560a from by rw [hB560]; dsimp only; rw [if_pos c562, if_neg c568, if_neg c570, if_pos c571])).trans hT560) hok
            ·
              refine q_iload dX5_passed_128 rfl ?_
              refine q_if_eq (tgt := 143) dX5_passed_130 (by decide) (fun _ => ?_) (fun q => absurd q (by decide))
              refine q_iload dX5_passed_143 rfl ?_
              refine t_istore [.ref o, .int (nI a1), .int (nI a2), .int (nI a3), .int (g560a), .int (nI k560), .int (nI ((8 * k560) + a2)), .int (V (o + 9) ((16 * ((8 * k560) + a2)) + a3)), .int (nI 0)] (Or.inr ⟨rfl, dX5_passed_145⟩) (by decide) rfl ?_
              refine t_iinc_n [.ref o, .int (nI a1), .int (nI a2), .int (nI a3), .int (g560a), .int (nI (k560 + 1)), .int (nI ((8 * k560) + a2)), .int (V (o + 9) ((16 * ((8 * k560) + a2)) + a3)), .int (nI 0)] dX5_passed_147 rfl (by decide) rfl ?_
              refine q_goto (tgt := 43) dX5_passed_150 (by decide) ?_
              refine q_weak [.ref o, .int (nI a1), .int (nI a2), .int (nI a3), .int (g560a), .int (nI (k560 + 1)), .retAddr 0, .retAddr 0, .retAddr 0] ⟨Or.inl rfl, Or.inl rfl, Or.inl rfl, Or.inl rfl, Or.inl rfl, Or.inl rfl, Or.inr ⟨0, rfl⟩, Or.inr ⟨0, rfl⟩, Or.inr ⟨0, rfl⟩, trivial⟩ ?_
              exact ih560 (k560 + 1) g560a h (by omega) ((congrArg (lp B560 d560 (k560 + 1)) (show g560a = B560 k560 g560a from by rw [hB560]; dsimp only; rw [if_pos c562, if_neg c568, if_neg c570, if_neg c571])).trans hT560) hok
          ·
            refine q_iload dX5_passed_109 rfl ?_
            refine q_iconst (v := nI 2) dX5_passed_111 rfl ?_
            refine q_icmp_eq (tgt := 119) dX5_passed_112 (by decide) (fun c572 => ?_) (fun c572 => ?_)
            ·
              refine q_iconst (v := nI 0) dX5_passed_119 rfl ?_
              refine t_istore [.ref o, .int (nI a1), .int (nI a2), .int (nI a3), .int (g560a), .int (nI k560), .int (nI ((8 * k560) + a2)), .int (V (o + 9) ((16 * ((8 * k560) + a2)) + a3)), .int (nI 0)] (Or.inr ⟨rfl, dX5_passed_120⟩) (by decide) rfl ?_
              refine q_iload dX5_passed_122 rfl ?_
              refine q_iload_n dX5_passed_124 rfl ?_
              refine q_icmp_eq (tgt := 143) dX5_passed_125 (by decide) (fun c573 => ?_) (fun c573 => ?_)
              ·
                refine q_iload dX5_passed_143 rfl ?_
                refine t_istore [.ref o, .int (nI a1), .int (nI a2), .int (nI a3), .int (g560a), .int (nI k560), .int (nI ((8 * k560) + a2)), .int (V (o + 9) ((16 * ((8 * k560) + a2)) + a3)), .int (nI 0)] (Or.inr ⟨rfl, dX5_passed_145⟩) (by decide) rfl ?_
                refine t_iinc_n [.ref o, .int (nI a1), .int (nI a2), .int (nI a3), .int (g560a), .int (nI (k560 + 1)), .int (nI ((8 * k560) + a2)), .int (V (o + 9) ((16 * ((8 * k560) + a2)) + a3)), .int (nI 0)] dX5_passed_147 rfl (by decide) rfl ?_
                refine q_goto (tgt := 43) dX5_passed_150 (by decide) ?_
                refine q_weak [.ref o, .int (nI a1), .int (nI a2), .int (nI a3), .int (g560a), .int (nI (k560 + 1)), .retAddr 0, .retAddr 0, .retAddr 0] ⟨Or.inl rfl, Or.inl rfl, Or.inl rfl, Or.inl rfl, Or.inl rfl, Or.inl rfl, Or.inr ⟨0, rfl⟩, Or.inr ⟨0, rfl⟩, Or.inr ⟨0, rfl⟩, trivial⟩ ?_
                exact ih560 (k560 + 1) g560a h (by omega) ((congrArg (lp B560 d560 (k560 + 1)) (show g560a = B560 k560 g560a from by rw [hB560]; dsimp only; rw [if_pos c562, if_neg c568, if_pos c570, if_pos c572, if_pos c573])).trans hT560) hok
              ·
                refine q_iload dX5_passed_128 rfl ?_
                refine q_if_eq (tgt := 143) dX5_passed_130 (by decide) (fun _ => ?_) (fun q => absurd q (by decide))
                refine q_iload dX5_passed_143 rfl ?_
                refine t_istore [.ref o, .int (nI a1), .int (nI a2), .int (nI a3), .int (g560a), .int (nI k560), .int (nI ((8 * k560) + a2)), .int (V (o + 9) ((16 * ((8 * k560) + a2)) + a3)), .int (nI 0)] (Or.inr ⟨rfl, dX5_passed_145⟩) (by decide) rfl ?_
                refine t_iinc_n [.ref o, .int (nI a1), .int (nI a2), .int (nI a3), .int (g560a), .int (nI (k560 + 1)), .int (nI ((8 * k560) + a2)), .int (V (o + 9) ((16 * ((8 * k560) + a2)) + a3)), .int (nI 0)] dX5_passed_147 rfl (by decide) rfl ?_
                refine q_goto (tgt := 43) dX5_passed_150 (by decide) ?_
                refine q_weak [.ref o, .int (nI a1), .int (nI a2), .int (nI a3), .int (g560a), .int (nI (k560 + 1)), .retAddr 0, .retAddr 0, .retAddr 0] ⟨Or.inl rfl, Or.inl rfl, Or.inl rfl, Or.inl rfl, Or.inl rfl, Or.inl rfl, Or.inr ⟨0, rfl⟩, Or.inr ⟨0, rfl⟩, Or.inr ⟨0, rfl⟩, trivial⟩ ?_
                exact ih560 (k560 + 1) g560a h (by omega) ((congrArg (lp B560 d560 (k560 + 1)) (show g560a = B560 k560 g560a from by rw [hB560]; dsimp only; rw [if_pos c562, if_neg c568, if_pos c570, if_pos c572, if_neg c573])).trans hT560) hok
            ·
              refine q_iconst (v := nI 1) dX5_passed_115 rfl ?_
              refine q_goto (tgt := 120) dX5_passed_116 (by decide) ?_
              refine t_istore [.ref o, .int (nI a1), .int (nI a2), .int (nI a3), .int (g560a), .int (nI k560), .int (nI ((8 * k560) + a2)), .int (V (o + 9) ((16 * ((8 * k560) + a2)) + a3)), .int (nI 1)] (Or.inr ⟨rfl, dX5_passed_120⟩) (by decide) rfl ?_
              refine q_iload dX5_passed_122 rfl ?_
              refine q_iload_n dX5_passed_124 rfl ?_
              refine q_icmp_eq (tgt := 143) dX5_passed_125 (by decide) (fun c574 => ?_) (fun c574 => ?_)
              ·
                refine q_iload dX5_passed_143 rfl ?_
                refine t_istore [.ref o, .int (nI a1), .int (nI a2), .int (nI a3), .int (g560a), .int (nI k560), .int (nI ((8 * k560) + a2)), .int (V (o + 9) ((16 * ((8 * k560) + a2)) + a3)), .int (nI 1)] (Or.inr ⟨rfl, dX5_passed_145⟩) (by decide) rfl ?_
                refine t_iinc_n [.ref o, .int (nI a1), .int (nI a2), .int (nI a3), .int (g560a), .int (nI (k560 + 1)), .int (nI ((8 * k560) + a2)), .int (V (o + 9) ((16 * ((8 * k560) + a2)) + a3)), .int (nI 1)] dX5_passed_147 rfl (by decide) rfl ?_
                refine q_goto (tgt := 43) dX5_passed_150 (by decide) ?_
                refine q_weak [.ref o, .int (nI a1), .int (nI a2), .int (nI a3), .int (g560a), .int (nI (k560 + 1)), .retAddr 0, .retAddr 0, .retAddr 0] ⟨Or.inl rfl, Or.inl rfl, Or.inl rfl, Or.inl rfl, Or.inl rfl, Or.inl rfl, Or.inr ⟨0, rfl⟩, Or.inr ⟨0, rfl⟩, Or.inr ⟨0, rfl⟩, trivial⟩ ?_
                exact ih560 (k560 + 1) g560a h (by omega) ((congrArg (lp B560 d560 (k560 + 1)) (show g560a = B560 k560 g560a from by rw [hB560]; dsimp only; rw [if_pos c562, if_neg c568, if_pos c570, if_neg c572, if_pos c574])).trans hT560) hok
              ·
                refine q_iload dX5_passed_128 rfl ?_
                refine q_if_eq (tgt := 143) dX5_passed_130 (by decide) (fun q => absurd q (by decide)) (fun _ => ?_)
                refine q_iload dX5_passed_133 rfl ?_
                refine q_iconst (v := nI 1) dX5_passed_135 rfl ?_
                refine q_iload dX5_passed_136 rfl ?_
                refine q_ishl dX5_passed_138 ?_
                refine q_iadd dX5_passed_139 ?_
                refine q_goto (tgt := 145) dX5_passed_140 (by decide) ?_
                refine t_istore [.ref o, .int (nI a1), .int (nI a2), .int (nI a3), .int ((g560a) + ((nI 1) <<< ((nI k560) &&& 31))), .int (nI k560), .int (nI ((8 * k560) + a2)), .int (V (o + 9) ((16 * ((8 * k560) + a2)) + a3)), .int (nI 1)] (Or.inr ⟨rfl, dX5_passed_145⟩) (by decide) rfl ?_
                refine t_iinc_n [.ref o, .int (nI a1), .int (nI a2), .int (nI a3), .int ((g560a) + ((nI 1) <<< ((nI k560) &&& 31))), .int (nI (k560 + 1)), .int (nI ((8 * k560) + a2)), .int (V (o + 9) ((16 * ((8 * k560) + a2)) + a3)), .int (nI 1)] dX5_passed_147 rfl (by decide) rfl ?_
                refine q_goto (tgt := 43) dX5_passed_150 (by decide) ?_
                refine q_weak [.ref o, .int (nI a1), .int (nI a2), .int (nI a3), .int ((g560a) + ((nI 1) <<< ((nI k560) &&& 31))), .int (nI (k560 + 1)), .retAddr 0, .retAddr 0, .retAddr 0] ⟨Or.inl rfl, Or.inl rfl, Or.inl rfl, Or.inl rfl, Or.inl rfl, Or.inl rfl, Or.inr ⟨0, rfl⟩, Or.inr ⟨0, rfl⟩, Or.inr ⟨0, rfl⟩, trivial⟩ ?_
                exact ih560 (k560 + 1) ((g560a) + ((nI 1) <<< ((nI k560) &&& 31))) h (by omega) ((congrArg (lp B560 d560 (k560 + 1)) (show (g560a) + ((nI 1) <<< ((nI k560) &&& 31)) = B560 k560 g560a from by rw [hB560]; dsimp only; rw [if_pos c562, if_neg c568, if_pos c570, if_neg c572, if_neg c574])).trans hT560) hok
  exact hl560 ml 0 (nI 0) h (by omega) rfl hok
def vX5_asked_0 (o ml : Nat) (a1 : Int32) (V : q_V) : Int32 := (V (o + 13) (fm40 (V o 15 - nI 1 - a1)))
set_option maxRecDepth 20000 in
set_option maxHeartbeats 4000000 in
theorem kX5_asked_0 (Sc : q_S) (Γ : Nat → q_K) (n : Nat) (V : q_V) (o ml : Nat) (H : sM Γ o ml) (hm1 : 1 ≤ ml) (hml : ml ≤ 4) (a1 : Int32) (hx : 0 ≤ (V o 15 - nI 1 - a1).toInt) {kc ks : Nat} {Q : q_O → q_H → Nat → Prop} {h : q_H} (hQ : ∀ (O : q_O) (h' : q_H), O = .inl (some (.int (vX5_asked_0 o ml a1 V))) → q_ok (gX Γ V) h' → Q O h' n) (hok : q_ok (gX Γ V) h) : q_A Sc mX5_asked 49 [.ref o, .int (a1), .int (nI 0), .retAddr 0] [] h n kc ks Q := by
  refine q_aload_n dX5_asked_49 rfl ?_
  refine v_geti 15 kX5 (by decide) wPX5_72 dX5_asked_50 hok H.1 rfl ?_
  refine q_iconst (v := nI 1) dX5_asked_53 rfl ?_
  refine q_isub dX5_asked_54 ?_
  refine q_iload_n dX5_asked_55 rfl ?_
  refine q_isub dX5_asked_56 ?_
  refine q_bipush (v := nI 40) dX5_asked_57 rfl ?_
  refine q_irem dX5_asked_59 (by decide) ?_
  rw [fm40_pos hx]
  have hfm := fm40_lt (V o 15 - nI 1 - a1)
  refine t_istore [.ref o, .int (a1), .int (nI 0), .int (nI (fm40 (V o 15 - nI 1 - a1)))] (Or.inl ⟨3, rfl, rfl, dX5_asked_60⟩) (by decide) rfl ?_
  refine q_iload_n dX5_asked_61 rfl ?_
  refine q_if_ne (tgt := 74) dX5_asked_62 (by decide) (fun q => absurd q (by decide)) (fun _ => ?_)
  refine q_aload_n dX5_asked_65 rfl ?_
  refine v_getr 16 kX5 (by decide) wPX5_47 dX5_asked_66 hok H.1 rfl ?_
  refine q_iload_n dX5_asked_69 rfl ?_
  refine v_iald (by decide) dX5_asked_70 hok H.2.2.2.2.2.2.2.2.2.2.2.2.2.1 (j := fm40 (V o 15 - nI 1 - a1)) (by omega) ?_
  refine q_goto (tgt := 108) dX5_asked_71 (by decide) ?_
  exact q_iret dX5_asked_108 rfl (rfl) (hQ _ _ (by dsimp only [vX5_asked_0]) (hok))
def vX5_asked_1 (o ml : Nat) (a1 : Int32) (V : q_V) : Int32 := (V (o + 14) (fm40 (V o 15 - nI 1 - a1)))
set_option maxRecDepth 20000 in
set_option maxHeartbeats 4000000 in
theorem kX5_asked_1 (Sc : q_S) (Γ : Nat → q_K) (n : Nat) (V : q_V) (o ml : Nat) (H : sM Γ o ml) (hm1 : 1 ≤ ml) (hml : ml ≤ 4) (a1 : Int32) (hx : 0 ≤ (V o 15 - nI 1 - a1).toInt) {kc ks : Nat} {Q : q_O → q_H → Nat → Prop} {h : q_H} (hQ : ∀ (O : q_O) (h' : q_H), O = .inl (some (.int (vX5_asked_1 o ml a1 V))) → q_ok (gX Γ V) h' → Q O h' n) (hok : q_ok (gX Γ V) h) : q_A Sc mX5_asked 49 [.ref o, .int (a1), .int (nI 1), .retAddr 0] [] h n kc ks Q := by
  refine q_aload_n dX5_asked_49 rfl ?_
  refine v_geti 15 kX5 (by decide) wPX5_72 dX5_asked_50 hok H.1 rfl ?_
  refine q_iconst (v := nI 1) dX5_asked_53 rfl ?_
  refine q_isub dX5_asked_54 ?_
  refine q_iload_n dX5_asked_55 rfl ?_
  refine q_isub dX5_asked_56 ?_
  refine q_bipush (v := nI 40) dX5_asked_57 rfl ?_
  refine q_irem dX5_asked_59 (by decide) ?_
  rw [fm40_pos hx]
  have hfm := fm40_lt (V o 15 - nI 1 - a1)
  refine t_istore [.ref o, .int (a1), .int (nI 1), .int (nI (fm40 (V o 15 - nI 1 - a1)))] (Or.inl ⟨3, rfl, rfl, dX5_asked_60⟩) (by decide) rfl ?_
  refine q_iload_n dX5_asked_61 rfl ?_
  refine q_if_ne (tgt := 74) dX5_asked_62 (by decide) (fun _ => ?_) (fun q => absurd q (by decide))
  refine q_iload_n dX5_asked_74 rfl ?_
  refine q_iconst (v := nI 1) dX5_asked_75 rfl ?_
  refine q_icmp_ne (tgt := 88) dX5_asked_76 (by decide) (fun q => absurd q (by decide)) (fun _ => ?_)
  refine q_aload_n dX5_asked_79 rfl ?_
  refine v_getr 17 kX5 (by decide) wPX5_50 dX5_asked_80 hok H.1 rfl ?_
  refine q_iload_n dX5_asked_83 rfl ?_
  refine v_iald (by decide) dX5_asked_84 hok H.2.2.2.2.2.2.2.2.2.2.2.2.2.2.1 (j := fm40 (V o 15 - nI 1 - a1)) (by omega) ?_
  refine q_goto (tgt := 108) dX5_asked_85 (by decide) ?_
  exact q_iret dX5_asked_108 rfl (rfl) (hQ _ _ (by dsimp only [vX5_asked_1]) (hok))
def vX5_asked_2 (o ml : Nat) (a1 : Int32) (V : q_V) : Int32 := (V (o + 15) (fm40 (V o 15 - nI 1 - a1)))
set_option maxRecDepth 20000 in
set_option maxHeartbeats 4000000 in
theorem kX5_asked_2 (Sc : q_S) (Γ : Nat → q_K) (n : Nat) (V : q_V) (o ml : Nat) (H : sM Γ o ml) (hm1 : 1 ≤ ml) (hml : ml ≤ 4) (a1 : Int32) (hx : 0 ≤ (V o 15 - nI 1 - a1).toInt) {kc ks : Nat} {Q : q_O → q_H → Nat → Prop} {h : q_H} (hQ : ∀ (O : q_O) (h' : q_H), O = .inl (some (.int (vX5_asked_2 o ml a1 V))) → q_ok (gX Γ V) h' → Q O h' n) (hok : q_ok (gX Γ V) h) : q_A Sc mX5_asked 49 [.ref o, .int (a1), .int (nI 2), .retAddr 0] [] h n kc ks Q := by
  refine q_aload_n dX5_asked_49 rfl ?_
  refine v_geti 15 kX5 (by decide) wPX5_72 dX5_asked_50 hok H.1 rfl ?_
  refine q_iconst (v := nI 1) dX5_asked_53 rfl ?_
  refine q_isub dX5_asked_54 ?_
  refine q_iload_n dX5_asked_55 rfl ?_
  refine q_isub dX5_asked_56 ?_
  refine q_bipush (v := nI 40) dX5_asked_57 rfl ?_
  refine q_irem dX5_asked_59 (by decide) ?_
  rw [fm40_pos hx]
  have hfm := fm40_lt (V o 15 - nI 1 - a1)
  refine t_istore [.ref o, .int (a1), .int (nI 2), .int (nI (fm40 (V o 15 - nI 1 - a1)))] (Or.inl ⟨3, rfl, rfl, dX5_asked_60⟩) (by decide) rfl ?_
  refine q_iload_n dX5_asked_61 rfl ?_
  refine q_if_ne (tgt := 74) dX5_asked_62 (by decide) (fun _ => ?_) (fun q => absurd q (by decide))
  refine q_iload_n dX5_asked_74 rfl ?_
  refine q_iconst (v := nI 1) dX5_asked_75 rfl ?_
  refine q_icmp_ne (tgt := 88) dX5_asked_76 (by decide) (fun _ => ?_) (fun q => absurd q (by decide))
  refine q_iload_n dX5_asked_88 rfl ?_
  refine q_iconst (v := nI 2) dX5_asked_89 rfl ?_
  refine q_icmp_ne (tgt := 102) dX5_asked_90 (by decide) (fun q => absurd q (by decide)) (fun _ => ?_)
  refine q_aload_n dX5_asked_93 rfl ?_
  refine v_getr 18 kX5 (by decide) wPX5_53 dX5_asked_94 hok H.1 rfl ?_
  refine q_iload_n dX5_asked_97 rfl ?_
  refine v_iald (by decide) dX5_asked_98 hok H.2.2.2.2.2.2.2.2.2.2.2.2.2.2.2.1 (j := fm40 (V o 15 - nI 1 - a1)) (by omega) ?_
  refine q_goto (tgt := 108) dX5_asked_99 (by decide) ?_
  exact q_iret dX5_asked_108 rfl (rfl) (hQ _ _ (by dsimp only [vX5_asked_2]) (hok))
def vX5_asked_3 (o ml : Nat) (a1 : Int32) (V : q_V) : Int32 := (V (o + 16) (fm40 (V o 15 - nI 1 - a1)))
set_option maxRecDepth 20000 in
set_option maxHeartbeats 4000000 in
theorem kX5_asked_3 (Sc : q_S) (Γ : Nat → q_K) (n : Nat) (V : q_V) (o ml : Nat) (H : sM Γ o ml) (hm1 : 1 ≤ ml) (hml : ml ≤ 4) (a1 : Int32) (hx : 0 ≤ (V o 15 - nI 1 - a1).toInt) {kc ks : Nat} {Q : q_O → q_H → Nat → Prop} {h : q_H} (hQ : ∀ (O : q_O) (h' : q_H), O = .inl (some (.int (vX5_asked_3 o ml a1 V))) → q_ok (gX Γ V) h' → Q O h' n) (hok : q_ok (gX Γ V) h) : q_A Sc mX5_asked 49 [.ref o, .int (a1), .int (nI 3), .retAddr 0] [] h n kc ks Q := by
  refine q_aload_n dX5_asked_49 rfl ?_
  refine v_geti 15 kX5 (by decide) wPX5_72 dX5_asked_50 hok H.1 rfl ?_
  refine q_iconst (v := nI 1) dX5_asked_53 rfl ?_
  refine q_isub dX5_asked_54 ?_
  refine q_iload_n dX5_asked_55 rfl ?_
  refine q_isub dX5_asked_56 ?_
  refine q_bipush (v := nI 40) dX5_asked_57 rfl ?_
  refine q_irem dX5_asked_59 (by decide) ?_
  rw [fm40_pos hx]
  have hfm := fm40_lt (V o 15 - nI 1 - a1)
  refine t_istore [.ref o, .int (a1), .int (nI 3), .int (nI (fm40 (V o 15 - nI 1 - a1)))] (Or.inl ⟨3, rfl, rfl, dX5_asked_60⟩) (by decide) rfl ?_
  refine q_iload_n dX5_asked_61 rfl ?_
  refine q_if_ne (tgt := 74) dX5_asked_62 (by decide) (fun _ => ?_) (fun q => absurd q (by decide))
  refine q_iload_n dX5_asked_74 rfl ?_
  refine q_iconst (v := nI 1) dX5_asked_75 rfl ?_
  refine q_icmp_ne (tgt := 88) dX5_asked_76 (by decide) (fun _ => ?_) (fun q => absurd q (by decide))
  refine q_iload_n dX5_asked_88 rfl ?_
  refine q_iconst (v := nI 2) dX5_asked_89 rfl ?_
  refine q_icmp_ne (tgt := 102) dX5_asked_90 (by decide) (fun _ => ?_) (fun q => absurd q (by decide))
  refine q_aload_n dX5_asked_102 rfl ?_
  refine v_getr 19 kX5 (by decide) wPX5_56 dX5_asked_103 hok H.1 rfl ?_
  refine q_iload_n dX5_asked_106 rfl ?_
  refine v_iald (by decide) dX5_asked_107 hok H.2.2.2.2.2.2.2.2.2.2.2.2.2.2.2.2 (j := fm40 (V o 15 - nI 1 - a1)) (by omega) ?_
  exact q_iret dX5_asked_108 rfl (rfl) (hQ _ _ (by dsimp only [vX5_asked_3]) (hok))
def vX5_told_0 (o ml : Nat) (a1 : Nat) (V : q_V) : Int32 := (vX5_grace o ml a1 V)
set_option maxRecDepth 20000 in
set_option maxHeartbeats 4000000 in
theorem kX5_told_0 (Sc : q_S) (Γ : Nat → q_K) (n : Nat) (V : q_V) (o ml : Nat) (H : sM Γ o ml) (hm1 : 1 ≤ ml) (hml : ml ≤ 4) (a1 : Nat) (b1 : a1 < ml)  {kc ks : Nat} {Q : q_O → q_H → Nat → Prop} {h : q_H} (hQ : ∀ (O : q_O) (h' : q_H), O = .inl (some (.int (vX5_told_0 o ml a1 V))) → q_ok (gX Γ V) h' → Q O h' n) (hok : q_ok (gX Γ V) h) : q_A Sc mX5_told 39 [.ref o, .int (nI a1), .int (nI 0), .retAddr 0, .retAddr 0] [] h n kc ks Q := by
  refine q_iload_n dX5_told_39 rfl ?_
  refine q_if_ne (tgt := 49) dX5_told_40 (by decide) (fun q => absurd q (by decide)) (fun _ => ?_)
  refine q_aload_n dX5_told_43 rfl ?_
  refine q_iload_n dX5_told_44 rfl ?_
  refine v_callV (M' := mX5_grace) [.int (nI a1)] [] kX5 dX5_told_45 wPX5_98v wIX5_grace wSX5_grace iX5_grace oX5_grace rfl hok H.1 (eX5_grace Sc Γ n V o ml H hm1 hml a1 (by omega)) (Nat.le_of_ble_eq_true rfl) (Nat.le_of_ble_eq_true rfl) (Nat.le_of_ble_eq_true rfl) rfl (fun h hok => ?_)
  exact q_iret dX5_told_48 rfl (rfl) (hQ _ _ (by dsimp only [vX5_told_0]) (hok))
def vX5_told_1 (o ml : Nat) (a1 : Nat) (V : q_V) : Int32 := (V (o + 1) a1)
set_option maxRecDepth 20000 in
set_option maxHeartbeats 4000000 in
theorem kX5_told_1 (Sc : q_S) (Γ : Nat → q_K) (n : Nat) (V : q_V) (o ml : Nat) (H : sM Γ o ml) (hm1 : 1 ≤ ml) (hml : ml ≤ 4) (a1 : Nat) (b1 : a1 < ml)  {kc ks : Nat} {Q : q_O → q_H → Nat → Prop} {h : q_H} (hQ : ∀ (O : q_O) (h' : q_H), O = .inl (some (.int (vX5_told_1 o ml a1 V))) → q_ok (gX Γ V) h' → Q O h' n) (hok : q_ok (gX Γ V) h) : q_A Sc mX5_told 39 [.ref o, .int (nI a1), .int (nI 1), .retAddr 0, .retAddr 0] [] h n kc ks Q := by
  refine q_iload_n dX5_told_39 rfl ?_
  refine q_if_ne (tgt := 49) dX5_told_40 (by decide) (fun _ => ?_) (fun q => absurd q (by decide))
  refine q_iload_n dX5_told_49 rfl ?_
  refine q_iconst (v := nI 1) dX5_told_50 rfl ?_
  refine q_icmp_ne (tgt := 61) dX5_told_51 (by decide) (fun q => absurd q (by decide)) (fun _ => ?_)
  refine q_aload_n dX5_told_54 rfl ?_
  refine v_getr 2 kX5 (by decide) wPX5_7 dX5_told_55 hok H.1 rfl ?_
  refine q_iload_n dX5_told_58 rfl ?_
  refine v_iald (by decide) dX5_told_59 hok H.2.1 (j := a1) (by omega) ?_
  exact q_iret dX5_told_60 rfl (rfl) (hQ _ _ (by dsimp only [vX5_told_1]) (hok))
def vX5_told_2 (o ml : Nat) (a1 : Nat) (V : q_V) : Int32 := (V (o + 4) a1)
set_option maxRecDepth 20000 in
set_option maxHeartbeats 4000000 in
theorem kX5_told_2 (Sc : q_S) (Γ : Nat → q_K) (n : Nat) (V : q_V) (o ml : Nat) (H : sM Γ o ml) (hm1 : 1 ≤ ml) (hml : ml ≤ 4) (a1 : Nat) (b1 : a1 < ml)  {kc ks : Nat} {Q : q_O → q_H → Nat → Prop} {h : q_H} (hQ : ∀ (O : q_O) (h' : q_H), O = .inl (some (.int (vX5_told_2 o ml a1 V))) → q_ok (gX Γ V) h' → Q O h' n) (hok : q_ok (gX Γ V) h) : q_A Sc mX5_told 39 [.ref o, .int (nI a1), .int (nI 2), .retAddr 0, .retAddr 0] [] h n kc ks Q := by
  refine q_iload_n dX5_told_39 rfl ?_
  refine q_if_ne (tgt := 49) dX5_told_40 (by decide) (fun _ => ?_) (fun q => absurd q (by decide))
  refine q_iload_n dX5_told_49 rfl ?_
  refine q_iconst (v := nI 1) dX5_told_50 rfl ?_
  refine q_icmp_ne (tgt := 61) dX5_told_51 (by decide) (fun _ => ?_) (fun q => absurd q (by decide))
  refine q_iload_n dX5_told_61 rfl ?_
  refine q_iconst (v := nI 2) dX5_told_62 rfl ?_
  refine q_icmp_ne (tgt := 73) dX5_told_63 (by decide) (fun q => absurd q (by decide)) (fun _ => ?_)
  refine q_aload_n dX5_told_66 rfl ?_
  refine v_getr 5 kX5 (by decide) wPX5_19 dX5_told_67 hok H.1 rfl ?_
  refine q_iload_n dX5_told_70 rfl ?_
  refine v_iald (by decide) dX5_told_71 hok H.2.2.2.2.1 (j := a1) (by omega) ?_
  exact q_iret dX5_told_72 rfl (rfl) (hQ _ _ (by dsimp only [vX5_told_2]) (hok))
def vX5_told_3 (o ml : Nat) (a1 : Nat) (V : q_V) : Int32 := (V (o + 5) a1)
set_option maxRecDepth 20000 in
set_option maxHeartbeats 4000000 in
theorem kX5_told_3 (Sc : q_S) (Γ : Nat → q_K) (n : Nat) (V : q_V) (o ml : Nat) (H : sM Γ o ml) (hm1 : 1 ≤ ml) (hml : ml ≤ 4) (a1 : Nat) (b1 : a1 < ml)  {kc ks : Nat} {Q : q_O → q_H → Nat → Prop} {h : q_H} (hQ : ∀ (O : q_O) (h' : q_H), O = .inl (some (.int (vX5_told_3 o ml a1 V))) → q_ok (gX Γ V) h' → Q O h' n) (hok : q_ok (gX Γ V) h) : q_A Sc mX5_told 39 [.ref o, .int (nI a1), .int (nI 3), .retAddr 0, .retAddr 0] [] h n kc ks Q := by
  refine q_iload_n dX5_told_39 rfl ?_
  refine q_if_ne (tgt := 49) dX5_told_40 (by decide) (fun _ => ?_) (fun q => absurd q (by decide))
  refine q_iload_n dX5_told_49 rfl ?_
  refine q_iconst (v := nI 1) dX5_told_50 rfl ?_
  refine q_icmp_ne (tgt := 61) dX5_told_51 (by decide) (fun _ => ?_) (fun q => absurd q (by decide))
  refine q_iload_n dX5_told_61 rfl ?_
  refine q_iconst (v := nI 2) dX5_told_62 rfl ?_
  refine q_icmp_ne (tgt := 73) dX5_told_63 (by decide) (fun _ => ?_) (fun q => absurd q (by decide))
  refine q_iload_n dX5_told_73 rfl ?_
  refine q_iconst (v := nI 3) dX5_told_74 rfl ?_
  refine q_icmp_ne (tgt := 85) dX5_told_75 (by decide) (fun q => absurd q (by decide)) (fun _ => ?_)
  refine q_aload_n dX5_told_78 rfl ?_
  refine v_getr 6 kX5 (by decide) wPX5_22 dX5_told_79 hok H.1 rfl ?_
  refine q_iload_n dX5_told_82 rfl ?_
  refine v_iald (by decide) dX5_told_83 hok H.2.2.2.2.2.1 (j := a1) (by omega) ?_
  exact q_iret dX5_told_84 rfl (rfl) (hQ _ _ (by dsimp only [vX5_told_3]) (hok))
def vX5_told_4 (o ml : Nat) (a1 : Nat) (V : q_V) : Int32 := let B576 := fun (k576 : Nat) (s576 : Int32) => let g576a := s576; if (V (o + 7) ((8 * a1) + k576)) = (-1) then (g576a) else ((g576a) + (nI 1)); let T576 := lp B576 8 0 (nI 0); T576
set_option maxRecDepth 20000 in
set_option maxHeartbeats 4000000 in
theorem kX5_told_4 (Sc : q_S) (Γ : Nat → q_K) (n : Nat) (V : q_V) (o ml : Nat) (H : sM Γ o ml) (hm1 : 1 ≤ ml) (hml : ml ≤ 4) (a1 : Nat) (b1 : a1 < ml)  {kc ks : Nat} {Q : q_O → q_H → Nat → Prop} {h : q_H} (hQ : ∀ (O : q_O) (h' : q_H), O = .inl (some (.int (vX5_told_4 o ml a1 V))) → q_ok (gX Γ V) h' → Q O h' n) (hok : q_ok (gX Γ V) h) : q_A Sc mX5_told 39 [.ref o, .int (nI a1), .int (nI 4), .retAddr 0, .retAddr 0] [] h n kc ks Q := by
  refine q_iload_n dX5_told_39 rfl ?_
  refine q_if_ne (tgt := 49) dX5_told_40 (by decide) (fun _ => ?_) (fun q => absurd q (by decide))
  refine q_iload_n dX5_told_49 rfl ?_
  refine q_iconst (v := nI 1) dX5_told_50 rfl ?_
  refine q_icmp_ne (tgt := 61) dX5_told_51 (by decide) (fun _ => ?_) (fun q => absurd q (by decide))
  refine q_iload_n dX5_told_61 rfl ?_
  refine q_iconst (v := nI 2) dX5_told_62 rfl ?_
  refine q_icmp_ne (tgt := 73) dX5_told_63 (by decide) (fun _ => ?_) (fun q => absurd q (by decide))
  refine q_iload_n dX5_told_73 rfl ?_
  refine q_iconst (v := nI 3) dX5_told_74 rfl ?_
  refine q_icmp_ne (tgt := 85) dX5_told_75 (by decide) (fun _ => ?_) (fun q => absurd q (by decide))
  refine q_iload_n dX5_told_85 rfl ?_
  refine q_iconst (v := nI 5) dX5_told_86 rfl ?_
  refine q_icmp_ne (tgt := 109) dX5_told_87 (by decide) (fun _ => ?_) (fun q => absurd q (by decide))
  refine q_iconst (v := nI 0) dX5_told_109 rfl ?_
  refine t_istore [.ref o, .int (nI a1), .int (nI 4), .int (nI 0), .retAddr 0] (Or.inl ⟨3, rfl, rfl, dX5_told_110⟩) (by decide) rfl ?_
  refine q_iconst (v := nI 0) dX5_told_111 rfl ?_
  refine t_istore [.ref o, .int (nI a1), .int (nI 4), .int (nI 0), .int (nI 0)] (Or.inr ⟨rfl, dX5_told_112⟩) (by decide) rfl ?_
  obtain ⟨B576, hB576⟩ : ∃ B_ : Nat → Int32 → Int32, B_ = (fun (k576 : Nat) (s576 : Int32) => let g576a := s576; if (V (o + 7) ((8 * a1) + k576)) = (-1) then (g576a) else ((g576a) + (nI 1))) := ⟨_, rfl⟩
  have hl576 : ∀ (d576 k576 : Nat) (g576a : Int32) (h : q_H), k576 + d576 = 8 → lp B576 d576 k576 g576a = (lp B576 8 0 (nI 0)) → q_ok (gX Γ V) h → q_A Sc mX5_told 114 [.ref o, .int (nI a1), .int (nI 4), .int (g576a), .int (nI k576)] [] h n kc ks Q := by
    intro d576
    induction d576 with
    | zero =>
      intro k576 g576a h e576 hT576 hok
      have hT576 : g576a = (lp B576 8 0 (nI 0)) := hT576
      subst hT576
      refine q_iload dX5_told_114 rfl ?_
      refine q_bipush (v := nI 8) dX5_told_116 rfl ?_
      refine t_icmp_ge_n (tgt := 151) (by omega) (by omega) dX5_told_118 (by decide) (fun c579 => ?_) (fun c579 => ?_)
      rotate_left
      · exact absurd c579 (by omega)
      refine q_iload_n dX5_told_151 rfl ?_
      exact q_iret dX5_told_152 rfl (rfl) (hQ _ _ (by subst hB576; dsimp only [vX5_told_4]) (hok))
    | succ d576 ih576 =>
      intro k576 g576a h e576 hT576 hok
      refine q_iload dX5_told_114 rfl ?_
      refine q_bipush (v := nI 8) dX5_told_116 rfl ?_
      refine t_icmp_ge_n (tgt := 151) (by omega) (by omega) dX5_told_118 (by decide) (fun c577 => ?_) (fun c577 => ?_)
      · exact absurd c577 (by omega)
      refine q_aload_n dX5_told_121 rfl ?_
      refine v_getr 8 kX5 (by decide) wPX5_28 dX5_told_122 hok H.1 rfl ?_
      refine q_bipush (v := nI 8) dX5_told_125 rfl ?_
      refine q_iload_n dX5_told_127 rfl ?_
      refine t_imul_n dX5_told_128 ?_
      refine q_iload dX5_told_129 rfl ?_
      refine t_iadd_n dX5_told_131 ?_
      refine v_iald (by decide) dX5_told_132 hok H.2.2.2.2.2.2.2.1 (j := (8 * a1) + k576) (by omega) ?_
      refine q_iconst (v := -1) dX5_told_133 rfl ?_
      refine q_icmp_ne (tgt := 141) dX5_told_134 (by decide) (fun c578 => ?_) (fun c578 => ?_)
      ·
        refine q_iload_n dX5_told_141 rfl ?_
        refine q_iconst (v := nI 1) dX5_told_142 rfl ?_
        refine q_iadd dX5_told_143 ?_
        refine t_istore [.ref o, .int (nI a1), .int (nI 4), .int ((g576a) + (nI 1)), .int (nI k576)] (Or.inl ⟨3, rfl, rfl, dX5_told_144⟩) (by decide) rfl ?_
        refine t_iinc_n [.ref o, .int (nI a1), .int (nI 4), .int ((g576a) + (nI 1)), .int (nI (k576 + 1))] dX5_told_145 rfl (by decide) rfl ?_
        refine q_goto (tgt := 114) dX5_told_148 (by decide) ?_
        exact ih576 (k576 + 1) ((g576a) + (nI 1)) h (by omega) ((congrArg (lp B576 d576 (k576 + 1)) (show (g576a) + (nI 1) = B576 k576 g576a from by rw [hB576]; dsimp only; rw [if_neg c578])).trans hT576) hok
      ·
        refine q_iload_n dX5_told_137 rfl ?_
        refine q_goto (tgt := 144) dX5_told_138 (by decide) ?_
        refine t_istore [.ref o, .int (nI a1), .int (nI 4), .int (g576a), .int (nI k576)] (Or.inl ⟨3, rfl, rfl, dX5_told_144⟩) (by decide) rfl ?_
        refine t_iinc_n [.ref o, .int (nI a1), .int (nI 4), .int (g576a), .int (nI (k576 + 1))] dX5_told_145 rfl (by decide) rfl ?_
        refine q_goto (tgt := 114) dX5_told_148 (by decide) ?_
        exact ih576 (k576 + 1) g576a h (by omega) ((congrArg (lp B576 d576 (k576 + 1)) (show g576a = B576 k576 g576a from by rw [hB576]; dsimp only; rw [if_pos c578])).trans hT576) hok
  exact hl576 8 0 (nI 0) h (by omega) rfl hok
def vX5_told_5 (o ml : Nat) (a1 : Nat) (V : q_V) : Int32 := if (vX5_asks o ml a1 V) = 0 then ((nI 0)) else ((V (o + 6) a1))
set_option maxRecDepth 20000 in
set_option maxHeartbeats 4000000 in
theorem kX5_told_5 (Sc : q_S) (Γ : Nat → q_K) (n : Nat) (V : q_V) (o ml : Nat) (H : sM Γ o ml) (hm1 : 1 ≤ ml) (hml : ml ≤ 4) (a1 : Nat) (b1 : a1 < ml)  {kc ks : Nat} {Q : q_O → q_H → Nat → Prop} {h : q_H} (hQ : ∀ (O : q_O) (h' : q_H), O = .inl (some (.int (vX5_told_5 o ml a1 V))) → q_ok (gX Γ V) h' → Q O h' n) (hok : q_ok (gX Γ V) h) : q_A Sc mX5_told 39 [.ref o, .int (nI a1), .int (nI 5), .retAddr 0, .retAddr 0] [] h n kc ks Q := by
  refine q_iload_n dX5_told_39 rfl ?_
  refine q_if_ne (tgt := 49) dX5_told_40 (by decide) (fun _ => ?_) (fun q => absurd q (by decide))
  refine q_iload_n dX5_told_49 rfl ?_
  refine q_iconst (v := nI 1) dX5_told_50 rfl ?_
  refine q_icmp_ne (tgt := 61) dX5_told_51 (by decide) (fun _ => ?_) (fun q => absurd q (by decide))
  refine q_iload_n dX5_told_61 rfl ?_
  refine q_iconst (v := nI 2) dX5_told_62 rfl ?_
  refine q_icmp_ne (tgt := 73) dX5_told_63 (by decide) (fun _ => ?_) (fun q => absurd q (by decide))
  refine q_iload_n dX5_told_73 rfl ?_
  refine q_iconst (v := nI 3) dX5_told_74 rfl ?_
  refine q_icmp_ne (tgt := 85) dX5_told_75 (by decide) (fun _ => ?_) (fun q => absurd q (by decide))
  refine q_iload_n dX5_told_85 rfl ?_
  refine q_iconst (v := nI 5) dX5_told_86 rfl ?_
  refine q_icmp_ne (tgt := 109) dX5_told_87 (by decide) (fun q => absurd q (by decide)) (fun _ => ?_)
  refine q_aload_n dX5_told_90 rfl ?_
  refine q_iload_n dX5_told_91 rfl ?_
  refine v_callV (M' := mX5_asks) [.int (nI a1)] [] kX5 dX5_told_92 wPX5_75v wIX5_asks wSX5_asks iX5_asks oX5_asks rfl hok H.1 (eX5_asks Sc Γ n V o ml H hm1 hml a1 (by omega)) (Nat.le_of_ble_eq_true rfl) (Nat.le_of_ble_eq_true rfl) (Nat.le_of_ble_eq_true rfl) rfl (fun h hok => ?_)
  refine q_if_eq (tgt := 107) dX5_told_95 (by decide) (fun c580 => ?_) (fun c580 => ?_)
  ·
    refine q_iconst (v := nI 0) dX5_told_107 rfl ?_
    exact q_iret dX5_told_108 rfl (rfl) (hQ _ _ (by dsimp only [vX5_told_5]; rw [if_pos c580]) (hok))
  ·
    refine q_aload_n dX5_told_98 rfl ?_
    refine v_getr 7 kX5 (by decide) wPX5_25 dX5_told_99 hok H.1 rfl ?_
    refine q_iload_n dX5_told_102 rfl ?_
    refine v_iald (by decide) dX5_told_103 hok H.2.2.2.2.2.2.1 (j := a1) (by omega) ?_
    refine q_goto (tgt := 108) dX5_told_104 (by decide) ?_
    exact q_iret dX5_told_108 rfl (rfl) (hQ _ _ (by dsimp only [vX5_told_5]; rw [if_neg c580]) (hok))
def vX5_asked (o ml : Nat) (a : Int32) (k : Nat) (V : q_V) : Int32 := match k with
  | 0 => vX5_asked_0 o ml a V
  | 1 => vX5_asked_1 o ml a V
  | 2 => vX5_asked_2 o ml a V
  | _ => vX5_asked_3 o ml a V
def vX5_told (o ml l : Nat) (k : Nat) (V : q_V) : Int32 := match k with
  | 0 => vX5_told_0 o ml l V
  | 1 => vX5_told_1 o ml l V
  | 2 => vX5_told_2 o ml l V
  | 3 => vX5_told_3 o ml l V
  | 4 => vX5_told_4 o ml l V
  | _ => vX5_told_5 o ml l V
