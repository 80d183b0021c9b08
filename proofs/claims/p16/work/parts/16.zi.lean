/-! ===== the answers ===== -/
section ANS
variable {V W : q_V} {X many o l g ml b m : Nat}
theorem repv {a : Int32} {k : Nat} (hk : k < 6) : vX5_report o ml l g a k W = fX5_report o ml l g a k W o 15 - W o 15 := by
  rcases (show k = 0 ∨ k = 1 ∨ k = 2 ∨ k = 3 ∨ k = 4 ∨ k = 5 by omega) with rfl | rfl | rfl | rfl | rfl | rfl
  · show vX5_reported_0 o ml l g a W = fX5_reported_0 o ml l g a W o 15 - W o 15
    dsimp only [vX5_reported_0, fX5_reported_0]
    split <;> rfl
  · show vX5_reported_1 o ml l g a W = fX5_reported_1 o ml l g a W o 15 - W o 15
    dsimp only [vX5_reported_1, fX5_reported_1]
    split <;> rfl
  · show vX5_reported_2 o ml l g a W = fX5_reported_2 o ml l g a W o 15 - W o 15
    dsimp only [vX5_reported_2, fX5_reported_2]
    split <;> rfl
  · show vX5_reported_3 o ml l g a W = fX5_reported_3 o ml l g a W o 15 - W o 15
    dsimp only [vX5_reported_3, fX5_reported_3]
    split <;> rfl
  · show vX5_reported_4 o ml l g a W = fX5_reported_4 o ml l g a W o 15 - W o 15
    dsimp only [vX5_reported_4, fX5_reported_4]
    split <;> rfl
  · show vX5_reported_5 o ml l g a W = fX5_reported_5 o ml l g a W o 15 - W o 15
    dsimp only [vX5_reported_5, fX5_reported_5]
    split <;> rfl
theorem crepv {a : Int32} {k : Nat} (hk : k < 6) : vX4_report X many l g a k V = fX4_report X many l g a k V (X + 2 + 37 * many) 4 - V (X + 2 + 37 * many) 4 := by
  rcases (show k = 0 ∨ k = 1 ∨ k = 2 ∨ k = 3 ∨ k = 4 ∨ k = 5 by omega) with rfl | rfl | rfl | rfl | rfl | rfl <;> rfl
theorem Rel.vrep {a : Int32} {k : Nat} (hk : k < 6) (h : Rel V W X many o) (h' : Rel (fX4_report X many l g a k V) (fX5_report o ml l g a k W) X many o) : vX4_report X many l g a k V = vX5_report o ml l g a k W := by
  rw [crepv hk, repv hk, h.2.2.2.1, h'.2.2.2.1]
theorem memv {a4 a5 : Int32} : vX5_member o ml l m g a4 a5 W = fX5_member o ml l m g a4 a5 W o 15 - W o 15 := by
  have e : vset (vset W (o + 11) (48 * l + 8 * m + g) a4) (o + 12) (48 * l + 8 * m + g) a5 o 15 = W o 15 := by rw [vs_nr (by omega), vs_nr (by omega)]
  dsimp only [vX5_member, fX5_member]
  rw [e]
  split
  · split
    · split
      · split
        · rw [e]
        · rfl
      · split <;> rfl
    · split
      · split
        · rw [e]
        · rfl
      · split <;> rfl
  · split <;> rfl
theorem Rel.vmem {a4 a5 : Int32} (h : Rel V W X many o) (h' : Rel (fX4_member X many l m g a4 a5 V) (fX5_member o ml l m g a4 a5 W) X many o) : vX4_member X many l m g a4 a5 V = vX5_member o ml l m g a4 a5 W := by
  rw [memv, show vX4_member X many l m g a4 a5 V = fX4_member X many l m g a4 a5 V (X + 2 + 37 * many) 4 - V (X + 2 + 37 * many) 4 from rfl, h.2.2.2.1, h'.2.2.2.1]
theorem lp_id {σ : Type} {B : Nat → σ → σ} : ∀ (d k : Nat) (s : σ), (∀ k2 s, k ≤ k2 → B k2 s = s) → lp B d k s = s
  | 0, _, _, _ => rfl
  | d + 1, k, s, h => by
    show lp B d (k + 1) (B k s) = s
    rw [h k s (by omega)]
    exact lp_id d (k + 1) s (fun k2 s h2 => h k2 s (by omega))
theorem lp_16 {G : Nat → Int32 → Int32} {N : Nat} (hN : N ≤ 16) (x : Int32) : lp G N 0 x = lp (fun k g => if k < N then G k g else g) 16 0 x := by
  rw [show 16 = N + (16 - N) by omega, lp_add]
  rw [lp_id (16 - N) (0 + N) _ (fun k2 s h2 => if_neg (by omega))]
  exact lp_cg N 0 x fun k s h1 h2 => (if_pos (by omega)).symm
theorem lets_iff {i s : Nat} (hs : s < 16) : vX0_lets i (nI s) V = 0 ↔ ¬ ((V i 1 = 0 ∧ bt (V i 2) s) ∨ (¬ V i 1 = 0 ∧ ¬ bt (V i 3) s)) := by
  dsimp only [vX0_lets]
  by_cases h0 : V i 1 = 0
  · rw [if_pos h0, hd_iff]
    exact ⟨fun q e => e.elim (fun c => q c.2) (fun c => c.1 h0), fun q e => q (Or.inl ⟨h0, e⟩)⟩
  · rw [if_neg h0]
    by_cases h3 : bt (V i 3) s
    · rw [if_neg (fun e => hd_iff.mp e h3)]
      exact ⟨fun _ e => e.elim (fun c => h0 c.1) (fun c => c.2 h3), fun _ => rfl⟩
    · rw [if_pos (hd_iff.mpr h3)]
      exact ⟨fun q => absurd q (by decide), fun q => absurd (Or.inr ⟨h0, h3⟩) q⟩
def passP (W : q_V) (o g s k : Nat) : Prop := (W (o + 7) (8 * k + g) = 0 ∧ W (o + 9) (16 * (8 * k + g) + s) = nI 1) ∨ (W (o + 7) (8 * k + g) = nI 1 ∧ ¬ W (o + 9) (16 * (8 * k + g) + s) = nI 2)
theorem RF.pass {i k s : Nat} (hs : s < 16) (h : RF V i W o (8 * k + g)) : passP W o g s k ↔ ((V i 1 = 0 ∧ bt (V i 2) s) ∨ (¬ V i 1 = 0 ∧ ¬ bt (V i 3) s)) := by
  unfold passP
  rw [h.m, h.p s hs]
  dsimp only [vX0_state]
  unfold pl
  by_cases h0 : V i 1 = 0
  · rw [if_pos h0]
    by_cases h2 : V i 2 = 0
    · rw [if_pos h2]
      have hn : ¬ bt (V i 2) s := h.w.r.eq0.mp h2 s hs
      exact ⟨fun q => q.elim (fun c => absurd c.1 (by decide)) (fun c => absurd c.1 (by decide)), fun q => q.elim (fun c => absurd c.2 hn) (fun c => absurd h0 c.1)⟩
    · rw [if_neg h2]
      by_cases hb : bt (V i 2) s
      · rw [if_pos hb]
        exact ⟨fun _ => Or.inl ⟨h0, hb⟩, fun _ => Or.inl ⟨rfl, rfl⟩⟩
      · rw [if_neg hb]
        refine ⟨fun q => q.elim (fun c => ?_) (fun c => absurd c.1 (by decide)), fun q => q.elim (fun c => absurd c.2 hb) (fun c => absurd h0 c.1)⟩
        have c2 := c.2
        split at c2
        · exact absurd c2 (by decide)
        · exact absurd c2 (by decide)
  · rw [if_neg h0]
    by_cases hb : bt (V i 2) s
    · rw [if_pos hb]
      exact ⟨fun _ => Or.inr ⟨h0, h.w.d s hs hb⟩, fun _ => Or.inr ⟨rfl, by decide⟩⟩
    · rw [if_neg hb]
      by_cases hy : bt (V i 3) s
      · rw [if_pos hy]
        exact ⟨fun q => q.elim (fun c => absurd c.1 (by decide)) (fun c => absurd rfl c.2), fun q => q.elim (fun c => absurd c.1 h0) (fun c => absurd hy c.2)⟩
      · rw [if_neg hy]
        exact ⟨fun _ => Or.inr ⟨h0, hy⟩, fun _ => Or.inr ⟨rfl, by decide⟩⟩
theorem Rel.passed {s : Nat} (h : Rel V W X many o) (hm4 : many ≤ 4) (hl : l < many) (hg : g < 8) (hs : s < 16) : vX4_passed X many l g s V = vX5_passed o many l g s W := by
  dsimp only [vX4_passed, vX5_passed]
  have e1 := lp_16 (N := many) (G := fun (k392 : Nat) (s392 : Int32) => if nI k392 = nI l then s392 else (if vX0_lets (X + 2 + 37 * k392 + 3 + 2 * g) (nI s) V = 0 then s392 else s392 ||| (nI 1 <<< (nI k392 &&& 31)))) (by omega) (nI 0)
  have e2 := lp_16 (N := many) (G := fun (k560 : Nat) (s560 : Int32) => if (W (o + 7) ((8 * k560) + g)) = 0 then (if (W (o + 9) ((16 * ((8 * k560) + g)) + s)) = (nI 1) then (if (nI k560) = (nI l) then (s560) else ((s560) + ((nI 1) <<< ((nI k560) &&& 31)))) else (if (W (o + 7) ((8 * k560) + g)) = (nI 1) then (if (W (o + 9) ((16 * ((8 * k560) + g)) + s)) = (nI 2) then (if (nI k560) = (nI l) then (s560) else (s560)) else (if (nI k560) = (nI l) then (s560) else ((s560) + ((nI 1) <<< ((nI k560) &&& 31))))) else (if (nI k560) = (nI l) then (s560) else (s560)))) else (if (W (o + 7) ((8 * k560) + g)) = (nI 1) then (if (W (o + 9) ((16 * ((8 * k560) + g)) + s)) = (nI 2) then (if (nI k560) = (nI l) then (s560) else (s560)) else (if (nI k560) = (nI l) then (s560) else ((s560) + ((nI 1) <<< ((nI k560) &&& 31))))) else (if (nI k560) = (nI l) then (s560) else (s560)))) (by omega) (nI 0)
  refine e1.trans (Eq.trans ?_ e2.symm)
  have hne : ∀ k, k < many → (nI k = nI l ↔ k = l) := fun k hk => ⟨fun q => nI_inj (by omega) (by omega) q, fun q => by rw [q]⟩
  obtain ⟨s1, b1⟩ := or_set (P := fun k => k < many ∧ k ≠ l ∧ passP W o g s k) (G := fun k g_1 => if k < many then (if nI k = nI l then g_1 else (if vX0_lets (X + 2 + 37 * k + 3 + 2 * g) (nI s) V = 0 then g_1 else g_1 ||| (nI 1 <<< (nI k &&& 31)))) else g_1) (fun k x hk q => by
    obtain ⟨q1, q2, q3⟩ := q
    rw [if_pos q1, if_neg (fun e => q2 ((hne k q1).mp e)), if_neg]
    rw [lets_iff hs]
    exact fun e => e (((h.1 k q1 g hg).pass hs).mp q3)) (fun k x hk q => by
    split
    · rename_i c
      split
      · rfl
      · rename_i c2
        rw [if_pos]
        rw [lets_iff hs]
        exact fun e => q ⟨c, fun e2 => c2 ((hne k c).mpr e2), ((h.1 k c g hg).pass hs).mpr e⟩
    · rfl) 16 0 (nI 0) rfl S16.zero
  obtain ⟨s2, b2⟩ := sum_set (P := fun k => k < many ∧ k ≠ l ∧ passP W o g s k) (G := fun k x => if k < many then (if (W (o + 7) ((8 * k) + g)) = 0 then (if (W (o + 9) ((16 * ((8 * k) + g)) + s)) = (nI 1) then (if (nI k) = (nI l) then (x) else ((x) + ((nI 1) <<< ((nI k) &&& 31)))) else (if (W (o + 7) ((8 * k) + g)) = (nI 1) then (if (W (o + 9) ((16 * ((8 * k) + g)) + s)) = (nI 2) then (if (nI k) = (nI l) then (x) else (x)) else (if (nI k) = (nI l) then (x) else ((x) + ((nI 1) <<< ((nI k) &&& 31))))) else (if (nI k) = (nI l) then (x) else (x)))) else (if (W (o + 7) ((8 * k) + g)) = (nI 1) then (if (W (o + 9) ((16 * ((8 * k) + g)) + s)) = (nI 2) then (if (nI k) = (nI l) then (x) else (x)) else (if (nI k) = (nI l) then (x) else ((x) + ((nI 1) <<< ((nI k) &&& 31))))) else (if (nI k) = (nI l) then (x) else (x)))) else x) (fun k x hk q => by
    obtain ⟨q1, q2, q3⟩ := q
    have n1 : ¬ nI k = nI l := fun e => q2 ((hne k q1).mp e)
    rw [if_pos q1]
    rcases q3 with ⟨c1, c2⟩ | ⟨c1, c2⟩
    · rw [if_pos c1, if_pos c2, if_neg n1]
    · rw [if_neg (by rw [c1]; decide), if_pos c1, if_neg c2, if_neg n1]) (fun k x hk q => by
    split
    · rename_i c
      by_cases n1 : nI k = nI l
      · simp only [if_pos n1, ite_self]
      · have hp : ¬ passP W o g s k := fun e => q ⟨c, fun e2 => n1 ((hne k c).mpr e2), e⟩
        unfold passP at hp
        simp only [if_neg n1]
        split
        · rename_i c1
          rw [if_neg (fun e => hp (Or.inl ⟨c1, e⟩)), if_neg (by rw [c1]; decide)]
        · split
          · rename_i c1 c2
            split
            · rfl
            · rename_i c3
              exact absurd (Or.inr ⟨c2, c3⟩) hp
          · rfl
    · rfl)
  refine S16.ext s1 s2 fun k hk => ?_
  rw [b1 k hk, b2 k hk]
  exact ⟨fun q => q.elim (fun e => absurd e (bt_0 hk)) And.right, fun q => Or.inr ⟨by omega, q⟩⟩
theorem Rel.told {k : Nat} (hk : k < 6) (h : Rel V W X many o) (hl : l < many) : vX4_told X many l k V = vX5_told o ml l k W := by
  have hkl := h.2.1 l hl
  obtain ⟨c0, c1, c2, c3, c4, -, -, -, c9⟩ := id hkl
  rcases (show k = 0 ∨ k = 1 ∨ k = 2 ∨ k = 3 ∨ k = 4 ∨ k = 5 by omega) with rfl | rfl | rfl | rfl | rfl | rfl
  · exact ((hkl.grace (ml := ml)).2).symm
  · exact c1.symm
  · exact c4.symm
  · show (if vX1_asks (X + 2 + 37 * l) V = 0 then V (X + 2 + 37 * l) 7 else nI 0) = W (o + 5) l
    rcases c9 with ⟨a1, a2, -⟩ | ⟨a1, a2⟩
    · rw [if_neg (show ¬ vX1_asks (X + 2 + 37 * l) V = 0 by dsimp only [vX1_asks]; rw [if_pos a1]; decide), a2]
    · rw [if_pos (show vX1_asks (X + 2 + 37 * l) V = 0 by dsimp only [vX1_asks]; rw [if_neg a1]; rfl), a2]
  · show vX1_records (X + 2 + 37 * l) V = vX5_told_4 o ml l W
    dsimp only [vX1_records, vX5_told_4]
    refine lp_cg 8 0 _ fun g s _ hg => ?_
    try dsimp only
    rw [(h.1 l hl g (by omega)).m]
    rfl
  · show (if vX1_asks (X + 2 + 37 * l) V = 0 then nI 0 else V (X + 2 + 37 * l) 7) = if vX5_asks o ml l W = 0 then nI 0 else W (o + 6) l
    by_cases hq : vX1_asks (X + 2 + 37 * l) V = 0
    · rw [if_pos hq, if_pos (hkl.asks.mp hq)]
    · rw [if_neg hq, if_neg (fun e => hq (hkl.asks.mpr e))]
      dsimp only [vX1_asks] at hq
      rcases c9 with ⟨-, -, a3⟩ | ⟨a1, -⟩
      · exact a3.symm
      · rw [if_neg a1] at hq
        exact absurd rfl hq
theorem ask_iff {a : Int32} (h : Rel V W X many o) : inZ a 0 (vJ9_min_7cf53 (V (X + 2 + 37 * many) 4) (nI 40) V).toInt ↔ ¬ (a < 0) ∧ ¬ (nI 39 < a) ∧ a < W o 15 := by
  have e := h.2.2.2.1
  have h0 := h.2.2.2.2.2.1
  rw [e]
  rw [Int32.lt_iff_toInt_lt, Int32.lt_iff_toInt_lt, Int32.lt_iff_toInt_lt, Int32.toInt_zero, nI_toInt (by decide)]
  dsimp only [vJ9_min_7cf53]
  unfold inZ
  by_cases c : nI 40 < W o 15
  · rw [if_pos c, nI_toInt (by decide)]
    rw [Int32.lt_iff_toInt_lt, nI_toInt (by decide)] at c
    omega
  · rw [if_neg c]
    rw [Int32.lt_iff_toInt_lt, nI_toInt (by decide)] at c
    omega
theorem Rel.asked {a : Int32} {k : Nat} (hk : k < 4) (h : Rel V W X many o) (h0 : ¬ (a < 0)) (h1 : ¬ (nI 39 < a)) (h2 : a < W o 15) : vX4_asked X many a k V = vX5_asked o ml a k W := by
  obtain ⟨e1, e2, e3, e4⟩ := h.2.2.2
  rw [Int32.lt_iff_toInt_lt, Int32.toInt_zero] at h0
  rw [Int32.lt_iff_toInt_lt] at h2
  have h3 := Int32.toInt_lt (W o 15)
  have ei : (W o 15 - nI 1 - a).toInt = (W o 15).toInt - 1 - a.toInt := by
    rw [Int32.toInt_sub, Int32.toInt_sub, nI_toInt (by decide), Int.bmod_eq_of_le (n := (W o 15).toInt - (1 : Nat)) (by omega) (by omega), Int.bmod_eq_of_le (by omega) (by omega)]
    omega
  have hj : ((fm40 (W o 15 - nI 1 - a) : Nat) : Int) < (W o 15).toInt := by
    unfold fm40
    rw [ei]
    omega
  have hj2 := fm40_lt (W o 15 - nI 1 - a)
  rcases (show k = 0 ∨ k = 1 ∨ k = 2 ∨ k = 3 by omega) with rfl | rfl | rfl | rfl
  · show V (X + 2 + 37 * many + 1) (fm40 (V (X + 2 + 37 * many) 4 - nI 1 - a)) = W (o + 13) (fm40 (W o 15 - nI 1 - a))
    rw [e1]
    exact e4 0 (by decide) _ hj hj2
  · show V (X + 2 + 37 * many + 2) (fm40 (V (X + 2 + 37 * many) 4 - nI 1 - a)) = W (o + 14) (fm40 (W o 15 - nI 1 - a))
    rw [e1]
    exact e4 1 (by decide) _ hj hj2
  · show V (X + 2 + 37 * many + 3) (fm40 (V (X + 2 + 37 * many) 4 - nI 1 - a)) = W (o + 15) (fm40 (W o 15 - nI 1 - a))
    rw [e1]
    exact e4 2 (by decide) _ hj hj2
  · show V (X + 2 + 37 * many + 4) (fm40 (V (X + 2 + 37 * many) 4 - nI 1 - a)) = W (o + 16) (fm40 (W o 15 - nI 1 - a))
    rw [e1]
    exact e4 3 (by decide) _ hj hj2
end ANS

