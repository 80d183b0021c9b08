/-! ===== ticks: the clocks; leaps against single ticks ===== -/
def CKl (V : q_V) (B : Nat) (W : q_V) (o l e c : Nat) : Prop := V B 0 = nI l ∧ W (o + 1) l = V B 3 ∧ W (o + 2) l = V B 4 ∧ W (o + 3) l = V B 5 ∧ W (o + 4) l = V B 6 ∧ (∃ r q d : Nat, 1 ≤ r ∧ r ≤ 7 ∧ 1 ≤ q ∧ q ≤ 200 ∧ 1 ≤ d ∧ d ≤ q ∧ V B 3 = nI r ∧ V B 4 = nI q ∧ V B 5 = nI d) ∧ (∃ a : Nat, a ≤ 500 ∧ V B 6 = nI a) ∧ c ≤ 2000 ∧ e < c ∧ V B 7 = nI c ∧ ((V B 6 = nI 500 ∧ W (o + 5) l = nI 0 ∧ W (o + 6) l = nI (c - e)) ∨ (V B 6 ≠ nI 500 ∧ W (o + 5) l = nI (c - e)))
theorem CKl.rl {V W : q_V} {B o l c : Nat} (h : CKl V B W o l 0 c) : RLk V B W o l := by
  obtain ⟨h0, h1, h2, h3, h4, h5, h6, c1, c2, c3, h7⟩ := h
  refine ⟨h0, h1, h2, h3, h4, h5, ⟨c, by omega, c1, c3⟩, h6, ?_⟩
  rw [Nat.sub_zero, ← c3] at h7
  exact h7
theorem RLk.ck {V W : q_V} {B o l : Nat} (h : RLk V B W o l) : CKl V B W o l 0 (nn (V B 7)) ∧ 1 ≤ nn (V B 7) ∧ nn (V B 7) ≤ 2000 := by
  obtain ⟨h0, h1, h2, h3, h4, h5, ⟨c, c1, c2, c3⟩, h6, h7⟩ := h
  have e : nn (V B 7) = c := by rw [c3, nn_nI (by omega)]
  rw [e]
  refine ⟨⟨h0, h1, h2, h3, h4, h5, h6, c2, by omega, c3, ?_⟩, c1, c2⟩
  rw [Nat.sub_zero, ← c3]
  exact h7
theorem CKl.cg {V V' W W' : q_V} {B o l e c : Nat} (h : CKl V B W o l e c) (h1 : V' B = V B) (h2 : ∀ r, 1 ≤ r → r ≤ 6 → W' (o + r) l = W (o + r) l) : CKl V' B W' o l e c := by
  unfold CKl at h ⊢
  rw [h1, h2 1 (by decide) (by decide), h2 2 (by decide) (by decide), h2 3 (by decide) (by decide), h2 4 (by decide) (by decide), h2 5 (by decide) (by decide), h2 6 (by decide) (by decide)]
  exact h
def RGe (V : q_V) (lg : Nat) (W : q_V) (o n : Nat) : Prop := V lg 4 = W o 15 ∧ W o 14 = V lg 5 + nI n ∧ 0 ≤ (W o 15).toInt ∧ ∀ r, r < 4 → ∀ j : Nat, (j : Int) < (W o 15).toInt → j < 40 → V (lg + 1 + r) j = W (o + 13 + r) j
theorem tl_no {V W : q_V} {B o ml l e c : Nat} (h : CKl V B W o l e c) (hc : e + 1 < c) : CKl V B (fX5_tickLink o ml l W) o l (e + 1) c ∧ vX5_tickLink o ml l W = nI 0 ∧ ∀ j q, ¬ ((j = o + 5 ∨ j = o + 6) ∧ q = l) → fX5_tickLink o ml l W j q = W j q := by
  obtain ⟨h0, h1, h2, h3, h4, h5, h6, c1, c2, c3, h7⟩ := h
  dsimp only [fX5_tickLink, vX5_tickLink]
  have n1 : ¬ nI (c - e - 1) ≤ 0 := fun q => by have := (nI_le0 (by omega)).mp q; omega
  rcases h7 with ⟨a1, a2, a3⟩ | ⟨a1, a2⟩
  · have ea : W (o + 5) l ≤ 0 := by rw [a2]; decide
    have ec : vset W (o + 6) l (W (o + 6) l - nI 1) (o + 6) l = nI (c - e - 1) := by rw [vs_at, a3, pk_sub (by omega)]
    rw [if_pos ea, if_neg (by rw [ec]; exact n1), if_pos ea, if_neg (by rw [ec]; exact n1)]
    refine ⟨⟨h0, ?_, ?_, ?_, ?_, h5, h6, c1, hc, c3, Or.inl ⟨a1, ?_, ?_⟩⟩, rfl, fun j q hj => by rw [vq, if_neg (by omega)]⟩
    · rw [vs_nr (by omega), h1]
    · rw [vs_nr (by omega), h2]
    · rw [vs_nr (by omega), h3]
    · rw [vs_nr (by omega), h4]
    · rw [vs_nr (by omega), a2]
    · rw [ec, show c - e - 1 = c - (e + 1) by omega]
  · have ea : ¬ W (o + 5) l ≤ 0 := by
      rw [a2]
      exact fun q => by have := (nI_le0 (by omega)).mp q; omega
    have ec : vset W (o + 5) l (W (o + 5) l - nI 1) (o + 5) l = nI (c - e - 1) := by rw [vs_at, a2, pk_sub (by omega)]
    have n2 : ¬ nI (c - e - 1) = 0 := tmr.ne ⟨c - e - 1, by omega, by omega, rfl⟩
    rw [if_neg ea, if_neg (by rw [ec]; exact n2), if_neg ea, if_neg (by rw [ec]; exact n2)]
    refine ⟨⟨h0, ?_, ?_, ?_, ?_, h5, h6, c1, hc, c3, Or.inr ⟨a1, ?_⟩⟩, rfl, fun j q hj => by rw [vq, if_neg (by omega)]⟩
    · rw [vs_nr (by omega), h1]
    · rw [vs_nr (by omega), h2]
    · rw [vs_nr (by omega), h3]
    · rw [vs_nr (by omega), h4]
    · rw [ec, show c - e - 1 = c - (e + 1) by omega]
section CLK
variable {V W : q_V} {X many o e b : Nat} {c : Nat → Nat}
theorem tk_pre {n : Int32} {V' : q_V} {lg : Nat} (h : RGe V lg W o e) (hV : ∀ r, r < 5 → V' (lg + r) = V (lg + r)) : RGe V' lg (tkRec o many (vset W o 14 (W o 14 + nI 1))) o (e + 1) := by
  obtain ⟨g1, g2, g3, g4⟩ := h
  have h0 := hV 0 (by decide)
  rw [Nat.add_zero] at h0
  have e15 : tkRec o many (vset W o 14 (W o 14 + nI 1)) o 15 = W o 15 := by rw [tkRec_f (by omega), vs_nk (by decide)]
  refine ⟨?_, ?_, ?_, fun r hr j hj hj2 => ?_⟩
  · rw [h0, e15, g1]
  · rw [h0, tkRec_f (by omega), vs_at, g2, Int32.add_assoc, nI_add]
  · rw [e15]; exact g3
  · rw [e15] at hj
    have ev := hV (1 + r) (by omega)
    rw [← Nat.add_assoc] at ev
    rw [ev, tkRec_f (by omega), vs_nr (by omega)]
    exact g4 r hr j hj hj2
theorem CKl.pre {B l : Nat} {cc : Nat} (h : CKl V B W o l e cc) : CKl V B (tkRec o many (vset W o 14 (W o 14 + nI 1))) o l e cc := h.cg rfl fun r h1 h2 => by rw [tkRec_f (by omega), vs_nr (by omega)]
theorem ck_tick {n : Int32} (hk : ∀ l, l < many → CKl V (X + 2 + 37 * l) W o l e (c l)) (hc : ∀ l, l < many → e + 1 < c l) (hg : RGe V (X + 2 + 37 * many) W o e) : (∀ l, l < many → CKl V (X + 2 + 37 * l) (tk1 o many (n, W)).2 o l (e + 1) (c l)) ∧ RGe V (X + 2 + 37 * many) (tk1 o many (n, W)).2 o (e + 1) ∧ (tk1 o many (n, W)).1 = n ∧ (tk1 o many (n, W)).2 o 15 = W o 15 := by
  have key : ∀ (d p : Nat) (s : Int32 × q_V), p + d = many → (∀ l, l < many → CKl V (X + 2 + 37 * l) s.2 o l (if l < p then e + 1 else e) (c l)) → RGe V (X + 2 + 37 * many) s.2 o (e + 1) → s.1 = n → s.2 o 15 = W o 15 → (∀ l, l < many → CKl V (X + 2 + 37 * l) (lp (tkLB o many) d p s).2 o l (e + 1) (c l)) ∧ RGe V (X + 2 + 37 * many) (lp (tkLB o many) d p s).2 o (e + 1) ∧ (lp (tkLB o many) d p s).1 = n ∧ (lp (tkLB o many) d p s).2 o 15 = W o 15 := by
    intro d
    induction d with
    | zero =>
      intro p s hp h1 h2 h3 h4
      refine ⟨fun l hl => ?_, h2, h3, h4⟩
      have := h1 l hl
      rw [if_pos (by omega)] at this
      exact this
    | succ d ih =>
      intro p s hp h1 h2 h3 h4
      have hkp := h1 p (by omega)
      rw [if_neg (by omega)] at hkp
      obtain ⟨t1, t2, t3⟩ := tl_no (ml := many) hkp (hc p (by omega))
      have eB : tkLB o many p s = (s.1, fX5_tickLink o many p s.2) := by
        unfold tkLB
        rw [t2]
        exact if_pos rfl
      show (∀ l, l < many → CKl V (X + 2 + 37 * l) (lp (tkLB o many) d (p + 1) (tkLB o many p s)).2 o l (e + 1) (c l)) ∧ RGe V (X + 2 + 37 * many) (lp (tkLB o many) d (p + 1) (tkLB o many p s)).2 o (e + 1) ∧ (lp (tkLB o many) d (p + 1) (tkLB o many p s)).1 = n ∧ (lp (tkLB o many) d (p + 1) (tkLB o many p s)).2 o 15 = W o 15
      rw [eB]
      refine ih (p + 1) (s.1, fX5_tickLink o many p s.2) (by omega) (fun l hl => ?_) ?_ h3 ((t3 _ _ (by omega)).trans h4)
      · by_cases hlp : l = p
        · subst hlp
          rw [if_pos (by omega)]
          exact t1
        · have h9 := h1 l hl
          have ee : (if l < p + 1 then e + 1 else e) = if l < p then e + 1 else e := by
            by_cases h8 : l < p
            · rw [if_pos h8, if_pos (by omega)]
            · rw [if_neg h8, if_neg (by omega)]
          rw [ee]
          exact h9.cg rfl fun r _ _ => t3 _ _ (by omega)
      · show RGe V (X + 2 + 37 * many) (fX5_tickLink o many p s.2) o (e + 1)
        obtain ⟨g1, g2, g3, g4⟩ := h2
        have e15 : fX5_tickLink o many p s.2 o 15 = s.2 o 15 := t3 _ _ (by omega)
        have e14 : fX5_tickLink o many p s.2 o 14 = s.2 o 14 := t3 _ _ (by omega)
        refine ⟨by rw [e15]; exact g1, by rw [e14]; exact g2, by rw [e15]; exact g3, fun r hr j hj hj2 => ?_⟩
        rw [e15] at hj
        show V (X + 2 + 37 * many + 1 + r) j = fX5_tickLink o many p s.2 (o + 13 + r) j
        rw [t3 _ _ (by omega)]
        exact g4 r hr j hj hj2
  exact key many 0 (n, tkRec o many (vset W o 14 (W o 14 + nI 1))) (by omega) (fun l hl => by rw [if_neg (by omega)]; exact (hk l hl).pre) (tk_pre (n := n) hg (fun _ _ => rfl)) rfl (by show tkRec o many (vset W o 14 (W o 14 + nI 1)) o 15 = W o 15; rw [tkRec_f (by omega), vs_nk (by decide)])
theorem rcl_f {U : q_V} {B lg : Nat} {x : Int32} {j : Nat} (h1 : j ≠ B) (h2 : j < lg ∨ lg + 5 ≤ j) : fX1_runClock B lg x U j = U j := by
  dsimp only [fX1_runClock]
  split
  · split
    · rw [vs_nr h1, vs_nr h1, vs_nr h1]
    · rw [vs_nr h1, vs_nr h1, add_f h2, vs_nr h1]
  · rw [vs_nr h1]
theorem ev_step {U : q_V} {s : Int32 × q_V} {l cl : Nat} {n0 s0 : Int32} (hl : l < many) (h : CKl U (X + 2 + 37 * l) s.2 o l e cl) (hc : e + 1 ≤ cl) (hg : RG U (X + 2 + 37 * many) s.2 o) (hS : SB s.2 o b) (hb : b + 1 ≤ 2000000000) (hn : s.1 + s0 = n0 + s.2 o 15) : RLk (fX1_runClock (X + 2 + 37 * l) (X + 2 + 37 * many) (nI (e + 1)) U) (X + 2 + 37 * l) (tkLB o many l s).2 o l ∧ RG (fX1_runClock (X + 2 + 37 * l) (X + 2 + 37 * many) (nI (e + 1)) U) (X + 2 + 37 * many) (tkLB o many l s).2 o ∧ SB (tkLB o many l s).2 o (b + 1) ∧ (tkLB o many l s).1 + s0 = n0 + (tkLB o many l s).2 o 15 := by
  have hBl : X + 2 + 37 * l < X + 2 + 37 * many := by omega
  obtain ⟨h0, h1, h2, h3, h4, h5, h6, c1, c2, c3, h7⟩ := id h
  obtain ⟨r, q, d, r1, r2, q1, q2, d1, d2, e1, e2, e3⟩ := id h5
  have e94 : vset U (X + 2 + 37 * l) 7 (U (X + 2 + 37 * l) 7 - nI (e + 1)) (X + 2 + 37 * l) 7 = nI (cl - (e + 1)) := by rw [vs_at, c3, pk_sub hc]
  have e946 : vset U (X + 2 + 37 * l) 7 (U (X + 2 + 37 * l) 7 - nI (e + 1)) (X + 2 + 37 * l) 6 = U (X + 2 + 37 * l) 6 := vs_nk (by decide)
  have hask : vX1_asks (X + 2 + 37 * l) (vset U (X + 2 + 37 * l) 7 (U (X + 2 + 37 * l) 7 - nI (e + 1))) = if U (X + 2 + 37 * l) 6 = nI 500 then nI 1 else nI 0 := by
    dsimp only [vX1_asks]
    rw [e946]
  by_cases hev : cl = e + 1
  · have hz : vset U (X + 2 + 37 * l) 7 (U (X + 2 + 37 * l) 7 - nI (e + 1)) (X + 2 + 37 * l) 7 ≤ 0 := by
      rw [e94, show cl - (e + 1) = 0 by omega]
      decide
    rcases h7 with ⟨a1, a2, a3⟩ | ⟨a1, a2⟩
    · -- it asks: a query is sent
      have ea : s.2 (o + 5) l ≤ 0 := by rw [a2]; decide
      have ec : vset s.2 (o + 6) l (s.2 (o + 6) l - nI 1) (o + 6) l ≤ 0 := by
        rw [vs_at, a3, show cl - e = 1 by omega, pk_sub (Nat.le_refl 1)]
        decide
      have eV : vX5_tickLink o many l s.2 = nI 1 := by
        dsimp only [vX5_tickLink]
        rw [if_pos ea, if_pos ec]
      have eF : fX5_tickLink o many l s.2 = fX5_send o many (nI l) (-1) (nI 0) (vset (vset s.2 (o + 6) l (s.2 (o + 6) l - nI 1)) (o + 6) l (s.2 (o + 2) l)) := by
        dsimp only [fX5_tickLink]
        rw [if_pos ea, if_pos ec, vs_nr (by omega)]
      have eB : tkLB o many l s = (s.1 + nI 1, fX5_tickLink o many l s.2) := by
        unfold tkLB
        rw [eV]
        exact if_neg (by decide)
      have eU : fX1_runClock (X + 2 + 37 * l) (X + 2 + 37 * many) (nI (e + 1)) U = vset (vset (fX3_add (X + 2 + 37 * many) (nI l) (-1) (nI 0) (vset U (X + 2 + 37 * l) 7 (U (X + 2 + 37 * l) 7 - nI (e + 1)))) (X + 2 + 37 * l) 6 (nI 500)) (X + 2 + 37 * l) 7 (U (X + 2 + 37 * l) 4) := by
        dsimp only [fX1_runClock]
        rw [if_pos hz, if_neg (by rw [hask, if_pos a1]; decide), vs_nk (by decide), vs_nk (by decide), add_f (by omega), vs_nk (by decide), h0]
      rw [eB, eU, eF]
      dsimp only
      generalize hW2 : vset (vset s.2 (o + 6) l (s.2 (o + 6) l - nI 1)) (o + 6) l (s.2 (o + 2) l) = W2
      generalize hU2 : vset U (X + 2 + 37 * l) 7 (U (X + 2 + 37 * l) 7 - nI (e + 1)) = U2
      have w15 : W2 o 15 = s.2 o 15 := by rw [← hW2, vs_nr (by omega), vs_nr (by omega)]
      have wf : ∀ j q, j ≠ o + 6 → W2 j q = s.2 j q := fun j q hj => by rw [← hW2, vs_nr hj, vs_nr hj]
      have uf : ∀ j, j ≠ X + 2 + 37 * l → U2 j = U j := fun j hj => by rw [← hU2, vs_nr hj]
      have hg2 : RG U2 (X + 2 + 37 * many) W2 o := hg.cg (fun r hr => uf _ (by omega)) (wf _ _ (by omega)) w15 (fun r hr j => wf _ _ (by omega))
      have hle : (W2 o 15).toInt ≤ 2000000000 := by
        rw [w15]
        exact Int.le_trans hS.2 (by omega)
      have hg3 := hg2.add (ml := many) (x := nI l) (y := -1) (z := nI 0) hle
      have sf : ∀ j q, j < o + 13 → j ≠ o → fX5_send o many (nI l) (-1) (nI 0) W2 j q = W2 j q := fun j q hj hj2 => send_f hj (Or.inl hj2)
      have kf : ∀ q, q ≠ 6 → q ≠ 7 → vset (vset (fX3_add (X + 2 + 37 * many) (nI l) (-1) (nI 0) U2) (X + 2 + 37 * l) 6 (nI 500)) (X + 2 + 37 * l) 7 (U (X + 2 + 37 * l) 4) (X + 2 + 37 * l) q = U (X + 2 + 37 * l) q := fun q hq6 hq7 => by
        rw [vs_nk hq7, vs_nk hq6, add_f (by omega), ← hU2, vs_nk hq7]
      have k6 : vset (vset (fX3_add (X + 2 + 37 * many) (nI l) (-1) (nI 0) U2) (X + 2 + 37 * l) 6 (nI 500)) (X + 2 + 37 * l) 7 (U (X + 2 + 37 * l) 4) (X + 2 + 37 * l) 6 = nI 500 := by rw [vs_nk (by decide), vs_at]
      have k7 : vset (vset (fX3_add (X + 2 + 37 * many) (nI l) (-1) (nI 0) U2) (X + 2 + 37 * l) 6 (nI 500)) (X + 2 + 37 * l) 7 (U (X + 2 + 37 * l) 4) (X + 2 + 37 * l) 7 = U (X + 2 + 37 * l) 4 := vs_at
      refine ⟨?_, hg3.cg (fun r hr => by rw [vs_nr (by omega), vs_nr (by omega)]) rfl rfl (fun _ _ _ => rfl), ?_, ?_⟩
      · unfold RLk
        rw [kf 0 (by decide) (by decide), kf 3 (by decide) (by decide), kf 4 (by decide) (by decide), kf 5 (by decide) (by decide), k6, k7]
        refine ⟨h0, ?_, ?_, ?_, ?_, h5, ⟨q, q1, by omega, e2⟩, ⟨500, by omega, rfl⟩, Or.inl ⟨rfl, ?_, ?_⟩⟩
        · rw [sf _ _ (by omega) (by omega), wf _ _ (by omega), h1]
        · rw [sf _ _ (by omega) (by omega), wf _ _ (by omega), h2]
        · rw [sf _ _ (by omega) (by omega), wf _ _ (by omega), h3]
        · rw [sf _ _ (by omega) (by omega), wf _ _ (by omega), h4, a1]
        · rw [sf _ _ (by omega) (by omega), wf _ _ (by omega), a2]
        · rw [sf _ _ (by omega) (by omega), ← hW2, vs_at, h2]
      · exact SX5_send o many (nI l) (-1) (nI 0) (SB.cg hS w15) hb
      · show s.1 + nI 1 + s0 = n0 + fX5_send o many (nI l) (-1) (nI 0) W2 o 15
        rw [send_eq, if_pos ⟨rfl, rfl⟩, w15, Int32.add_assoc, Int32.add_comm (nI 1) s0, ← Int32.add_assoc, hn, Int32.add_assoc]
    · -- it begins to ask again
      have ea : ¬ s.2 (o + 5) l ≤ 0 := by
        rw [a2]
        exact fun q => by have := (nI_le0 (by omega)).mp q; omega
      have ec : vset s.2 (o + 5) l (s.2 (o + 5) l - nI 1) (o + 5) l = 0 := by
        rw [vs_at, a2, show cl - e = 1 by omega, pk_sub (Nat.le_refl 1)]
        rfl
      have eV : vX5_tickLink o many l s.2 = nI 0 := by
        dsimp only [vX5_tickLink]
        rw [if_neg ea, if_pos ec]
      have eF : fX5_tickLink o many l s.2 = vset (vset (vset s.2 (o + 5) l (s.2 (o + 5) l - nI 1)) (o + 4) l (nI 500)) (o + 6) l (s.2 (o + 2) l) := by
        dsimp only [fX5_tickLink]
        rw [if_neg ea, if_pos ec, vs_nr (show o + 2 ≠ o + 4 by omega), vs_nr (show o + 2 ≠ o + 5 by omega)]
      have eB : tkLB o many l s = (s.1, fX5_tickLink o many l s.2) := by
        unfold tkLB
        rw [eV]
        exact if_pos rfl
      have eU : fX1_runClock (X + 2 + 37 * l) (X + 2 + 37 * many) (nI (e + 1)) U = vset (vset (vset U (X + 2 + 37 * l) 7 (U (X + 2 + 37 * l) 7 - nI (e + 1))) (X + 2 + 37 * l) 6 (nI 500)) (X + 2 + 37 * l) 7 (U (X + 2 + 37 * l) 4) := by
        dsimp only [fX1_runClock]
        rw [if_pos hz, if_pos (by rw [hask, if_neg a1]; rfl), vs_nk (show 4 ≠ 6 by decide), vs_nk (show 4 ≠ 7 by decide)]
      rw [eB, eU, eF]
      dsimp only
      have w15 : vset (vset (vset s.2 (o + 5) l (s.2 (o + 5) l - nI 1)) (o + 4) l (nI 500)) (o + 6) l (s.2 (o + 2) l) o 15 = s.2 o 15 := by rw [vs_nr (by omega), vs_nr (by omega), vs_nr (by omega)]
      refine ⟨?_, hg.cg (fun r hr => by rw [vs_nr (by omega), vs_nr (by omega), vs_nr (by omega)]) (by show _ = _; rw [vs_nr (by omega), vs_nr (by omega), vs_nr (by omega)]) w15 (fun r hr j => by show _ = _; rw [vs_nr (by omega), vs_nr (by omega), vs_nr (by omega)]), (SB.cg hS w15).mo (by omega), ?_⟩
      · unfold RLk
        have kf : ∀ q, q ≠ 6 → q ≠ 7 → vset (vset (vset U (X + 2 + 37 * l) 7 (U (X + 2 + 37 * l) 7 - nI (e + 1))) (X + 2 + 37 * l) 6 (nI 500)) (X + 2 + 37 * l) 7 (U (X + 2 + 37 * l) 4) (X + 2 + 37 * l) q = U (X + 2 + 37 * l) q := fun q hq6 hq7 => by rw [vs_nk hq7, vs_nk hq6, vs_nk hq7]
        have k6 : vset (vset (vset U (X + 2 + 37 * l) 7 (U (X + 2 + 37 * l) 7 - nI (e + 1))) (X + 2 + 37 * l) 6 (nI 500)) (X + 2 + 37 * l) 7 (U (X + 2 + 37 * l) 4) (X + 2 + 37 * l) 6 = nI 500 := by rw [vs_nk (by decide), vs_at]
        have k7 : vset (vset (vset U (X + 2 + 37 * l) 7 (U (X + 2 + 37 * l) 7 - nI (e + 1))) (X + 2 + 37 * l) 6 (nI 500)) (X + 2 + 37 * l) 7 (U (X + 2 + 37 * l) 4) (X + 2 + 37 * l) 7 = U (X + 2 + 37 * l) 4 := vs_at
        rw [kf 0 (by decide) (by decide), kf 3 (by decide) (by decide), kf 4 (by decide) (by decide), kf 5 (by decide) (by decide), k6, k7]
        refine ⟨h0, ?_, ?_, ?_, ?_, h5, ⟨q, q1, by omega, e2⟩, ⟨500, by omega, rfl⟩, Or.inl ⟨rfl, ?_, ?_⟩⟩
        · show vset _ _ _ _ _ _ = _
          rw [vs_nr (by omega), vs_nr (by omega), vs_nr (by omega), h1]
        · show vset _ _ _ _ _ _ = _
          rw [vs_nr (by omega), vs_nr (by omega), vs_nr (by omega), h2]
        · show vset _ _ _ _ _ _ = _
          rw [vs_nr (by omega), vs_nr (by omega), vs_nr (by omega), h3]
        · show vset _ _ _ _ _ _ = _
          rw [vs_nr (by omega), vs_at]
        · show vset _ _ _ _ _ _ = _
          rw [vs_nr (by omega), vs_nr (by omega), ec]
          rfl
        · show vset _ _ _ _ _ _ = _
          rw [vs_at, h2]
      · show s.1 + s0 = n0 + vset _ _ _ _ _ _
        rw [w15, hn]
  · have hz : ¬ vset U (X + 2 + 37 * l) 7 (U (X + 2 + 37 * l) 7 - nI (e + 1)) (X + 2 + 37 * l) 7 ≤ 0 := by
      rw [e94]
      exact fun q => by have := (nI_le0 (by omega)).mp q; omega
    obtain ⟨t1, t2, t3⟩ := tl_no (ml := many) h (show e + 1 < cl by omega)
    have eB : tkLB o many l s = (s.1, fX5_tickLink o many l s.2) := by
      unfold tkLB
      rw [t2]
      exact if_pos rfl
    have eU : fX1_runClock (X + 2 + 37 * l) (X + 2 + 37 * many) (nI (e + 1)) U = vset U (X + 2 + 37 * l) 7 (U (X + 2 + 37 * l) 7 - nI (e + 1)) := by
      dsimp only [fX1_runClock]
      rw [if_neg hz]
    rw [eB, eU]
    dsimp only
    have w15 : fX5_tickLink o many l s.2 o 15 = s.2 o 15 := t3 _ _ (by omega)
    refine ⟨?_, hg.cg (fun r hr => by rw [vs_nr (by omega)]) (t3 _ _ (by omega)) w15 (fun r hr j => t3 _ _ (by omega)), (SB.cg hS w15).mo (by omega), ?_⟩
    · obtain ⟨u0, u1, u2, u3, u4, u5, u6, v1, v2, v3, u7⟩ := t1
      unfold RLk
      have kf : ∀ q, q ≠ 7 → vset U (X + 2 + 37 * l) 7 (U (X + 2 + 37 * l) 7 - nI (e + 1)) (X + 2 + 37 * l) q = U (X + 2 + 37 * l) q := fun q hq => vs_nk hq
      rw [kf 0 (by decide), kf 3 (by decide), kf 4 (by decide), kf 5 (by decide), kf 6 (by decide), e94]
      exact ⟨u0, u1, u2, u3, u4, u5, ⟨cl - (e + 1), by omega, by omega, rfl⟩, u6, u7⟩
    · show s.1 + s0 = n0 + fX5_tickLink o many l s.2 o 15
      rw [w15, hn]
end CLK

