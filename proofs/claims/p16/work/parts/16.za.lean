/-! ===== settings, query, member, answer ===== -/
theorem inZ.to {a : Int32} {lo hi : Int} (h : inZ a lo hi) (h0 : 0 ≤ lo) : ∃ j : Nat, a = nI j ∧ lo ≤ j ∧ (j : Int) < hi ∧ a.toInt = j := by
  have h1 := h.1
  have h2 := h.2
  have h3 := Int32.toInt_lt a
  have e : a.toInt = (a.toInt.toNat : Nat) := by omega
  exact ⟨a.toInt.toNat, int_eq (by omega) e, by omega, by omega, e⟩
section REQ
variable {V V' W W' : q_V} {X many o l g ml b m : Nat}
theorem Rel.lnk (h : Rel V W X many o) (hl : l < many) (hV : ∀ j, j ≠ X + 2 + 37 * l → V' j = V j) (hW : ∀ j q, ¬ (o + 1 ≤ j ∧ j ≤ o + 6 ∧ q = l) → W' j q = W j q) (hR : RLk V' (X + 2 + 37 * l) W' o l) : Rel V' W' X many o := by
  refine ⟨fun l2 hl2 g2 hg2 => ?_, fun l2 hl2 => ?_, fun l2 hl2 m hm g2 hg2 => ?_, ?_⟩
  · exact (h.1 l2 hl2 g2 hg2).cg (hV _ (by rcases Nat.lt_trichotomy l l2 with h9 | h9 | h9 <;> omega)) (hV _ (by rcases Nat.lt_trichotomy l l2 with h9 | h9 | h9 <;> omega)) (hW _ _ (by omega)) (hW _ _ (by omega)) (fun s hs => hW _ _ (by omega)) (fun s hs => hW _ _ (by omega))
  · by_cases he : l2 = l
    · subst he
      exact hR
    · exact (h.2.1 l2 hl2).cg (hV _ (by omega)) (fun r h1 h2 => hW _ _ (by omega))
  · exact (h.2.2.1 l2 hl2 m hm g2 hg2).cg (congrFun (hV _ (by rcases Nat.lt_trichotomy l l2 with h9 | h9 | h9 <;> omega)) _) (congrFun (hV _ (by rcases Nat.lt_trichotomy l l2 with h9 | h9 | h9 <;> omega)) _) (hW _ _ (by omega)) (hW _ _ (by omega))
  · exact h.2.2.2.cg (fun r hr => hV _ (by omega)) (hW _ _ (by omega)) (hW _ _ (by omega)) (fun r hr j => hW _ _ (by omega))
theorem set_k {B : Nat} {a2 a3 a4 : Int32} : fX1_set B a2 a3 a4 V B 0 = V B 0 ∧ fX1_set B a2 a3 a4 V B 3 = a2 ∧ fX1_set B a2 a3 a4 V B 4 = a3 ∧ fX1_set B a2 a3 a4 V B 5 = a4 ∧ fX1_set B a2 a3 a4 V B 6 = V B 6 ∧ fX1_set B a2 a3 a4 V B 7 = if V B 6 = nI 500 then a3 else V B 7 := by
  dsimp only [fX1_set]
  have e6 : vset (vset (vset V B 3 a2) B 4 a3) B 5 a4 B 6 = V B 6 := by rw [vs_nk (by decide), vs_nk (by decide), vs_nk (by decide)]
  have ea : vX1_asks B (vset (vset (vset V B 3 a2) B 4 a3) B 5 a4) = if V B 6 = nI 500 then nI 1 else nI 0 := by
    dsimp only [vX1_asks]
    rw [e6]
  by_cases h : V B 6 = nI 500
  · rw [if_neg (show ¬ vX1_asks B (vset (vset (vset V B 3 a2) B 4 a3) B 5 a4) = 0 by rw [ea, if_pos h]; decide), if_pos h]
    refine ⟨?_, ?_, ?_, ?_, ?_, vs_at⟩
    · rw [vs_nk (by decide), vs_nk (by decide), vs_nk (by decide), vs_nk (by decide)]
    · rw [vs_nk (by decide), vs_nk (by decide), vs_nk (by decide), vs_at]
    · rw [vs_nk (by decide), vs_nk (by decide), vs_at]
    · rw [vs_nk (by decide), vs_at]
    · rw [vs_nk (by decide), e6]
  · rw [if_pos (show vX1_asks B (vset (vset (vset V B 3 a2) B 4 a3) B 5 a4) = 0 by rw [ea, if_neg h]; rfl), if_neg h]
    refine ⟨?_, ?_, ?_, ?_, e6, ?_⟩
    · rw [vs_nk (by decide), vs_nk (by decide), vs_nk (by decide)]
    · rw [vs_nk (by decide), vs_nk (by decide), vs_at]
    · rw [vs_nk (by decide), vs_at]
    · rw [vs_at]
    · rw [vs_nk (by decide), vs_nk (by decide), vs_nk (by decide)]
theorem set_f {B : Nat} {a2 a3 a4 : Int32} {j : Nat} (h : j ≠ B) : fX1_set B a2 a3 a4 V j = V j := by
  dsimp only [fX1_set]
  split
  · rw [vs_nr h, vs_nr h, vs_nr h]
  · rw [vs_nr h, vs_nr h, vs_nr h, vs_nr h]
theorem Rel.settings {a2 a3 a4 : Int32} (h : Rel V W X many o) (hl : l < many) (h2 : inZ a2 1 8) (h3 : inZ a3 1 201) (h4 : inZ a4 1 (a3.toInt + 1)) : Rel (fX4_settings X many l a2 a3 a4 V) (fX5_settings o ml l a2 a3 a4 W) X many o := by
  dsimp only [fX4_settings, fX5_settings]
  obtain ⟨r, e2, r1, r2, -⟩ := h2.to (by decide)
  obtain ⟨q, e3, q1, q2, q3⟩ := h3.to (by decide)
  obtain ⟨d, e4, d1, d2, -⟩ := h4.to (by decide)
  rw [q3] at d2
  obtain ⟨k0, k3, k4, k5, k6, k7⟩ := set_k (V := V) (B := X + 2 + 37 * l) (a2 := a2) (a3 := a3) (a4 := a4)
  refine h.lnk hl (fun j hj => set_f hj) (fun j q hq => by rw [vq, if_neg (by omega), vq, if_neg (by omega), vq, if_neg (by omega), vq, if_neg (by omega)]) ?_
  obtain ⟨c0, c1, c2, c3, c4, -, ⟨c, cc⟩, c8, c9⟩ := h.2.1 l hl
  unfold RLk
  rw [k0, k3, k4, k5, k6, k7]
  refine ⟨c0, ?_, ?_, ?_, ?_, ⟨r, q, d, by omega, by omega, by omega, by omega, by omega, by omega, e2, e3, e4⟩, ?_, c8, ?_⟩
  · rw [vs_nr (by omega), vs_nr (by omega), vs_nr (by omega), vs_at]
  · rw [vs_nr (by omega), vs_nr (by omega), vs_at]
  · rw [vs_nr (by omega), vs_at]
  · rw [vs_nr (by omega), vs_nr (by omega), vs_nr (by omega), vs_nr (by omega), c4]
  · split
    · exact ⟨q, by omega, by omega, e3⟩
    · exact ⟨c, cc⟩
  · rcases c9 with ⟨c9, c10, -⟩ | ⟨c9, c10⟩
    · refine Or.inl ⟨c9, ?_, ?_⟩
      · rw [vs_nr (by omega), vs_nr (by omega), vs_nr (by omega), vs_nr (by omega), c10]
      · rw [vs_at, if_pos c9]
    · refine Or.inr ⟨c9, ?_⟩
      rw [vs_nr (by omega), vs_nr (by omega), vs_nr (by omega), vs_nr (by omega), if_neg c9, c10]
theorem yield_k {B : Nat} {a : Int32} : fX1_yieldTo B a V B 0 = V B 0 ∧ fX1_yieldTo B a V B 3 = V B 3 ∧ fX1_yieldTo B a V B 4 = V B 4 ∧ fX1_yieldTo B a V B 5 = V B 5 ∧ fX1_yieldTo B a V B 6 = (if a < V B 6 then a else V B 6) ∧ fX1_yieldTo B a V B 7 = V B 3 * V B 4 + V B 5 / nI 2 := by
  dsimp only [fX1_yieldTo, vJ9_min_7cf53]
  refine ⟨?_, ?_, ?_, ?_, ?_, ?_⟩
  · rw [vs_nk (by decide), vs_nk (by decide)]
  · rw [vs_nk (by decide), vs_nk (by decide)]
  · rw [vs_nk (by decide), vs_nk (by decide)]
  · rw [vs_nk (by decide), vs_nk (by decide)]
  · rw [vs_nk (by decide), vs_at]
  · rw [vs_at, vs_nk (by decide), vs_nk (by decide), vs_nk (by decide)]
theorem yield_f {B : Nat} {a : Int32} {j : Nat} (h : j ≠ B) : fX1_yieldTo B a V j = V j := by
  dsimp only [fX1_yieldTo]
  rw [vs_nr h, vs_nr h]
def askr (W : q_V) (o l : Nat) (a : Int32) : Int32 := if W (o + 5) l = 0 then a else if W (o + 4) l ≤ a then W (o + 4) l else a
def yW (W : q_V) (o l : Nat) (a : Int32) : q_V := vset (vset W (o + 4) l (askr W o l a)) (o + 5) l (W (o + 1) l * W (o + 2) l + W (o + 3) l / nI 2)
theorem Rel.yield {a : Int32} (h : Rel V W X many o) (hl : l < many) (ha : inZ a 0 1000) (h5 : ¬ nI 500 ≤ a) : Rel (fX1_yieldTo (X + 2 + 37 * l) a V) (yW W o l a) X many o := by
  obtain ⟨t, et, -, t2, t3⟩ := ha.to (by decide)
  have t4 : t < 500 := by
    rw [Int32.le_iff_toInt_le, nI_toInt (by decide), t3] at h5
    omega
  obtain ⟨k0, k3, k4, k5, k6, k7⟩ := yield_k (V := V) (B := X + 2 + 37 * l) (a := a)
  unfold yW
  refine h.lnk hl (fun j hj => yield_f hj) (fun j q hq => by rw [vq, if_neg (by omega), vq, if_neg (by omega)]) ?_
  obtain ⟨c0, c1, c2, c3, c4, ⟨r, q, d, r1, r2, q1, q2, d1, d2, e1, e2, e3⟩, ⟨c, cc1, cc2, cc3⟩, ⟨p, p1, p2⟩, c9⟩ := h.2.1 l hl
  have hrq : r * q ≤ 7 * 200 := Nat.mul_le_mul r2 q2
  have hrq1 : 1 ≤ r * q := Nat.mul_le_mul r1 q1
  have ec : V (X + 2 + 37 * l) 3 * V (X + 2 + 37 * l) 4 + V (X + 2 + 37 * l) 5 / nI 2 = nI (r * q + d / 2) := by rw [e1, e2, e3, pk_mul, pk_div (by omega) (by decide) (by decide), nI_add]
  have ea : askr W o l a = if a < V (X + 2 + 37 * l) 6 then a else V (X + 2 + 37 * l) 6 := by
    unfold askr
    rcases c9 with ⟨c9, c10, -⟩ | ⟨c9, c10⟩
    · rw [if_pos (by rw [c10]; rfl), c9, if_pos]
      rw [Int32.lt_iff_toInt_lt, t3, nI_toInt (by decide)]
      omega
    · rw [if_neg (by rw [c10, cc3]; exact tmr.ne ⟨c, cc1, cc2, rfl⟩), c4, min_sw]
  unfold RLk
  rw [k0, k3, k4, k5, k6, k7, ec]
  have hlow : ∃ p : Nat, p < 500 ∧ (if a < V (X + 2 + 37 * l) 6 then a else V (X + 2 + 37 * l) 6) = nI p := by
    split
    · exact ⟨t, t4, et⟩
    · rename_i c
      refine ⟨p, ?_, p2⟩
      rw [Int32.lt_iff_toInt_lt, t3, p2, nI_toInt (by omega)] at c
      omega
  obtain ⟨p', p3, p4⟩ := hlow
  refine ⟨c0, ?_, ?_, ?_, ?_, ⟨r, q, d, r1, r2, q1, q2, d1, d2, e1, e2, e3⟩, ⟨r * q + d / 2, by omega, by omega, rfl⟩, ⟨p', by omega, p4⟩, Or.inr ⟨?_, ?_⟩⟩
  · rw [vs_nr (by omega), vs_nr (by omega), c1]
  · rw [vs_nr (by omega), vs_nr (by omega), c2]
  · rw [vs_nr (by omega), vs_nr (by omega), c3]
  · rw [vs_nr (by omega), vs_at, ea]
  · rw [p4]
    intro e
    have e4 := congrArg Int32.toInt e
    rw [nI_toInt (by omega), nI_toInt (by decide)] at e4
    omega
  · rw [vs_at, c1, c2, c3, ec]
theorem qn_eq {a2 a4 a5 : Int32} : fX5_query_n o ml l a2 a4 a5 W = if nI 500 ≤ a2 then W else yW W o l a2 := by
  dsimp only [fX5_query_n]
  unfold yW askr
  by_cases h : nI 500 ≤ a2
  · rw [if_pos h, if_pos h]
  · rw [if_neg h, if_neg h]
    by_cases h1 : W (o + 5) l = 0
    · rw [if_pos h1, if_pos h1, vs_nr (by omega), vs_nr (by omega), vs_nr (by omega)]
    · rw [if_neg h1, if_neg h1]
      by_cases h2 : W (o + 4) l ≤ a2
      · rw [if_pos h2, if_pos h2, vs_nr (by omega), vs_nr (by omega), vs_nr (by omega)]
      · rw [if_neg h2, if_neg h2, vs_nr (by omega), vs_nr (by omega), vs_nr (by omega)]
theorem qg_eq {a2 a4 a5 : Int32} (hg : g < 8) : fX5_query_g o ml l a2 g a4 a5 W = if nI 500 ≤ a2 then W else if a5 = 0 then (if a4 = 0 then fX5_lowerGroup o ml l (8 * l + g) (yW W o l a2) else fX5_lower o ml l (8 * l + g) a4 (yW W o l a2)) else yW W o l a2 := by
  dsimp only [fX5_query_g]
  unfold yW askr
  rw [if_neg (nI_nm (show g < 2 ^ 31 by omega)), if_neg (nI_nm (show g < 2 ^ 31 by omega))]
  by_cases h : nI 500 ≤ a2
  · rw [if_pos h, if_pos h]
  · rw [if_neg h, if_neg h]
    by_cases h1 : W (o + 5) l = 0
    · rw [if_pos h1, if_pos h1, vs_nr (by omega), vs_nr (by omega), vs_nr (by omega)]
    · rw [if_neg h1, if_neg h1]
      by_cases h2 : W (o + 4) l ≤ a2
      · rw [if_pos h2, if_pos h2, vs_nr (by omega), vs_nr (by omega), vs_nr (by omega)]
      · rw [if_neg h2, if_neg h2, vs_nr (by omega), vs_nr (by omega), vs_nr (by omega)]
theorem Rel.query_n {a2 a4 a5 : Int32} (h : Rel V W X many o) (hl : l < many) (h2 : inZ a2 0 1000) : Rel (fX4_query_n X many l a2 a4 a5 V) (fX5_query_n o ml l a2 a4 a5 W) X many o := by
  rw [qn_eq]
  dsimp only [fX4_query_n]
  by_cases h5 : nI 500 ≤ a2
  · rw [if_pos h5, if_pos h5]
    exact h
  · rw [if_neg h5, if_neg h5]
    exact h.yield hl h2 h5
theorem Rel.query_g {a2 a4 a5 : Int32} (h : Rel V W X many o) (hl : l < many) (hg : g < 8) (h2 : inZ a2 0 1000) : Rel (fX4_query_g X many l a2 g a4 a5 V) (fX5_query_g o ml l a2 g a4 a5 W) X many o := by
  rw [qg_eq hg]
  dsimp only [fX4_query_g, fX1_hearQuery]
  rw [if_neg (nI_nm (show g < 2 ^ 31 by omega))]
  by_cases h5 : nI 500 ≤ a2
  · rw [if_pos h5, if_pos h5]
    exact h
  · rw [if_neg h5, if_neg h5]
    have h1 := h.yield hl h2 h5
    by_cases h6 : a5 = 0
    · rw [if_pos h6, if_pos h6]
      obtain ⟨k1, k2⟩ := (h1.2.1 l hl).last
      by_cases h7 : a4 = 0
      · rw [if_pos h7, if_pos h7]
        exact h1.rec_ hl hg (fun j h2 h3 => own_f h2) rfr.lg ((h1.1 l hl g hg).own k1 k2)
      · rw [if_neg h7, if_neg h7]
        exact h1.rec_ hl hg (fun j h2 h3 => low_f h3) rfr.lw ((h1.1 l hl g hg).low k1 k2)
    · rw [if_neg h6, if_neg h6]
      exact h1
/-! member -/
theorem Rel.mem {a4 a5 : Int32} (h : Rel V W X many o) (hl : l < many) (hm : m < 6) (hg : g < 8) (hm4 : many ≤ 4) (h4 : q_bl a4) (h5 : S16 a5) : Rel (vset (vset V (X + 2 + 37 * l + 19 + 3 * m + 1) g a5) (X + 2 + 37 * l + 19 + 3 * m + 2) g a4) (vset (vset W (o + 11) (48 * l + 8 * m + g) a4) (o + 12) (48 * l + 8 * m + g) a5) X many o := by
  have hV : ∀ j, j ≠ X + 2 + 37 * l + 19 + 3 * m + 1 → j ≠ X + 2 + 37 * l + 19 + 3 * m + 2 → vset (vset V (X + 2 + 37 * l + 19 + 3 * m + 1) g a5) (X + 2 + 37 * l + 19 + 3 * m + 2) g a4 j = V j := fun j h1 h2 => by rw [vs_nr h2, vs_nr h1]
  have hW : ∀ j q, ¬ ((j = o + 11 ∨ j = o + 12) ∧ q = 48 * l + 8 * m + g) → vset (vset W (o + 11) (48 * l + 8 * m + g) a4) (o + 12) (48 * l + 8 * m + g) a5 j q = W j q := fun j q h1 => by rw [vq, if_neg (by omega), vq, if_neg (by omega)]
  refine ⟨fun l2 hl2 g2 hg2 => ?_, fun l2 hl2 => ?_, fun l2 hl2 m2 hm2 g2 hg2 => ?_, ?_⟩
  · exact (h.1 l2 hl2 g2 hg2).cg (hV _ (by rcases Nat.lt_trichotomy l l2 with h9 | h9 | h9 <;> omega) (by rcases Nat.lt_trichotomy l l2 with h9 | h9 | h9 <;> omega)) (hV _ (by rcases Nat.lt_trichotomy l l2 with h9 | h9 | h9 <;> omega) (by rcases Nat.lt_trichotomy l l2 with h9 | h9 | h9 <;> omega)) (hW _ _ (by omega)) (hW _ _ (by omega)) (fun s hs => hW _ _ (by omega)) (fun s hs => hW _ _ (by omega))
  · exact (h.2.1 l2 hl2).cg (hV _ (by rcases Nat.lt_trichotomy l l2 with h9 | h9 | h9 <;> omega) (by rcases Nat.lt_trichotomy l l2 with h9 | h9 | h9 <;> omega)) (fun r h1 h2 => hW _ _ (by omega))
  · by_cases he : l2 = l ∧ m2 = m ∧ g2 = g
    · obtain ⟨rfl, rfl, rfl⟩ := he
      refine ⟨?_, ?_, ?_, ?_⟩
      · rw [vs_nr (by omega), vs_at, vs_at]
      · rw [vs_at, vs_nr (by omega), vs_at]
      · rw [vs_nr (by omega), vs_at]
        exact h5
      · rw [vs_at]
        exact h4
    · have hA : vset (vset V (X + 2 + 37 * l + 19 + 3 * m + 1) g a5) (X + 2 + 37 * l + 19 + 3 * m + 2) g a4 (X + 2 + 37 * l2 + 19 + 3 * m2 + 1) g2 = V (X + 2 + 37 * l2 + 19 + 3 * m2 + 1) g2 := by
        rw [vq, if_neg (by rcases Nat.lt_trichotomy l l2 with h9 | h9 | h9 <;> omega), vq, if_neg (by rcases Nat.lt_trichotomy l l2 with h9 | h9 | h9 <;> omega)]
      have hB : vset (vset V (X + 2 + 37 * l + 19 + 3 * m + 1) g a5) (X + 2 + 37 * l + 19 + 3 * m + 2) g a4 (X + 2 + 37 * l2 + 19 + 3 * m2 + 2) g2 = V (X + 2 + 37 * l2 + 19 + 3 * m2 + 2) g2 := by
        rw [vq, if_neg (by rcases Nat.lt_trichotomy l l2 with h9 | h9 | h9 <;> omega), vq, if_neg (by rcases Nat.lt_trichotomy l l2 with h9 | h9 | h9 <;> omega)]
      exact (h.2.2.1 l2 hl2 m2 hm2 g2 hg2).cg hA hB (hW _ _ (by omega)) (hW _ _ (by omega))
  · exact h.2.2.2.cg (fun r hr => hV _ (by omega) (by omega)) (hW _ _ (by omega)) (hW _ _ (by omega)) (fun r hr j => hW _ _ (by omega))
theorem Rel.member {a4 a5 : Int32} (h : Rel V W X many o) (hl : l < many) (hm : m < 6) (hg : g < 8) (hm4 : many ≤ 4) (h4 : q_bl a4) (h5 : S16 a5) (hS : SB W o b) (hb : b + 4 ≤ 2000000000) : Rel (fX4_member X many l m g a4 a5 V) (fX5_member o ml l m g a4 a5 W) X many o := by
  dsimp only [fX4_member, fX1_changeWish, fX5_member]
  have h1 := h.mem hl hm hg hm4 h4 h5
  obtain ⟨e1, e2, s1, -⟩ := h.2.2.1 l hl m hm g hg
  have hS1 : SB (vset (vset W (o + 11) (48 * l + 8 * m + g) a4) (o + 12) (48 * l + 8 * m + g) a5) o b := (hS.vs (Or.inl (by omega))).vs (Or.inl (by omega))
  rw [← e1, ← e2]
  generalize vset (vset V (X + 2 + 37 * l + 19 + 3 * m + 1) g a5) (X + 2 + 37 * l + 19 + 3 * m + 2) g a4 = V1 at h1 ⊢
  generalize vset (vset W (o + 11) (48 * l + 8 * m + g) a4) (o + 12) (48 * l + 8 * m + g) a5 = W1 at h1 hS1 ⊢
  generalize V (X + 2 + 37 * l + 19 + 3 * m + 1) g = x at s1 ⊢
  generalize V (X + 2 + 37 * l + 19 + 3 * m + 2) g = y
  have hfin : ∀ {p q : Int32}, S16 p → S16 q → Rel (if p = 0 then (if q = 0 then V1 else fX1_hearReport_5 (X + 2 + 37 * l) (X + 2 + 37 * many) g q V1) else (if q = 0 then fX1_hearReport_4 (X + 2 + 37 * l) (X + 2 + 37 * many) g p V1 else fX1_hearReport_5 (X + 2 + 37 * l) (X + 2 + 37 * many) g q (fX1_hearReport_4 (X + 2 + 37 * l) (X + 2 + 37 * many) g p V1))) (if p = 0 then (if q = 0 then W1 else fX5_reported_5 o ml l g q W1) else (if q = 0 then fX5_reported_4 o ml l g p W1 else fX5_reported_5 o ml l g q (fX5_reported_4 o ml l g p W1))) X many o := fun {p q} hp hq => by
    split
    · split
      · exact h1
      · exact h1.rep5 hl hg hq hS1 (by omega)
    · split
      · exact h1.rep4 hl hg hp
      · exact (h1.rep4 hl hg hp).rep5 hl hg hq (SX5_reported_4 o ml l g p hS1 (by omega)) (by omega)
  by_cases hy : a4 = y
  · rw [if_pos hy, if_pos hy.symm]
    by_cases h0 : a4 = 0
    · rw [if_pos h0, if_pos h0]
      exact hfin h5.and s1.and
    · rw [if_neg h0, if_neg h0]
      exact hfin s1.and h5.and
  · rw [if_neg hy, if_neg (show ¬ y = a4 from fun e => hy e.symm)]
    by_cases h0 : a4 = 0
    · rw [if_pos h0, if_pos h0]
      exact h1.rep2 hl hg h5 hS1 (by omega)
    · rw [if_neg h0, if_neg h0]
      exact h1.rep3 hl hg h5 hS1 (by omega)
theorem lp_rel {σ τ : Type} {B : Nat → σ → σ} {B' : Nat → τ → τ} {I : Nat → σ → τ → Prop} : ∀ (d k : Nat) (s : σ) (t : τ), I k s t → (∀ k2 s t, k ≤ k2 → k2 < k + d → I k2 s t → I (k2 + 1) (B k2 s) (B' k2 t)) → I (k + d) (lp B d k s) (lp B' d k t) := by
  intro d
  induction d with
  | zero => intro k s t h _; exact h
  | succ d ih =>
    intro k s t h hs
    show I (k + (d + 1)) (lp B d (k + 1) (B k s)) (lp B' d (k + 1) (B' k t))
    rw [show k + (d + 1) = k + 1 + d by omega]
    exact ih (k + 1) _ _ (hs k s t (by omega) (by omega) h) (fun k2 s t h1 h2 => hs k2 s t (by omega) (by omega))
theorem Rel.answer (h : Rel V W X many o) (hl : l < many) (hm : m < 6) (hS : SB W o b) (hb : b + 16 ≤ 2000000000) : Rel (fX4_answer X many l m V) (fX5_answer o ml l m W) X many o := by
  dsimp only [fX4_answer, fX1_letAnswer, fX5_answer]
  have hi := lp_rel (B := fun (k147 : Nat) (s147 : Int32 × q_V) => if (s147.2 (X + 2 + 37 * l + 19 + 3 * m + 2) k147) = 0 then (if (s147.2 (X + 2 + 37 * l + 19 + 3 * m + 1) k147) = 0 then ((s147.1, s147.2)) else ((s147.1 + Int32.ofInt (1), fX1_hearReport_0 (X + 2 + 37 * l) (X + 2 + 37 * many) k147 (s147.2 (X + 2 + 37 * l + 19 + 3 * m + 1) k147) s147.2))) else ((s147.1 + Int32.ofInt (1), fX1_hearReport_1 (X + 2 + 37 * l) (X + 2 + 37 * many) k147 (s147.2 (X + 2 + 37 * l + 19 + 3 * m + 1) k147) s147.2))) (B' := fun (k550 : Nat) (s550 : Int32 × q_V) => if (s550.2 (o + 11) (((48 * l) + (8 * m)) + k550)) = 0 then (if (s550.2 (o + 12) (((48 * l) + (8 * m)) + k550)) = 0 then ((s550.1, s550.2)) else ((s550.1 + Int32.ofInt (1), fX5_reported_0 o ml l k550 (s550.2 (o + 12) (((48 * l) + (8 * m)) + k550)) s550.2))) else ((s550.1 + Int32.ofInt (1), fX5_reported_1 o ml l k550 (s550.2 (o + 12) (((48 * l) + (8 * m)) + k550)) s550.2))) (I := fun _ s t => Rel s.2 t.2 X many o) 8 0 (nI 0, V) (nI 0, W) h (fun k s t _ hk hr => ?_)
  · exact hi
  · obtain ⟨e1, e2, s1, -⟩ := hr.2.2.1 l hl m hm k (by omega)
    try dsimp only
    rw [← e1, ← e2]
    split
    · split
      · exact hr
      · exact hr.rep0 hl (by omega) s1
    · exact hr.rep1 hl (by omega) s1
end REQ

