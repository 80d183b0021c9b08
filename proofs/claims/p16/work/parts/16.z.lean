/-! ===== reports ===== -/
section REP
variable {V V' W W' : q_V} {X many o l g ml b : Nat}
theorem asks_1 {B lg : Nat} {a : Int32} : fX1_askSources B lg g a V (B + 3 + 2 * g) 1 = V (B + 3 + 2 * g) 1 ∨ ¬ (B + 3 + 2 * g < lg ∨ lg + 5 ≤ B + 3 + 2 * g) := by
  by_cases h : B + 3 + 2 * g < lg ∨ lg + 5 ≤ B + 3 + 2 * g
  · left
    dsimp only [fX1_askSources]
    split
    · rfl
    · split
      · rfl
      · rw [low_o, add_f h]
  · exact Or.inr h
theorem Rel.rep0 {a : Int32} (h : Rel V W X many o) (hl : l < many) (hg : g < 8) (ha : S16 a) : Rel (fX1_hearReport_0 (X + 2 + 37 * l) (X + 2 + 37 * many) g a V) (fX5_reported_0 o ml l g a W) X many o := by
  dsimp only [fX1_hearReport_0, fX5_reported_0, fX5_excluding_0, fX5_including_0]
  have hm := (h.1 l hl g hg).m1
  by_cases h0 : V (X + 2 + 37 * l + 3 + 2 * g) 1 = 0
  · rw [if_neg (fun e => hm.mp e h0)]
    exact h.allow0 hl hg ha h0 _ rfl
  · rw [if_pos (hm.mpr h0)]
    exact h.allow1 hl hg ha h0 _ rfl
theorem Rel.rep4 {a : Int32} (h : Rel V W X many o) (hl : l < many) (hg : g < 8) (ha : S16 a) : Rel (fX1_hearReport_4 (X + 2 + 37 * l) (X + 2 + 37 * many) g a V) (fX5_reported_4 o ml l g a W) X many o := by
  dsimp only [fX1_hearReport_4, fX5_reported_4, fX5_excluding_4, fX5_including_4]
  have hm := (h.1 l hl g hg).m1
  by_cases h0 : V (X + 2 + 37 * l + 3 + 2 * g) 1 = 0
  · rw [if_neg (fun e => hm.mp e h0)]
    exact h.allow0 hl hg ha h0 _ rfl
  · rw [if_pos (hm.mpr h0)]
    exact h.allow1 hl hg ha h0 _ rfl
theorem Rel.rep1 {a : Int32} (h : Rel V W X many o) (hl : l < many) (hg : g < 8) (ha : S16 a) : Rel (fX1_hearReport_1 (X + 2 + 37 * l) (X + 2 + 37 * many) g a V) (fX5_reported_1 o ml l g a W) X many o := by
  dsimp only [fX1_hearReport_1, fX5_reported_1, fX5_excluding_1, fX5_including_1]
  have hm := (h.1 l hl g hg).m1
  by_cases h0 : V (X + 2 + 37 * l + 3 + 2 * g) 1 = 0
  · rw [if_neg (fun e => hm.mp e h0)]
    exact h.excl0 hl hg ha h0 _ rfl
  · rw [if_pos (hm.mpr h0)]
    obtain ⟨k1, k2⟩ := (h.2.1 l hl).grace (ml := ml)
    exact h.excl1 hl hg ha k1 h0 _ _ rfl (by rw [gr_cg rfr.b1, k2])
theorem Rel.rep2 {a : Int32} (h : Rel V W X many o) (hl : l < many) (hg : g < 8) (ha : S16 a) (hS : SB W o b) (hb : b + 2 ≤ 2000000000) : Rel (fX1_hearReport_2 (X + 2 + 37 * l) (X + 2 + 37 * many) g a V) (fX5_reported_2 o ml l g a W) X many o := by
  dsimp only [fX1_hearReport_2, fX1_hearToIn, fX5_reported_2, fX5_excluding_2, fX5_including_2]
  have hr := h.1 l hl g hg
  have hm := hr.m1
  have e1 : ∀ V', fX1_askSources (X + 2 + 37 * l) (X + 2 + 37 * many) g (V (X + 2 + 37 * l + 3 + 2 * g) 2 &&& (a ^^^ (-1))) V' (X + 2 + 37 * l + 3 + 2 * g) 1 = V' (X + 2 + 37 * l + 3 + 2 * g) 1 := fun V' => (asks_1 (V := V')).resolve_right (fun q => q (by omega))
  rw [e1, allow_1]
  by_cases h0 : V (X + 2 + 37 * l + 3 + 2 * g) 1 = 0
  · rw [if_neg (fun e => hm.mp e h0), if_pos h0]
    have h1 := h.allow0 (ml := ml) hl hg ha h0 _ rfl
    rw [← hr.s1 (ml := ml)]
    exact h1.ask hl hg (SX5_setTimers o ml (8 * l + g) a _ (SX5_become_0 o ml (8 * l + g) _ _ hS)) (by omega)
  · rw [if_pos (hm.mpr h0), if_neg h0]
    have h1 := h.allow1 (ml := ml) hl hg ha h0 _ rfl
    have s1 := SX5_setTimers o ml (8 * l + g) a (vX5_grace o ml l (fX5_become_1 o ml (8 * l + g) (vX5_setOf_1 o ml (8 * l + g) W ||| a) (vX5_setOf_2 o ml (8 * l + g) W &&& (a ^^^ (-1))) W)) (SX5_become_1 o ml (8 * l + g) (vX5_setOf_1 o ml (8 * l + g) W ||| a) (vX5_setOf_2 o ml (8 * l + g) W &&& (a ^^^ (-1))) hS)
    rw [← hr.s1 (ml := ml)]
    exact (h1.ask hl hg s1 (by omega)).askG hl hg (SX5_ask o ml l g _ s1 (by omega)) (by omega)
theorem Rel.rep3 {a : Int32} (h : Rel V W X many o) (hl : l < many) (hg : g < 8) (ha : S16 a) (hS : SB W o b) (hb : b + 2 ≤ 2000000000) : Rel (fX1_hearReport_3 (X + 2 + 37 * l) (X + 2 + 37 * many) g a V) (fX5_reported_3 o ml l g a W) X many o := by
  dsimp only [fX1_hearReport_3, fX1_hearToEx, fX5_reported_3, fX5_excluding_3, fX5_including_3, vX0_doubted]
  have hr := h.1 l hl g hg
  have hm := hr.m1
  by_cases h0 : V (X + 2 + 37 * l + 3 + 2 * g) 1 = 0
  · rw [if_neg (fun e => hm.mp e h0), if_pos h0]
    have h1 := h.excl0 (ml := ml) (x := V (X + 2 + 37 * l + 3 + 2 * g) 4) hl hg ha h0 _ rfl
    have e2 : vX5_setOf_1 o ml (8 * l + g) W &&& a = a &&& V (X + 2 + 37 * l + 3 + 2 * g) 2 := by rw [hr.s1, Int32.and_comm]
    rw [← e2]
    exact h1.ask hl hg (SB.vs (SX5_become_1 o ml (8 * l + g) _ _ hS) (Or.inl (by omega))) (by omega)
  · rw [if_pos (hm.mpr h0), if_neg h0]
    have h1 := h.excl1 (ml := ml) (x := V (X + 2 + 37 * l + 3 + 2 * g) 4) hl hg ha (hr.w.g h0) h0 _ _ rfl rfl
    rw [← hr.s2 (ml := ml), hr.g]
    exact h1.ask hl hg (SB.vs (SX5_setTimers o ml (8 * l + g) _ _ (SX5_become_1 o ml (8 * l + g) _ _ hS)) (Or.inl (by omega))) (by omega)
theorem Rel.rep5 {a : Int32} (h : Rel V W X many o) (hl : l < many) (hg : g < 8) (ha : S16 a) (hS : SB W o b) (hb : b + 2 ≤ 2000000000) : Rel (fX1_hearReport_5 (X + 2 + 37 * l) (X + 2 + 37 * many) g a V) (fX5_reported_5 o ml l g a W) X many o := by
  dsimp only [fX1_hearReport_5, fX1_hearBlock, fX5_reported_5, fX5_excluding_5, fX5_including_5, vX0_doubted]
  have hr := h.1 l hl g hg
  have hm := hr.m1
  by_cases h0 : V (X + 2 + 37 * l + 3 + 2 * g) 1 = 0
  · rw [if_neg (fun e => hm.mp e h0), if_pos h0, block_0 h0]
    have e2 : vX5_setOf_1 o ml (8 * l + g) W &&& a = a &&& V (X + 2 + 37 * l + 3 + 2 * g) 2 := by rw [hr.s1, Int32.and_comm]
    rw [← e2]
    exact h.ask hl hg hS (by omega)
  · rw [if_pos (hm.mpr h0), if_neg h0]
    have h1 := h.block1 (ml := ml) hl hg ha h0
    rw [← hr.s2 (ml := ml)]
    exact h1.ask hl hg (SX5_setTimers o ml (8 * l + g) _ _ (SX5_become_1 o ml (8 * l + g) _ _ hS)) (by omega)
theorem Rel.rep {a : Int32} (h : Rel V W X many o) (hl : l < many) (hg : g < 8) (ha : S16 a) (hS : SB W o b) (hb : b + 2 ≤ 2000000000) {k : Nat} (hk : k < 6) : Rel (fX4_report X many l g a k V) (fX5_report o ml l g a k W) X many o := by
  rcases (show k = 0 ∨ k = 1 ∨ k = 2 ∨ k = 3 ∨ k = 4 ∨ k = 5 by omega) with rfl | rfl | rfl | rfl | rfl | rfl
  · exact h.rep0 hl hg ha
  · exact h.rep1 hl hg ha
  · exact h.rep2 hl hg ha hS hb
  · exact h.rep3 hl hg ha hS hb
  · exact h.rep4 hl hg ha
  · exact h.rep5 hl hg ha hS hb
end REP

