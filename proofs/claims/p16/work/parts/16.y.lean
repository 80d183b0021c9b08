/-! ===== the whole of both, and the steps that keep it ===== -/
def RLk (V : q_V) (B : Nat) (W : q_V) (o l : Nat) : Prop := V B 0 = nI l ∧ W (o + 1) l = V B 3 ∧ W (o + 2) l = V B 4 ∧ W (o + 3) l = V B 5 ∧ W (o + 4) l = V B 6 ∧ (∃ r q d : Nat, 1 ≤ r ∧ r ≤ 7 ∧ 1 ≤ q ∧ q ≤ 200 ∧ 1 ≤ d ∧ d ≤ q ∧ V B 3 = nI r ∧ V B 4 = nI q ∧ V B 5 = nI d) ∧ (∃ c : Nat, 1 ≤ c ∧ c ≤ 2000 ∧ V B 7 = nI c) ∧ (∃ a : Nat, a ≤ 500 ∧ V B 6 = nI a) ∧ ((V B 6 = nI 500 ∧ W (o + 5) l = nI 0 ∧ W (o + 6) l = V B 7) ∨ (V B 6 ≠ nI 500 ∧ W (o + 5) l = V B 7))
def RMb (V : q_V) (B : Nat) (W : q_V) (o l m g : Nat) : Prop := V (B + 19 + 3 * m + 1) g = W (o + 12) (48 * l + 8 * m + g) ∧ V (B + 19 + 3 * m + 2) g = W (o + 11) (48 * l + 8 * m + g) ∧ S16 (V (B + 19 + 3 * m + 1) g) ∧ q_bl (V (B + 19 + 3 * m + 2) g)
def RG (V : q_V) (lg : Nat) (W : q_V) (o : Nat) : Prop := V lg 4 = W o 15 ∧ V lg 5 = W o 14 ∧ 0 ≤ (W o 15).toInt ∧ ∀ r, r < 4 → ∀ j : Nat, (j : Int) < (W o 15).toInt → j < 40 → V (lg + 1 + r) j = W (o + 13 + r) j
def Rel (V W : q_V) (X many o : Nat) : Prop := (∀ l, l < many → ∀ g, g < 8 → RF V (X + 2 + 37 * l + 3 + 2 * g) W o (8 * l + g)) ∧ (∀ l, l < many → RLk V (X + 2 + 37 * l) W o l) ∧ (∀ l, l < many → ∀ m, m < 6 → ∀ g, g < 8 → RMb V (X + 2 + 37 * l) W o l m g) ∧ RG V (X + 2 + 37 * many) W o
theorem FW.cg {V V' : q_V} {i : Nat} (h : FW V i) (h1 : V' i = V i) (h2 : V' (i + 1) = V (i + 1)) : FW V' i := by
  unfold FW at h ⊢
  rw [h1, h2]
  exact h
theorem RF.cg {V V' W W' : q_V} {i o at_ : Nat} (h : RF V i W o at_) (h1 : V' i = V i) (h2 : V' (i + 1) = V (i + 1)) (h7 : W' (o + 7) at_ = W (o + 7) at_) (h8 : W' (o + 8) at_ = W (o + 8) at_) (h9 : ∀ s, s < 16 → W' (o + 9) (16 * at_ + s) = W (o + 9) (16 * at_ + s)) (h10 : ∀ s, s < 16 → W' (o + 10) (16 * at_ + s) = W (o + 10) (16 * at_ + s)) : RF V' i W' o at_ := by
  refine RF.mk (h.w.cg h1 h2) ?_ ?_ (fun s hs => ?_) (fun s hs => ?_)
  · rw [h7, h.m]
    dsimp only [vX0_state]
    rw [h1]
  · rw [h8, h.g, h1]
  · rw [h9 s hs, h.p s hs, h1]
  · rw [h10 s hs, h.t s hs, h2]
theorem RLk.cg {V V' W W' : q_V} {B o l : Nat} (h : RLk V B W o l) (h1 : V' B = V B) (h2 : ∀ r, 1 ≤ r → r ≤ 6 → W' (o + r) l = W (o + r) l) : RLk V' B W' o l := by
  unfold RLk at h ⊢
  rw [h1, h2 1 (by decide) (by decide), h2 2 (by decide) (by decide), h2 3 (by decide) (by decide), h2 4 (by decide) (by decide), h2 5 (by decide) (by decide), h2 6 (by decide) (by decide)]
  exact h
theorem RMb.cg {V V' W W' : q_V} {B o l m g : Nat} (h : RMb V B W o l m g) (h1 : V' (B + 19 + 3 * m + 1) g = V (B + 19 + 3 * m + 1) g) (h2 : V' (B + 19 + 3 * m + 2) g = V (B + 19 + 3 * m + 2) g) (h3 : W' (o + 12) (48 * l + 8 * m + g) = W (o + 12) (48 * l + 8 * m + g)) (h4 : W' (o + 11) (48 * l + 8 * m + g) = W (o + 11) (48 * l + 8 * m + g)) : RMb V' B W' o l m g := by
  unfold RMb at h ⊢
  rw [h1, h2, h3, h4]
  exact h
theorem RG.cg {V V' W W' : q_V} {lg o : Nat} (h : RG V lg W o) (h1 : ∀ r, r < 5 → V' (lg + r) = V (lg + r)) (h2 : W' o 14 = W o 14) (h3 : W' o 15 = W o 15) (h4 : ∀ r, r < 4 → ∀ j, W' (o + 13 + r) j = W (o + 13 + r) j) : RG V' lg W' o := by
  unfold RG at h ⊢
  have h0 := h1 0 (by decide)
  rw [Nat.add_zero] at h0
  rw [h0, h2, h3]
  refine ⟨h.1, h.2.1, h.2.2.1, fun r hr j hj hj2 => ?_⟩
  have e := h1 (1 + r) (by omega)
  rw [← Nat.add_assoc] at e
  rw [e, h4 r hr j]
  exact h.2.2.2 r hr j hj hj2
section REL
variable {V V' W W' : q_V} {X many o l g ml b : Nat}
theorem Rel.rec_ (h : Rel V W X many o) (hl : l < many) (hg : g < 8) (hV : ∀ j, j ≠ X + 2 + 37 * l + 3 + 2 * g → j ≠ X + 2 + 37 * l + 3 + 2 * g + 1 → V' j = V j) (hW : rfr W W' o (8 * l + g)) (hR : RF V' (X + 2 + 37 * l + 3 + 2 * g) W' o (8 * l + g)) : Rel V' W' X many o := by
  refine ⟨fun l2 hl2 g2 hg2 => ?_, fun l2 hl2 => ?_, fun l2 hl2 m hm g2 hg2 => ?_, ?_⟩
  · by_cases he : l2 = l ∧ g2 = g
    · obtain ⟨rfl, rfl⟩ := he
      exact hR
    · exact (h.1 l2 hl2 g2 hg2).cg (hV _ (by omega) (by omega)) (hV _ (by omega) (by omega)) (hW _ _ (by omega) (by omega)) (hW _ _ (by omega) (by omega)) (fun s hs => hW _ _ (by omega) (by omega)) (fun s hs => hW _ _ (by omega) (by omega))
  · exact (h.2.1 l2 hl2).cg (hV _ (by omega) (by omega)) (fun r h1 h2 => hW _ _ (by omega) (by omega))
  · exact (h.2.2.1 l2 hl2 m hm g2 hg2).cg (congrFun (hV _ (by rcases Nat.lt_trichotomy l l2 with h9 | h9 | h9 <;> omega) (by rcases Nat.lt_trichotomy l l2 with h9 | h9 | h9 <;> omega)) _) (congrFun (hV _ (by rcases Nat.lt_trichotomy l l2 with h9 | h9 | h9 <;> omega) (by rcases Nat.lt_trichotomy l l2 with h9 | h9 | h9 <;> omega)) _) (hW _ _ (by omega) (by omega)) (hW _ _ (by omega) (by omega))
  · exact h.2.2.2.cg (fun r hr => hV _ (by omega) (by omega)) (hW _ _ (by omega) (by omega)) (hW _ _ (by omega) (by omega)) (fun r hr j => hW _ _ (by omega) (by omega))
theorem fm40_nI {x : Int32} {j : Nat} (h : x.toInt = j) : fm40 x = j % 40 := by
  unfold fm40
  rw [h]
  omega
theorem RG.add {lg : Nat} {x y z : Int32} (h : RG V lg W o) (hb : (W o 15).toInt ≤ 2000000000) : RG (fX3_add lg x y z V) lg (fX5_send o ml x y z W) o := by
  obtain ⟨h1, h2, h3, h4⟩ := h
  have e15 : fX5_send o ml x y z W o 15 = W o 15 + nI 1 := by rw [send_eq, if_pos ⟨rfl, rfl⟩]
  have et : (W o 15 + nI 1).toInt = (W o 15).toInt + 1 := by
    rw [Int32.toInt_add, nI_toInt (by decide)]
    exact Int.bmod_eq_of_le (by omega) (by omega)
  obtain ⟨t, ht⟩ : ∃ t : Nat, (W o 15).toInt = t := ⟨(W o 15).toInt.toNat, by omega⟩
  have ef := fm40_nI ht
  refine ⟨?_, ?_, ?_, fun r hr j hj hj2 => ?_⟩
  · rw [add_eq, if_pos ⟨rfl, rfl⟩, e15, h1]
  · rw [add_eq, if_neg (by omega), if_neg (by omega), if_neg (by omega), if_neg (by omega), if_neg (by omega), h2, send_eq, if_neg (by omega), if_neg (by omega), if_neg (by omega), if_neg (by omega), if_neg (by omega)]
  · rw [e15, et]
    omega
  · rw [e15, et] at hj
    rw [add_eq, send_eq, h1, ef]
    have hcase : j = t % 40 ∨ (j : Int) < (W o 15).toInt := by omega
    by_cases hjt : j = t % 40
    · rcases (show r = 0 ∨ r = 1 ∨ r = 2 ∨ r = 3 by omega) with rfl | rfl | rfl | rfl
      · rw [if_neg (by omega), if_pos (show lg + 1 + 0 = lg + 1 ∧ j = t % 40 from ⟨rfl, hjt⟩), if_neg (by omega), if_pos (show o + 13 + 0 = o + 13 ∧ j = t % 40 from ⟨rfl, hjt⟩)]
      · rw [if_neg (by omega), if_neg (by omega), if_pos (show lg + 1 + 1 = lg + 2 ∧ j = t % 40 from ⟨rfl, hjt⟩), if_neg (by omega), if_neg (by omega), if_pos (show o + 13 + 1 = o + 14 ∧ j = t % 40 from ⟨rfl, hjt⟩)]
      · rw [if_neg (by omega), if_neg (by omega), if_neg (by omega), if_pos (show lg + 1 + 2 = lg + 3 ∧ j = t % 40 from ⟨rfl, hjt⟩), if_neg (by omega), if_neg (by omega), if_neg (by omega), if_pos (show o + 13 + 2 = o + 15 ∧ j = t % 40 from ⟨rfl, hjt⟩)]
      · rw [if_neg (by omega), if_neg (by omega), if_neg (by omega), if_neg (by omega), if_pos (show lg + 1 + 3 = lg + 4 ∧ j = t % 40 from ⟨rfl, hjt⟩), if_neg (by omega), if_neg (by omega), if_neg (by omega), if_neg (by omega), if_pos (show o + 13 + 3 = o + 16 ∧ j = t % 40 from ⟨rfl, hjt⟩), h2]
    · rw [if_neg (by omega), if_neg (by omega), if_neg (by omega), if_neg (by omega), if_neg (by omega), if_neg (by omega), if_neg (by omega), if_neg (by omega), if_neg (by omega), if_neg (by omega)]
      exact h4 r hr j (by omega) hj2
theorem add_f {lg : Nat} {x y z : Int32} {j : Nat} (h : j < lg ∨ lg + 5 ≤ j) : fX3_add lg x y z V j = V j := by
  funext q
  rw [add_eq, if_neg (by omega), if_neg (by omega), if_neg (by omega), if_neg (by omega), if_neg (by omega)]
theorem send_f {x y z : Int32} {j q : Nat} (h : j < o + 13) (h2 : j ≠ o ∨ q ≠ 15) : fX5_send o ml x y z W j q = W j q := by
  rw [send_eq, if_neg (by omega), if_neg (by omega), if_neg (by omega), if_neg (by omega), if_neg (by omega)]
theorem Rel.log {x y z : Int32} (h : Rel V W X many o) (hb : (W o 15).toInt ≤ 2000000000) : Rel (fX3_add (X + 2 + 37 * many) x y z V) (fX5_send o ml x y z W) X many o := by
  refine ⟨fun l2 hl2 g2 hg2 => ?_, fun l2 hl2 => ?_, fun l2 hl2 m hm g2 hg2 => ?_, h.2.2.2.add hb⟩
  · exact (h.1 l2 hl2 g2 hg2).cg (add_f (by omega)) (add_f (by omega)) (send_f (by omega) (by omega)) (send_f (by omega) (by omega)) (fun s hs => send_f (by omega) (by omega)) (fun s hs => send_f (by omega) (by omega))
  · exact (h.2.1 l2 hl2).cg (add_f (by omega)) (fun r h1 h2 => send_f (by omega) (by omega))
  · exact (h.2.2.1 l2 hl2 m hm g2 hg2).cg (congrFun (add_f (by omega)) _) (congrFun (add_f (by omega)) _) (send_f (by omega) (by omega)) (send_f (by omega) (by omega))
theorem RLk.asks {B : Nat} (h : RLk V B W o l) : vX1_asks B V = 0 ↔ vX5_asks o ml l W = 0 := by
  obtain ⟨-, -, -, -, -, -, ⟨c, hc1, hc2, hc⟩, -, ha⟩ := h
  dsimp only [vX1_asks, vX5_asks]
  rcases ha with ⟨h1, h2, -⟩ | ⟨h1, h2⟩
  · rw [if_pos h1, if_pos (by rw [h2]; rfl)]
  · rw [if_neg h1, if_neg]
    rw [h2, hc]
    exact tmr.ne ⟨c, hc1, hc2, rfl⟩
theorem RLk.last {B : Nat} (h : RLk V B W o l) : tmr (V B 3) ∧ W (o + 1) l = V B 3 := by
  obtain ⟨-, h1, -, -, -, ⟨r, q, d, h2, h3, -, -, -, -, e, -⟩, -⟩ := h
  exact ⟨⟨r, h2, by omega, e⟩, h1⟩
theorem RLk.grace {B : Nat} (h : RLk V B W o l) : tmr (vX1_grace B V) ∧ vX5_grace o ml l W = vX1_grace B V := by
  obtain ⟨-, h1, h2, h3, -, ⟨r, q, d, r1, r2, q1, q2, d1, d2, e1, e2, e3⟩, -⟩ := h
  dsimp only [vX1_grace, vX5_grace]
  refine ⟨⟨r * q + d, by omega, ?_, ?_⟩, ?_⟩
  · have : r * q ≤ 7 * 200 := Nat.mul_le_mul r2 q2
    omega
  · rw [e1, e2, e3, pk_mul, nI_add]
  · rw [h1, h2, h3]
theorem gr_cg {at_ : Nat} (hW : rfr W W' o at_) : vX5_grace o ml l W' = vX5_grace o ml l W := by
  dsimp only [vX5_grace]
  rw [hW _ _ (by omega) (by omega), hW (o + 2) _ (by omega) (by omega), hW (o + 3) _ (by omega) (by omega)]
theorem Rel.ask {a : Int32} (h : Rel V W X many o) (hl : l < many) (hg : g < 8) (hS : SB W o b) (hb : b + 1 ≤ 2000000000) : Rel (fX1_askSources (X + 2 + 37 * l) (X + 2 + 37 * many) g a V) (fX5_ask o ml l g a W) X many o := by
  dsimp only [fX1_askSources, fX5_ask]
  by_cases ha : a = 0
  · rw [if_pos ha, if_pos ha]
    exact h
  · rw [if_neg ha, if_neg ha]
    have hk := h.2.1 l hl
    by_cases hq : vX1_asks (X + 2 + 37 * l) V = 0
    · rw [if_pos hq, if_pos (hk.asks.mp hq)]
      exact h
    · rw [if_neg hq, if_neg (fun e => hq (hk.asks.mpr e)), hk.1]
      have h1 := h.log (ml := ml) (x := nI l) (y := nI g) (z := a) (Int.le_trans hS.2 (by omega))
      obtain ⟨k1, k2⟩ := (h1.2.1 l hl).last
      exact h1.rec_ hl hg (fun j h2 h3 => low_f h3) rfr.lw ((h1.1 l hl g hg).low k1 k2)
theorem Rel.askG (h : Rel V W X many o) (hl : l < many) (hg : g < 8) (hS : SB W o b) (hb : b + 1 ≤ 2000000000) : Rel (fX1_askGroup (X + 2 + 37 * l) (X + 2 + 37 * many) g V) (fX5_askGroup o ml l g W) X many o := by
  dsimp only [fX1_askGroup, fX5_askGroup]
  have hk := h.2.1 l hl
  by_cases hq : vX1_asks (X + 2 + 37 * l) V = 0
  · rw [if_pos hq, if_pos (hk.asks.mp hq)]
    exact h
  · rw [if_neg hq, if_neg (fun e => hq (hk.asks.mpr e)), hk.1]
    have h1 := h.log (ml := ml) (x := nI l) (y := nI g) (z := nI 0) (Int.le_trans hS.2 (by omega))
    obtain ⟨k1, k2⟩ := (h1.2.1 l hl).last
    exact h1.rec_ hl hg (fun j h2 h3 => own_f h2) rfr.lg ((h1.1 l hl g hg).own k1 k2)
theorem Rel.allow0 {a : Int32} (h : Rel V W X many o) (hl : l < many) (hg : g < 8) (ha : S16 a) (h0 : V (X + 2 + 37 * l + 3 + 2 * g) 1 = 0) (W1 : q_V) (e1 : W1 = fX5_become_0 o ml (8 * l + g) (vX5_setOf_1 o ml (8 * l + g) W ||| a) (nI 0) W) : Rel (fX0_allow (X + 2 + 37 * l + 3 + 2 * g) a (vX1_grace (X + 2 + 37 * l) V) V) (fX5_setTimers o ml (8 * l + g) a (vX5_grace o ml l W1) W1) X many o := by
  have hr := h.1 l hl g hg
  obtain ⟨k1, k2⟩ := (h.2.1 l hl).grace (ml := ml)
  have hw : rfr W W1 o (8 * l + g) := by rw [e1]; exact rfr.b0
  rw [gr_cg hw, k2]
  refine h.rec_ hl hg (fun j h2 h3 => allow_f h2 h3) (hw.tr rfr.st) ?_
  rw [e1, hr.s1]
  exact hr.allow0 ha k1 h0
theorem Rel.allow1 {a : Int32} (h : Rel V W X many o) (hl : l < many) (hg : g < 8) (ha : S16 a) (h0 : ¬ V (X + 2 + 37 * l + 3 + 2 * g) 1 = 0) (W1 : q_V) (e1 : W1 = fX5_become_1 o ml (8 * l + g) (vX5_setOf_1 o ml (8 * l + g) W ||| a) (vX5_setOf_2 o ml (8 * l + g) W &&& (a ^^^ (-1))) W) : Rel (fX0_allow (X + 2 + 37 * l + 3 + 2 * g) a (vX1_grace (X + 2 + 37 * l) V) V) (fX5_setTimers o ml (8 * l + g) a (vX5_grace o ml l W1) W1) X many o := by
  have hr := h.1 l hl g hg
  obtain ⟨k1, k2⟩ := (h.2.1 l hl).grace (ml := ml)
  have hw : rfr W W1 o (8 * l + g) := by rw [e1]; exact rfr.b1
  rw [gr_cg hw, k2]
  refine h.rec_ hl hg (fun j h2 h3 => allow_f h2 h3) (hw.tr rfr.st) ?_
  rw [e1, hr.s1, hr.s2]
  exact hr.allow1 ha k1 h0
theorem Rel.excl0 {a x : Int32} (h : Rel V W X many o) (hl : l < many) (hg : g < 8) (ha : S16 a) (h0 : V (X + 2 + 37 * l + 3 + 2 * g) 1 = 0) (W1 : q_V) (e1 : W1 = fX5_become_1 o ml (8 * l + g) (vX5_setOf_1 o ml (8 * l + g) W &&& a) (a &&& (vX5_setOf_1 o ml (8 * l + g) W ^^^ (-1))) W) : Rel (fX0_exclude (X + 2 + 37 * l + 3 + 2 * g) a x (vX1_grace (X + 2 + 37 * l) V) V) (vset W1 (o + 8) (8 * l + g) (vX5_grace o ml l W1)) X many o := by
  have hr := h.1 l hl g hg
  obtain ⟨k1, k2⟩ := (h.2.1 l hl).grace (ml := ml)
  have hw : rfr W W1 o (8 * l + g) := by rw [e1]; exact rfr.b1
  rw [gr_cg hw, k2]
  refine h.rec_ hl hg (fun j h2 h3 => excl_f h2 h3) (hw.tr rfr.g8) ?_
  rw [e1, hr.s1]
  exact hr.excl0 ha k1 h0
theorem Rel.excl1 {a x : Int32} (h : Rel V W X many o) (hl : l < many) (hg : g < 8) (ha : S16 a) (hx : tmr x) (h0 : ¬ V (X + 2 + 37 * l + 3 + 2 * g) 1 = 0) (W1 W2 : q_V) (e1 : W1 = fX5_become_1 o ml (8 * l + g) (a &&& (vX5_setOf_2 o ml (8 * l + g) W ^^^ (-1))) (vX5_setOf_2 o ml (8 * l + g) W &&& a) W) (e2 : W2 = fX5_setTimers o ml (8 * l + g) ((a &&& (vX5_setOf_1 o ml (8 * l + g) W ^^^ (-1))) &&& (vX5_setOf_2 o ml (8 * l + g) W ^^^ (-1))) x W1) : Rel (fX0_exclude (X + 2 + 37 * l + 3 + 2 * g) a x (vX1_grace (X + 2 + 37 * l) V) V) (vset W2 (o + 8) (8 * l + g) (vX5_grace o ml l W2)) X many o := by
  have hr := h.1 l hl g hg
  obtain ⟨k1, k2⟩ := (h.2.1 l hl).grace (ml := ml)
  have hw : rfr W W1 o (8 * l + g) := by rw [e1]; exact rfr.b1
  have hw2 : rfr W W2 o (8 * l + g) := by rw [e2]; exact hw.tr rfr.st
  rw [gr_cg hw2, k2]
  refine h.rec_ hl hg (fun j h2 h3 => excl_f h2 h3) (hw2.tr rfr.g8) ?_
  rw [e2, e1, hr.s1, hr.s2]
  exact hr.excl1 ha hx k1 h0
theorem Rel.block1 {a : Int32} (h : Rel V W X many o) (hl : l < many) (hg : g < 8) (ha : S16 a) (h0 : ¬ V (X + 2 + 37 * l + 3 + 2 * g) 1 = 0) : Rel (fX0_block (X + 2 + 37 * l + 3 + 2 * g) a V) (fX5_setTimers o ml (8 * l + g) ((a &&& (vX5_setOf_1 o ml (8 * l + g) W ^^^ (-1))) &&& (vX5_setOf_2 o ml (8 * l + g) W ^^^ (-1))) (W (o + 8) (8 * l + g)) (fX5_become_1 o ml (8 * l + g) (vX5_setOf_1 o ml (8 * l + g) W ||| (a &&& (vX5_setOf_2 o ml (8 * l + g) W ^^^ (-1)))) (vX5_setOf_2 o ml (8 * l + g) W) W)) X many o := by
  have hr := h.1 l hl g hg
  refine h.rec_ hl hg (fun j h2 h3 => block_f h2 h3) (rfr.b1.tr rfr.st) ?_
  rw [hr.s1, hr.s2, hr.g]
  exact hr.block1 ha h0
end REL

