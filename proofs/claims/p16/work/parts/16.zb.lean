/-! ===== ticks: a record ===== -/
def tkB (o at_ : Nat) : Nat → Int32 × q_V → Int32 × q_V := fun k s => if s.2 (o + 10) (16 * at_ + k) = nI 1 then (if s.2 (o + 10) (16 * at_ + k) ≤ 0 then (s.1 + nI 1 <<< (nI k &&& 31), vset s.2 (o + 10) (16 * at_ + k) (nI 0)) else (s.1 + nI 1 <<< (nI k &&& 31), vset s.2 (o + 10) (16 * at_ + k) (s.2 (o + 10) (16 * at_ + k) - nI 1))) else (if s.2 (o + 10) (16 * at_ + k) ≤ 0 then (s.1, vset s.2 (o + 10) (16 * at_ + k) (nI 0)) else (s.1, vset s.2 (o + 10) (16 * at_ + k) (s.2 (o + 10) (16 * at_ + k) - nI 1)))
def tkE (o ml at_ : Nat) (over : Prop) (hd : Decidable over) (T : Int32 × q_V) : q_V := if T.2 (o + 7) at_ = -1 then T.2 else if T.2 (o + 7) at_ = nI 1 ∧ ¬ over then fX5_become_1 o ml at_ (vX5_setOf_1 o ml at_ T.2 &&& (T.1 ^^^ (-1))) (vX5_setOf_2 o ml at_ T.2 ||| T.1) T.2 else fX5_become_0 o ml at_ (vX5_setOf_1 o ml at_ T.2 &&& (T.1 ^^^ (-1))) (nI 0) T.2
def tkG (x : Int32) : Int32 := if x ≤ 0 then nI 0 else x - nI 1
def tkF0 (o ml at_ : Nat) (T : Int32 × q_V) : q_V := if T.2 (o + 7) at_ = -1 then T.2 else if T.2 (o + 7) at_ = nI 1 then fX5_become_0 o ml at_ (vX5_setOf_1 o ml at_ T.2 &&& (T.1 ^^^ (-1))) (nI 0) T.2 else fX5_become_0 o ml at_ (vX5_setOf_1 o ml at_ T.2 &&& (T.1 ^^^ (-1))) (nI 0) T.2
def tkF1 (o ml at_ : Nat) (T : Int32 × q_V) : q_V := if T.2 (o + 7) at_ = -1 then T.2 else if T.2 (o + 7) at_ = nI 1 then fX5_become_1 o ml at_ (vX5_setOf_1 o ml at_ T.2 &&& (T.1 ^^^ (-1))) (vX5_setOf_2 o ml at_ T.2 ||| T.1) T.2 else fX5_become_0 o ml at_ (vX5_setOf_1 o ml at_ T.2 &&& (T.1 ^^^ (-1))) (nI 0) T.2
theorem tk_raw {o ml at_ : Nat} {W : q_V} : fX5_tickRecord o ml at_ W = if W (o + 8) at_ = nI 1 then (if W (o + 8) at_ ≤ 0 then tkF0 o ml at_ (lp (tkB o at_) 16 0 (nI 0, vset W (o + 8) at_ (nI 0))) else tkF0 o ml at_ (lp (tkB o at_) 16 0 (nI 0, vset W (o + 8) at_ (W (o + 8) at_ - nI 1)))) else (if W (o + 8) at_ ≤ 0 then tkF1 o ml at_ (lp (tkB o at_) 16 0 (nI 0, vset W (o + 8) at_ (nI 0))) else tkF1 o ml at_ (lp (tkB o at_) 16 0 (nI 0, vset W (o + 8) at_ (W (o + 8) at_ - nI 1)))) := by
  have eB : (fun (k : Nat) (s : Int32 × q_V) => if s.2 (o + 10) (16 * at_ + k) = nI 1 then (if s.2 (o + 10) (16 * at_ + k) ≤ 0 then (s.1 + nI 1 <<< (nI k &&& 31), vset s.2 (o + 10) (16 * at_ + k) (nI 0)) else (s.1 + nI 1 <<< (nI k &&& 31), vset s.2 (o + 10) (16 * at_ + k) (s.2 (o + 10) (16 * at_ + k) - nI 1))) else (if s.2 (o + 10) (16 * at_ + k) ≤ 0 then (s.1, vset s.2 (o + 10) (16 * at_ + k) (nI 0)) else (s.1, vset s.2 (o + 10) (16 * at_ + k) (s.2 (o + 10) (16 * at_ + k) - nI 1)))) = tkB o at_ := rfl
  dsimp only [fX5_tickRecord]
  rw [eB]
  generalize tkB o at_ = B
  generalize lp B 16 0 (nI 0, vset W (o + 8) at_ (nI 0)) = T1
  generalize lp B 16 0 (nI 0, vset W (o + 8) at_ (W (o + 8) at_ - nI 1)) = T2
  rfl
theorem tk_eq {o ml at_ : Nat} {W : q_V} : fX5_tickRecord o ml at_ W = tkE o ml at_ (W (o + 8) at_ = nI 1) inferInstance (lp (tkB o at_) 16 0 (nI 0, vset W (o + 8) at_ (tkG (W (o + 8) at_)))) := by
  have h0 : ∀ (x : Int32) (h1 : x = nI 1) (T : Int32 × q_V), tkF0 o ml at_ T = tkE o ml at_ (x = nI 1) inferInstance T := fun x h1 T => by
    unfold tkF0 tkE
    rw [if_neg (fun e : T.2 (o + 7) at_ = nI 1 ∧ ¬ x = nI 1 => e.2 h1)]
    split
    · rfl
    · split <;> rfl
  have h9 : ∀ (x : Int32) (h1 : ¬ x = nI 1) (T : Int32 × q_V), tkF1 o ml at_ T = tkE o ml at_ (x = nI 1) inferInstance T := fun x h1 T => by
    unfold tkF1 tkE
    by_cases h4 : T.2 (o + 7) at_ = nI 1
    · rw [if_pos h4, if_pos (show T.2 (o + 7) at_ = nI 1 ∧ ¬ x = nI 1 from ⟨h4, h1⟩)]
    · rw [if_neg h4, if_neg (show ¬ (T.2 (o + 7) at_ = nI 1 ∧ ¬ x = nI 1) from fun e => h4 e.1)]
  rw [tk_raw]
  unfold tkG
  by_cases h1 : W (o + 8) at_ = nI 1
  · rw [if_pos h1]
    by_cases h2 : W (o + 8) at_ ≤ 0
    · rw [if_pos h2, if_pos h2]
      exact h0 _ h1 _
    · rw [if_neg h2, if_neg h2]
      exact h0 _ h1 _
  · rw [if_neg h1]
    by_cases h2 : W (o + 8) at_ ≤ 0
    · rw [if_pos h2, if_pos h2]
      exact h9 _ h1 _
    · rw [if_neg h2, if_neg h2]
      exact h9 _ h1 _
theorem tkB_2 {o at_ k : Nat} {s : Int32 × q_V} : (tkB o at_ k s).2 = vset s.2 (o + 10) (16 * at_ + k) (tkG (s.2 (o + 10) (16 * at_ + k))) := by
  unfold tkB tkG
  split <;> split <;> rfl
theorem tkB_1 {o at_ k : Nat} {s : Int32 × q_V} : (tkB o at_ k s).1 = if s.2 (o + 10) (16 * at_ + k) = nI 1 then s.1 + nI 1 <<< (nI k &&& 31) else s.1 := by
  unfold tkB
  split <;> split <;> rfl
theorem tk_b2 {o at_ k : Nat} {W : q_V} {r j : Nat} : vset W (o + 10) (16 * at_ + k) (tkG (W (o + 10) (16 * at_ + k))) r j = if j = 16 * at_ + k then (if r = o + 10 then tkG (W r j) else W r j) else W r j := by
  rw [vq]
  by_cases h1 : r = o + 10
  · by_cases h2 : j = 16 * at_ + k
    · rw [if_pos ⟨h1, h2⟩, if_pos h2, if_pos h1, h1, h2]
    · rw [if_neg (fun e => h2 e.2), if_neg h2]
  · rw [if_neg (fun e => h1 e.1), if_neg h1]
    split <;> rfl
theorem tkL_2 {o at_ : Nat} {W : q_V} {x : Int32} {r j : Nat} : (lp (tkB o at_) 16 0 (x, W)).2 r j = if r = o + 10 ∧ 16 * at_ ≤ j ∧ j < 16 * at_ + 16 then tkG (W r j) else W r j := by
  rw [lp_pair2 (B2 := fun k W => vset W (o + 10) (16 * at_ + k) (tkG (W (o + 10) (16 * at_ + k)))) (fun k s => tkB_2), lp_at16 (c := 16 * at_) (G := fun _ r y => if r = o + 10 then tkG y else y) (fun k W r j => tk_b2)]
  by_cases h : 16 * at_ ≤ j ∧ j < 16 * at_ + 16
  · rw [if_pos h]
    by_cases h1 : r = o + 10
    · rw [if_pos h1, if_pos ⟨h1, h⟩]
    · rw [if_neg h1, if_neg (fun e => h1 e.1)]
  · rw [if_neg h, if_neg (fun e => h e.2)]
theorem tkL_1 {o at_ : Nat} {W : q_V} : (lp (tkB o at_) 16 0 (nI 0, W)).1 = lp (fun k g => if W (o + 10) (16 * at_ + k) = nI 1 then g + nI 1 <<< (nI k &&& 31) else g) 16 0 (nI 0) :=
  lp_pair1 (a := o + 10) (c := 16 * at_) (B1 := fun k g y => if y = nI 1 then g + nI 1 <<< (nI k &&& 31) else g) (B2 := fun k W => vset W (o + 10) (16 * at_ + k) (tkG (W (o + 10) (16 * at_ + k)))) (G := fun _ r y => if r = o + 10 then tkG y else y) (fun k W r j => tk_b2) (fun k s => tkB_2) (fun k s => tkB_1) 16 0 (nI 0, W)
theorem tkG_nI {t : Nat} (ht : t ≤ 2000) : tkG (nI t) = nI (t - 1) := by
  unfold tkG
  by_cases h : nI t ≤ 0
  · rw [if_pos h]
    rw [Int32.le_iff_toInt_le, nI_toInt (by omega), Int32.toInt_zero] at h
    rw [show t - 1 = 0 by omega]
  · rw [if_neg h]
    rw [Int32.le_iff_toInt_le, nI_toInt (by omega), Int32.toInt_zero] at h
    rw [pk_sub (by omega)]
theorem nI_inj {a b : Nat} (ha : a < 2 ^ 31) (hb : b < 2 ^ 31) (h : nI a = nI b) : a = b := by
  have e := congrArg Int32.toInt h
  rw [nI_toInt ha, nI_toInt hb] at e
  omega
/-- the reference's record k ticks on: w the group's timer at first, t those of the sources, y what was stopped -/
def RK (w : Nat) (t : Nat → Nat) (y : Nat → Prop) (W : q_V) (o at_ k : Nat) : Prop := W (o + 8) at_ = nI (w - k) ∧ (∀ s, s < 16 → W (o + 10) (16 * at_ + s) = nI (t s - k)) ∧ ((k < w ∧ W (o + 7) at_ = nI 1) ∨ (¬ k < w ∧ (∃ s, s < 16 ∧ k < t s) ∧ W (o + 7) at_ = nI 0) ∨ (¬ k < w ∧ (∀ s, s < 16 → ¬ k < t s) ∧ W (o + 7) at_ = -1)) ∧ ∀ s, s < 16 → (k < t s ∧ W (o + 9) (16 * at_ + s) = nI 1) ∨ (¬ k < t s ∧ k < w ∧ (y s ∨ 0 < t s) ∧ W (o + 9) (16 * at_ + s) = nI 2) ∨ (¬ k < t s ∧ ¬ (k < w ∧ (y s ∨ 0 < t s)) ∧ W (o + 9) (16 * at_ + s) = nI 0)
theorem RK.step {w : Nat} {t : Nat → Nat} {y : Nat → Prop} {W : q_V} {o ml at_ k : Nat} (hw : w ≤ 2000) (ht : ∀ s, t s ≤ 2000) (h : RK w t y W o at_ k) : RK w t y (fX5_tickRecord o ml at_ W) o at_ (k + 1) := by
  obtain ⟨hg, hT, hm, hp⟩ := h
  rw [tk_eq]
  have e8 : tkG (W (o + 8) at_) = nI (w - (k + 1)) := by
    rw [hg, tkG_nI (by omega), show w - k - 1 = w - (k + 1) by omega]
  rw [e8]
  generalize hW1 : vset W (o + 8) at_ (nI (w - (k + 1))) = W1
  have f8 : W1 (o + 8) at_ = nI (w - (k + 1)) := by rw [← hW1, vs_at]
  have f7 : W1 (o + 7) at_ = W (o + 7) at_ := by rw [← hW1, vs_nr (by omega)]
  have f9 : ∀ q, W1 (o + 9) q = W (o + 9) q := fun q => by rw [← hW1, vs_nr (by omega)]
  have f10 : ∀ q, W1 (o + 10) q = W (o + 10) q := fun q => by rw [← hW1, vs_nr (by omega)]
  have hout := tkL_1 (o := o) (at_ := at_) (W := W1)
  have h2 : ∀ r j, (lp (tkB o at_) 16 0 (nI 0, W1)).2 r j = if r = o + 10 ∧ 16 * at_ ≤ j ∧ j < 16 * at_ + 16 then tkG (W1 r j) else W1 r j := fun r j => tkL_2
  obtain ⟨so, bo⟩ := sum_set (P := fun s => t s = k + 1) (G := fun k g => if W1 (o + 10) (16 * at_ + k) = nI 1 then g + nI 1 <<< (nI k &&& 31) else g) (fun s g hs q => by
    refine if_pos ?_
    rw [f10, hT s hs, q, show k + 1 - k = 1 by omega]) (fun s g hs q => by
    refine if_neg fun e => ?_
    rw [f10, hT s hs] at e
    have := ht s
    have := nI_inj (by omega) (by decide) e
    omega)
  rw [← hout] at so bo
  generalize hL : lp (tkB o at_) 16 0 (nI 0, W1) = L at so bo h2 ⊢
  have g7 : L.2 (o + 7) at_ = W (o + 7) at_ := by rw [h2, if_neg (by omega), f7]
  have g8 : L.2 (o + 8) at_ = nI (w - (k + 1)) := by rw [h2, if_neg (by omega), f8]
  have g9 : ∀ s, s < 16 → L.2 (o + 9) (16 * at_ + s) = W (o + 9) (16 * at_ + s) := fun s hs => by rw [h2, if_neg (by omega), f9]
  have g10 : ∀ s, s < 16 → L.2 (o + 10) (16 * at_ + s) = nI (t s - (k + 1)) := fun s hs => by
    have := ht s
    rw [h2, if_pos ⟨rfl, by omega, by omega⟩, f10, hT s hs, tkG_nI (by omega), show t s - k - 1 = t s - (k + 1) by omega]
  obtain ⟨s1, b1⟩ := sum_set (P := fun s => k < t s) (G := fun k g => if L.2 (o + 9) (16 * at_ + k) = nI 1 then g + nI 1 <<< (nI k &&& 31) else g) (fun s g hs q => by
    refine if_pos ?_
    rw [g9 s hs]
    rcases hp s hs with ⟨-, e⟩ | ⟨e, -⟩ | ⟨e, -⟩
    · exact e
    · exact absurd q e
    · exact absurd q e) (fun s g hs q => by
    refine if_neg fun e => ?_
    rw [g9 s hs] at e
    rcases hp s hs with ⟨c, -⟩ | ⟨-, -, -, c⟩ | ⟨-, -, c⟩
    · exact q c
    · rw [c] at e
      exact absurd e (by decide)
    · rw [c] at e
      exact absurd e (by decide))
  obtain ⟨s2, b2⟩ := sum_set (P := fun s => ¬ k < t s ∧ k < w ∧ (y s ∨ 0 < t s)) (G := fun k g => if L.2 (o + 9) (16 * at_ + k) = nI 2 then g + nI 1 <<< (nI k &&& 31) else g) (fun s g hs q => by
    refine if_pos ?_
    rw [g9 s hs]
    rcases hp s hs with ⟨e, -⟩ | ⟨-, -, -, e⟩ | ⟨-, e, -⟩
    · exact absurd e q.1
    · exact e
    · exact absurd q.2 e) (fun s g hs q => by
    refine if_neg fun e => ?_
    rw [g9 s hs] at e
    rcases hp s hs with ⟨-, c⟩ | ⟨c1, c2, c3, -⟩ | ⟨-, -, c⟩
    · rw [c] at e
      exact absurd e (by decide)
    · exact q ⟨c1, c2, c3⟩
    · rw [c] at e
      exact absurd e (by decide))
  change S16 (vX5_setOf_1 o ml at_ L.2) at s1
  change ∀ s, s < 16 → (bt (vX5_setOf_1 o ml at_ L.2) s ↔ k < t s) at b1
  change S16 (vX5_setOf_2 o ml at_ L.2) at s2
  change ∀ s, s < 16 → (bt (vX5_setOf_2 o ml at_ L.2) s ↔ ¬ k < t s ∧ k < w ∧ (y s ∨ 0 < t s)) at b2
  unfold tkE
  generalize vX5_setOf_1 o ml at_ L.2 = x at s1 b1 ⊢
  generalize vX5_setOf_2 o ml at_ L.2 = z at s2 b2 ⊢
  have bx : ∀ s, s < 16 → (bt (x &&& (L.1 ^^^ (-1))) s ↔ k + 1 < t s) := fun s hs => by
    rw [bt_and hs, bt_not hs, b1 s hs, bo s hs]
    omega
  have hov : W (o + 8) at_ = nI 1 ↔ w = k + 1 := by
    rw [hg]
    constructor
    · intro e
      have := nI_inj (by omega) (by decide) e
      omega
    · intro e
      rw [e, show k + 1 - k = 1 by omega]
  by_cases hN : L.2 (o + 7) at_ = -1
  · rw [if_pos hN]
    have hN2 := hN
    rw [g7] at hN2
    obtain ⟨n1, n2⟩ : ¬ k < w ∧ ∀ s, s < 16 → ¬ k < t s := by
      rcases hm with ⟨-, c⟩ | ⟨-, -, c⟩ | ⟨c1, c2, -⟩
      · rw [c] at hN2
        exact absurd hN2 (by decide)
      · rw [c] at hN2
        exact absurd hN2 (by decide)
      · exact ⟨c1, c2⟩
    refine ⟨g8, g10, Or.inr (Or.inr ⟨by omega, fun s hs q => n2 s hs (by omega), hN⟩), fun s hs => Or.inr (Or.inr ⟨fun q => n2 s hs (by omega), fun q => n1 (by omega), ?_⟩)⟩
    rw [g9 s hs]
    rcases hp s hs with ⟨c, -⟩ | ⟨-, c, -⟩ | ⟨-, -, c⟩
    · exact absurd c (n2 s hs)
    · exact absurd c n1
    · exact c
  · rw [if_neg hN]
    by_cases h1 : L.2 (o + 7) at_ = nI 1 ∧ ¬ W (o + 8) at_ = nI 1
    · rw [if_pos h1]
      have hkw : k < w := by
        rw [g7] at h1
        rcases hm with ⟨c, -⟩ | ⟨-, -, c⟩ | ⟨-, -, c⟩
        · exact c
        · rw [c] at h1
          exact absurd h1.1 (by decide)
        · rw [c] at h1
          exact absurd h1.1 (by decide)
      have hk2 : k + 1 < w := by
        have : ¬ w = k + 1 := fun e => h1.2 (hov.mpr e)
        omega
      have e := bec1_e (W := L.2) (o := o) (ml := ml) (at_ := at_) (a := x &&& (L.1 ^^^ (-1))) (b := z ||| L.1)
      refine ⟨by rw [e.g, g8], fun s hs => ?_, Or.inl ⟨hk2, e.m⟩, fun s hs => ?_⟩
      · rw [e.t s hs]
        by_cases hb : k + 1 < t s
        · rw [if_pos ((bx s hs).mpr hb), g10 s hs]
        · rw [if_neg (fun q => hb ((bx s hs).mp q)), show t s - (k + 1) = 0 by omega]
      · rw [e.p s hs]
        unfold pl
        by_cases hb : k + 1 < t s
        · rw [if_pos ((bx s hs).mpr hb)]
          exact Or.inl ⟨hb, rfl⟩
        · rw [if_neg (fun q => hb ((bx s hs).mp q))]
          by_cases hc : y s ∨ 0 < t s
          · rw [if_pos]
            · exact Or.inr (Or.inl ⟨hb, hk2, hc, rfl⟩)
            · rw [bt_or hs, b2 s hs, bo s hs]
              by_cases hq : t s = k + 1
              · exact Or.inr hq
              · exact Or.inl ⟨by omega, hkw, hc⟩
          · rw [if_neg]
            · exact Or.inr (Or.inr ⟨hb, fun q => hc q.2, rfl⟩)
            · rw [bt_or hs, b2 s hs, bo s hs]
              rintro (q | q)
              · exact hc q.2.2
              · exact hc (Or.inr (by omega))
    · rw [if_neg h1]
      have hk2 : ¬ k + 1 < w := by
        intro q
        refine h1 ⟨?_, fun e => by have := hov.mp e; omega⟩
        rw [g7]
        rcases hm with ⟨-, c⟩ | ⟨c, -⟩ | ⟨c, -⟩
        · exact c
        · exact absurd (by omega) c
        · exact absurd (by omega) c
      have e := bec0_e (W := L.2) (o := o) (ml := ml) (at_ := at_) (a := x &&& (L.1 ^^^ (-1))) (b := nI 0)
      have sx : S16 (x &&& (L.1 ^^^ (-1))) := s1.and
      refine ⟨by rw [e.g, show w - (k + 1) = 0 by omega], fun s hs => ?_, ?_, fun s hs => ?_⟩
      · rw [e.t s hs]
        by_cases hb : k + 1 < t s
        · rw [if_pos ((bx s hs).mpr hb), g10 s hs]
        · rw [if_neg (fun q => hb ((bx s hs).mp q)), show t s - (k + 1) = 0 by omega]
      · by_cases hz : x &&& (L.1 ^^^ (-1)) = 0
        · refine Or.inr (Or.inr ⟨hk2, fun s hs q => ?_, by rw [e.m, if_pos hz]⟩)
          exact sx.eq0.mp hz s hs ((bx s hs).mpr q)
        · refine Or.inr (Or.inl ⟨hk2, ?_, by rw [e.m, if_neg hz]⟩)
          refine Classical.byContradiction fun hc => hz (sx.eq0.mpr fun s hs q => hc ⟨s, hs, (bx s hs).mp q⟩)
      · rw [e.p s hs]
        unfold pl
        by_cases hb : k + 1 < t s
        · rw [if_pos ((bx s hs).mpr hb)]
          exact Or.inl ⟨hb, rfl⟩
        · rw [if_neg (fun q => hb ((bx s hs).mp q)), if_neg (bt_0 hs)]
          exact Or.inr (Or.inr ⟨hb, fun q => hk2 q.1, rfl⟩)

