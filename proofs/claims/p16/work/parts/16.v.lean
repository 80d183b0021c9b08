/-! ===== the reference's loops, place by place ===== -/
theorem msetT_eq {o ml at_ : Nat} {a x : Int32} {W : q_V} {j q : Nat} : fX5_setTimers o ml at_ a x W j q = if (j = o + 10 ∧ 16 * at_ ≤ q ∧ q < 16 * at_ + 16) ∧ bt a (q - 16 * at_) then x else W j q := by
  dsimp only [fX5_setTimers]
  rw [lp_at16 (c := 16 * at_) (G := fun k b y => if b = o + 10 ∧ bt a k then x else y) (fun k W b j => ?_)]
  · by_cases h : 16 * at_ ≤ q ∧ q < 16 * at_ + 16
    · rw [if_pos h]
      by_cases h1 : j = o + 10 <;> simp [h, h1]
    · rw [if_neg h, if_neg (fun e => h e.1.2)]
  · by_cases h2 : j = 16 * at_ + k
    · rw [if_pos h2]
      by_cases hb : bt a k
      · rw [if_pos hb, vq]
        by_cases h1 : b = o + 10 <;> simp [h1, h2, hb]
      · rw [if_neg hb, vq]
        by_cases h1 : b = o + 10 <;> simp [h1, h2, hb]
    · rw [if_neg h2]
      split <;> rw [vq, if_neg (by omega)]
theorem mlow_eq {o ml l at_ : Nat} {a : Int32} {W : q_V} {j q : Nat} : fX5_lower o ml l at_ a W j q = if (j = o + 10 ∧ 16 * at_ ≤ q ∧ q < 16 * at_ + 16) ∧ bt a (q - 16 * at_) then (if W j q ≤ W (o + 1) l then W j q else W (o + 1) l) else W j q := by
  dsimp only [fX5_lower]
  generalize W (o + 1) l = x
  rw [lp_at16 (c := 16 * at_) (G := fun k b y => if b = o + 10 ∧ bt a k then (if y ≤ x then y else x) else y) (fun k W b j => ?_)]
  · by_cases h : 16 * at_ ≤ q ∧ q < 16 * at_ + 16
    · rw [if_pos h]
      by_cases h1 : j = o + 10 <;> simp [h, h1]
    · rw [if_neg h, if_neg (fun e => h e.1.2)]
  · by_cases h2 : j = 16 * at_ + k
    · rw [if_pos h2]
      by_cases hb : bt a k
      · rw [if_pos hb]
        by_cases h1 : b = o + 10
        · subst h1
          subst h2
          rw [if_pos (show o + 10 = o + 10 ∧ bt a k from ⟨rfl, hb⟩)]
          split <;> rw [vs_at]
        · rw [if_neg (show ¬ (b = o + 10 ∧ bt a k) from fun e => h1 e.1)]
          split <;> rw [vs_nr h1]
      · rw [if_neg hb, vq]
        by_cases h1 : b = o + 10 <;> simp [h1, h2, hb]
    · rw [if_neg h2]
      split
      · split <;> rw [vq, if_neg (by omega)]
      · rw [vq, if_neg (by omega)]
theorem mlowG_eq {o ml l at_ : Nat} {W : q_V} {j q : Nat} : fX5_lowerGroup o ml l at_ W j q = if j = o + 8 ∧ q = at_ then (if W j q ≤ W (o + 1) l then W j q else W (o + 1) l) else W j q := by
  dsimp only [fX5_lowerGroup]
  by_cases h : j = o + 8 ∧ q = at_
  · obtain ⟨rfl, rfl⟩ := h
    rw [if_pos (show o + 8 = o + 8 ∧ q = q from ⟨rfl, rfl⟩)]
    split <;> rw [vs_at]
  · rw [if_neg h]
    split <;> rw [vq, if_neg h]
def pl (a b : Int32) (s : Nat) : Int32 := if bt a s then nI 1 else if bt b s then nI 2 else nI 0
def becG (o : Nat) (a b : Int32) : Nat → Nat → Int32 → Int32 := fun k r y => if r = o + 9 then pl a b k else if r = o + 10 then (if bt a k then y else nI 0) else y
theorem bec_b {o at_ k : Nat} {a b : Int32} {W : q_V} {r j : Nat} : (if (((a) >>> ((nI k) &&& 31)) &&& (nI 1)) = (nI 1) then (vset (vset W (o + 9) ((16 * at_) + k) (nI 1)) (o + 10) ((16 * at_) + k) (vset W (o + 9) ((16 * at_) + k) (nI 1) (o + 10) ((16 * at_) + k))) else (if (((b) >>> ((nI k) &&& 31)) &&& (nI 1)) = (nI 1) then (vset (vset W (o + 9) ((16 * at_) + k) (nI 2)) (o + 10) ((16 * at_) + k) (nI 0)) else (vset (vset W (o + 9) ((16 * at_) + k) (nI 0)) (o + 10) ((16 * at_) + k) (nI 0)))) r j = if j = 16 * at_ + k then becG o a b k r (W r j) else W r j := by
  unfold becG pl
  by_cases h2 : j = 16 * at_ + k
  · subst h2
    rw [if_pos rfl]
    by_cases h9 : r = o + 9
    · subst h9
      rw [if_pos rfl]
      by_cases ha : bt a k
      · rw [if_pos ha, if_pos ha, vq, if_neg (by omega), vs_at]
      · rw [if_neg ha, if_neg ha]
        by_cases hb : bt b k
        · rw [if_pos hb, if_pos hb, vq, if_neg (by omega), vs_at]
        · rw [if_neg hb, if_neg hb, vq, if_neg (by omega), vs_at]
    · rw [if_neg h9]
      by_cases h10 : r = o + 10
      · subst h10
        rw [if_pos rfl]
        by_cases ha : bt a k
        · rw [if_pos ha, if_pos ha, vs_at, vs_nr (by omega)]
        · rw [if_neg ha, if_neg ha]
          by_cases hb : bt b k
          · rw [if_pos hb, vs_at]
          · rw [if_neg hb, vs_at]
      · rw [if_neg h10]
        split
        · rw [vs_nr h10, vs_nr h9]
        · split <;> rw [vs_nr h10, vs_nr h9]
  · rw [if_neg h2]
    split
    · rw [vs_nk h2, vs_nk h2]
    · split <;> rw [vs_nk h2, vs_nk h2]
theorem bec1_eq {o ml at_ : Nat} {a b : Int32} {W : q_V} {j q : Nat} : fX5_become_1 o ml at_ a b W j q = if j = o + 7 ∧ q = at_ then nI 1 else if (j = o + 9 ∨ j = o + 10) ∧ 16 * at_ ≤ q ∧ q < 16 * at_ + 16 then becG o a b (q - 16 * at_) j (W j q) else W j q := by
  dsimp only [fX5_become_1]
  have e : ∀ j q, lp (fun k191 W191 => (if (((a) >>> ((nI k191) &&& 31)) &&& (nI 1)) = (nI 1) then (vset (vset W191 (o + 9) ((16 * at_) + k191) (nI 1)) (o + 10) ((16 * at_) + k191) (vset W191 (o + 9) ((16 * at_) + k191) (nI 1) (o + 10) ((16 * at_) + k191))) else (if (((b) >>> ((nI k191) &&& 31)) &&& (nI 1)) = (nI 1) then (vset (vset W191 (o + 9) ((16 * at_) + k191) (nI 2)) (o + 10) ((16 * at_) + k191) (nI 0)) else (vset (vset W191 (o + 9) ((16 * at_) + k191) (nI 0)) (o + 10) ((16 * at_) + k191) (nI 0))))) 16 0 (vset W (o + 7) at_ (nI 1)) j q = if j = o + 7 ∧ q = at_ then nI 1 else if (j = o + 9 ∨ j = o + 10) ∧ 16 * at_ ≤ q ∧ q < 16 * at_ + 16 then becG o a b (q - 16 * at_) j (W j q) else W j q := fun j q => by
    rw [lp_at16 (c := 16 * at_) (G := becG o a b) (fun k W r j => bec_b)]
    by_cases h7 : j = o + 7
    · subst h7
      rw [if_neg (show ¬ ((o + 7 = o + 9 ∨ o + 7 = o + 10) ∧ 16 * at_ ≤ q ∧ q < 16 * at_ + 16) by omega), vq]
      split
      · unfold becG
        rw [if_neg (by omega), if_neg (by omega)]
      · rfl
    · rw [if_neg (show ¬ (j = o + 7 ∧ q = at_) from fun e => h7 e.1), vs_nr h7]
      by_cases h : 16 * at_ ≤ q ∧ q < 16 * at_ + 16
      · rw [if_pos h]
        by_cases h9 : j = o + 9 ∨ j = o + 10
        · rw [if_pos ⟨h9, h⟩]
        · rw [if_neg (fun e => h9 e.1)]
          unfold becG
          rw [if_neg (fun e => h9 (Or.inl e)), if_neg (fun e => h9 (Or.inr e))]
      · rw [if_neg h, if_neg (fun e => h e.2)]
  rw [vq]
  by_cases h8 : j = o + 8 ∧ q = at_
  · rw [if_pos h8, h8.1, h8.2]
    exact e (o + 8) at_
  · rw [if_neg h8]
    exact e j q
theorem bec0_eq {o ml at_ : Nat} {a b : Int32} {W : q_V} {j q : Nat} : fX5_become_0 o ml at_ a b W j q = if j = o + 7 ∧ q = at_ then (if a = 0 then -1 else nI 0) else if j = o + 8 ∧ q = at_ then nI 0 else if (j = o + 9 ∨ j = o + 10) ∧ 16 * at_ ≤ q ∧ q < 16 * at_ + 16 then becG o a b (q - 16 * at_) j (W j q) else W j q := by
  dsimp only [fX5_become_0]
  have e : ∀ j q, lp (fun k176 W176 => (if (((a) >>> ((nI k176) &&& 31)) &&& (nI 1)) = (nI 1) then (vset (vset W176 (o + 9) ((16 * at_) + k176) (nI 1)) (o + 10) ((16 * at_) + k176) (vset W176 (o + 9) ((16 * at_) + k176) (nI 1) (o + 10) ((16 * at_) + k176))) else (if (((b) >>> ((nI k176) &&& 31)) &&& (nI 1)) = (nI 1) then (vset (vset W176 (o + 9) ((16 * at_) + k176) (nI 2)) (o + 10) ((16 * at_) + k176) (nI 0)) else (vset (vset W176 (o + 9) ((16 * at_) + k176) (nI 0)) (o + 10) ((16 * at_) + k176) (nI 0))))) 16 0 (vset W (o + 7) at_ (nI 0)) j q = if j = o + 7 ∧ q = at_ then nI 0 else if (j = o + 9 ∨ j = o + 10) ∧ 16 * at_ ≤ q ∧ q < 16 * at_ + 16 then becG o a b (q - 16 * at_) j (W j q) else W j q := fun j q => by
    rw [lp_at16 (c := 16 * at_) (G := becG o a b) (fun k W r j => bec_b)]
    by_cases h7 : j = o + 7
    · subst h7
      rw [if_neg (show ¬ ((o + 7 = o + 9 ∨ o + 7 = o + 10) ∧ 16 * at_ ≤ q ∧ q < 16 * at_ + 16) by omega), vq]
      split
      · unfold becG
        rw [if_neg (by omega), if_neg (by omega)]
      · rfl
    · rw [if_neg (show ¬ (j = o + 7 ∧ q = at_) from fun e => h7 e.1), vs_nr h7]
      by_cases h : 16 * at_ ≤ q ∧ q < 16 * at_ + 16
      · rw [if_pos h]
        by_cases h9 : j = o + 9 ∨ j = o + 10
        · rw [if_pos ⟨h9, h⟩]
        · rw [if_neg (fun e => h9 e.1)]
          unfold becG
          rw [if_neg (fun e => h9 (Or.inl e)), if_neg (fun e => h9 (Or.inr e))]
      · rw [if_neg h, if_neg (fun e => h e.2)]
  by_cases ha : a = 0
  · rw [if_pos ha, if_pos ha, vq]
    by_cases h7 : j = o + 7 ∧ q = at_
    · rw [if_pos h7, if_pos h7]
    · rw [if_neg h7, if_neg h7, vq]
      by_cases h8 : j = o + 8 ∧ q = at_
      · rw [if_pos h8, if_pos h8]
      · rw [if_neg h8, if_neg h8, e, if_neg h7]
  · rw [if_neg ha, if_neg ha, vq]
    by_cases h8 : j = o + 8 ∧ q = at_
    · rw [if_pos h8, if_neg (by omega), if_pos h8]
    · rw [if_neg h8, if_neg h8]
      exact e j q
theorem send_eq {o ml : Nat} {x y z : Int32} {W : q_V} {j q : Nat} : fX5_send o ml x y z W j q = if j = o ∧ q = 15 then W o 15 + nI 1 else if j = o + 13 ∧ q = fm40 (W o 15) then x else if j = o + 14 ∧ q = fm40 (W o 15) then y else if j = o + 15 ∧ q = fm40 (W o 15) then z else if j = o + 16 ∧ q = fm40 (W o 15) then W o 14 else W j q := by
  dsimp only [fX5_send]
  simp only [vq]
  generalize fm40 (W o 15) = t
  by_cases h0 : j = o ∧ q = 15
  · simp [h0]
  · by_cases h13 : j = o + 13
    · subst h13; simp
    · by_cases h14 : j = o + 14
      · subst h14; simp
      · by_cases h15 : j = o + 15
        · subst h15; simp
        · by_cases h16 : j = o + 16
          · subst h16; simp
          · simp [h0, h13, h14, h15, h16]
theorem add_eq {lg : Nat} {x y z : Int32} {V : q_V} {j q : Nat} : fX3_add lg x y z V j q = if j = lg ∧ q = 4 then V lg 4 + nI 1 else if j = lg + 1 ∧ q = fm40 (V lg 4) then x else if j = lg + 2 ∧ q = fm40 (V lg 4) then y else if j = lg + 3 ∧ q = fm40 (V lg 4) then z else if j = lg + 4 ∧ q = fm40 (V lg 4) then V lg 5 else V j q := by
  dsimp only [fX3_add]
  simp only [vq]
  generalize fm40 (V lg 4) = t
  by_cases h0 : j = lg ∧ q = 4
  · simp [h0]
  · by_cases h13 : j = lg + 1
    · subst h13; simp
    · by_cases h14 : j = lg + 2
      · subst h14; simp
      · by_cases h15 : j = lg + 3
        · subst h15; simp
        · by_cases h16 : j = lg + 4
          · subst h16; simp
          · simp [h0, h13, h14, h15, h16]

