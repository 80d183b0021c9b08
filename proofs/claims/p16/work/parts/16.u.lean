/-! ===== what the loops do, place by place ===== -/
theorem vq {V : q_V} {i k j q : Nat} {x : Int32} : vset V i k x j q = if j = i ∧ q = k then x else V j q := by
  by_cases h : j = i ∧ q = k
  · rw [if_pos h, h.1, h.2, vs_at]
  · rw [if_neg h]
    refine vs_no ?_
    by_cases hj : j = i
    · exact Or.inr fun e => h ⟨hj, e⟩
    · exact Or.inl hj
theorem lp_at {B : Nat → q_V → q_V} {c : Nat} {G : Nat → Nat → Int32 → Int32} (hB : ∀ k W a j, B k W a j = if j = c + k then G k a (W a j) else W a j) : ∀ (d k : Nat) (W : q_V) (a j : Nat), lp B d k W a j = if c + k ≤ j ∧ j < c + k + d then G (j - c) a (W a j) else W a j := by
  intro d
  induction d with
  | zero =>
    intro k W a j
    rw [if_neg (by omega)]
    rfl
  | succ d ih =>
    intro k W a j
    show lp B d (k + 1) (B k W) a j = _
    rw [ih (k + 1) (B k W) a j, hB k W a j]
    by_cases h : j = c + k
    · subst h
      rw [if_neg (by omega), if_pos rfl, if_pos (by omega), show c + k - c = k by omega]
    · rw [if_neg h]
      by_cases h2 : c + k ≤ j ∧ j < c + k + (d + 1)
      · rw [if_pos h2, if_pos (by omega)]
      · rw [if_neg h2, if_neg (by omega)]
theorem lp_at16 {B : Nat → q_V → q_V} {c : Nat} {G : Nat → Nat → Int32 → Int32} (hB : ∀ k W a j, B k W a j = if j = c + k then G k a (W a j) else W a j) {W : q_V} {a j : Nat} : lp B 16 0 W a j = if c ≤ j ∧ j < c + 16 then G (j - c) a (W a j) else W a j := by
  rw [lp_at hB 16 0 W a j]
  rfl
theorem lp_pair2 {B : Nat → Int32 × q_V → Int32 × q_V} {B2 : Nat → q_V → q_V} (h2 : ∀ k s, (B k s).2 = B2 k s.2) : ∀ (d k : Nat) (s : Int32 × q_V), (lp B d k s).2 = lp B2 d k s.2 := by
  intro d
  induction d with
  | zero => intro k s; rfl
  | succ d ih =>
    intro k s
    show (lp B d (k + 1) (B k s)).2 = lp B2 d (k + 1) (B2 k s.2)
    rw [ih, h2]
theorem lp_cg {σ : Type} {B B' : Nat → σ → σ} : ∀ (d k : Nat) (s : σ), (∀ k2 s, k ≤ k2 → k2 < k + d → B k2 s = B' k2 s) → lp B d k s = lp B' d k s := by
  intro d
  induction d with
  | zero => intro k s _; rfl
  | succ d ih =>
    intro k s h
    show lp B d (k + 1) (B k s) = lp B' d (k + 1) (B' k s)
    rw [h k s (by omega) (by omega), ih (k + 1) _ (fun k2 s h1 h2 => h k2 s (by omega) (by omega))]
theorem lp_pair1 {B : Nat → Int32 × q_V → Int32 × q_V} {B2 : Nat → q_V → q_V} {a c : Nat} {B1 : Nat → Int32 → Int32 → Int32} {G : Nat → Nat → Int32 → Int32} (hB : ∀ k W a j, B2 k W a j = if j = c + k then G k a (W a j) else W a j) (h2 : ∀ k s, (B k s).2 = B2 k s.2) (h1 : ∀ k s, (B k s).1 = B1 k s.1 (s.2 a (c + k))) : ∀ (d k : Nat) (s : Int32 × q_V), (lp B d k s).1 = lp (fun k g => B1 k g (s.2 a (c + k))) d k s.1 := by
  intro d
  induction d with
  | zero => intro k s; rfl
  | succ d ih =>
    intro k s
    show (lp B d (k + 1) (B k s)).1 = lp (fun k g => B1 k g (s.2 a (c + k))) d (k + 1) (B1 k s.1 (s.2 a (c + k)))
    rw [ih, h1]
    refine lp_cg d (k + 1) _ fun k2 g h3 h4 => ?_
    show B1 k2 g ((B k s).2 a (c + k2)) = B1 k2 g (s.2 a (c + k2))
    rw [h2, hB, if_neg (by omega)]
theorem setT_eq {i : Nat} {a x : Int32} {V : q_V} {j q : Nat} : fX0_setTimers i a x V j q = if (j = i + 1 ∧ q < 16) ∧ bt a q then x else V j q := by
  dsimp only [fX0_setTimers]
  rw [lp_at16 (c := 0) (G := fun k b y => if b = i + 1 ∧ bt a k then x else y) (fun k W b j => ?_)]
  · by_cases h : q < 16
    · rw [if_pos (by omega)]
      by_cases h1 : j = i + 1 <;> simp [h, h1]
    · rw [if_neg (by omega), if_neg (by omega)]
  · try dsimp only
    by_cases hb : bt a k
    · rw [if_neg (fun e => hd_iff.mp e hb), vq]
      by_cases h1 : b = i + 1 <;> by_cases h2 : j = 0 + k <;> simp_all
    · rw [if_pos (hd_iff.mpr hb)]
      by_cases h2 : j = 0 + k <;> simp_all
theorem lowT_eq {i : Nat} {a x : Int32} {V : q_V} {j q : Nat} : fX0_lowerTimers i a x V j q = if (j = i + 1 ∧ q < 16) ∧ bt a q then (if x < V j q then x else V j q) else V j q := by
  dsimp only [fX0_lowerTimers]
  rw [lp_at16 (c := 0) (G := fun k b y => if b = i + 1 ∧ bt a k then (if x < y then x else y) else y) (fun k W b j => ?_)]
  · by_cases h : q < 16
    · rw [if_pos (by omega)]
      by_cases h1 : j = i + 1 <;> simp [h, h1]
    · rw [if_neg (by omega), if_neg (by omega)]
  · try dsimp only
    by_cases hb : bt a k
    · rw [if_neg (fun e => hd_iff.mp e hb), vq]
      dsimp only [vJ9_min_7cf53]
      by_cases h1 : b = i + 1 <;> by_cases h2 : j = 0 + k <;> simp_all
    · rw [if_pos (hd_iff.mpr hb)]
      by_cases h2 : j = 0 + k <;> simp_all
theorem include_eq {i : Nat} {V : q_V} {j q : Nat} : fX0_include i V j q = if j = i ∧ (q = 1 ∨ q = 3 ∨ q = 4) then nI 0 else V j q := by
  dsimp only [fX0_include]
  rw [vq, vq, vq]
  by_cases h : j = i
  · subst h
    by_cases h1 : q = 4
    · simp [h1]
    · by_cases h2 : q = 3
      · simp [h2]
      · by_cases h3 : q = 1 <;> simp [h1, h2, h3]
  · simp [h]
theorem age_b2 {i : Nat} {m : Int32} {k : Nat} {W : q_V} {b j : Nat} : (if (W (i + 1) k) ≤ m then (if (W (i + 1) k) ≤ 0 then W else vset W (i + 1) k (nI 0)) else vset W (i + 1) k (W (i + 1) k - m)) b j = if j = 0 + k then (if b = i + 1 then (if W b j ≤ m then (if W b j ≤ 0 then W b j else nI 0) else W b j - m) else W b j) else W b j := by
  by_cases h1 : b = i + 1
  · by_cases h2 : j = 0 + k
    · subst h1
      subst h2
      rw [Nat.zero_add, if_pos rfl, if_pos rfl]
      split
      · split
        · rfl
        · rw [vs_at]
      · rw [vs_at]
    · rw [if_neg h2]
      split
      · split
        · rfl
        · rw [vs_nk (by omega)]
      · rw [vs_nk (by omega)]
  · have e : (if j = 0 + k then (if b = i + 1 then (if W b j ≤ m then (if W b j ≤ 0 then W b j else nI 0) else W b j - m) else W b j) else W b j) = W b j := by
      rw [if_neg h1]
      split <;> rfl
    rw [e]
    split
    · split
      · rfl
      · rw [vs_nr h1]
    · rw [vs_nr h1]
def ageB (m : Int32) (T : Nat → Int32) : Nat → Int32 → Int32 := fun k g => if T k ≤ m then (if T k ≤ 0 then g else g ||| nI 1 <<< (nI k &&& 31)) else g
theorem ended_eq {i : Nat} {m : Int32} {V : q_V} : vX0_ageTimers i m V = lp (ageB m (V (i + 1))) 16 0 (nI 0) := by
  dsimp only [vX0_ageTimers]
  rw [lp_pair1 (a := i + 1) (c := 0) (G := fun _ b y => if b = i + 1 then (if y ≤ m then (if y ≤ 0 then y else nI 0) else y - m) else y) (B2 := fun k W => if (W (i + 1) k) ≤ m then (if (W (i + 1) k) ≤ 0 then W else vset W (i + 1) k (nI 0)) else vset W (i + 1) k (W (i + 1) k - m)) (B1 := fun k g y => if y ≤ m then (if y ≤ 0 then g else g ||| nI 1 <<< (nI k &&& 31)) else g) (fun k W b j => age_b2 (i := i) (m := m) (k := k) (W := W) (b := b) (j := j)) (fun k s => ?_) (fun k s => ?_)]
  · refine lp_cg 16 0 _ fun k g _ _ => ?_
    show _ = ageB m (V (i + 1)) k g
    unfold ageB
    rw [Nat.zero_add]
  · try dsimp only
    split
    · split <;> rfl
    · rfl
  · try dsimp only
    rw [Nat.zero_add]
    split
    · split <;> rfl
    · rfl
theorem ageT_eq {i : Nat} {m : Int32} {V : q_V} {j q : Nat} : fX0_ageTimers i m V j q = if j = i ∧ q = 2 then V i 2 &&& (vX0_ageTimers i m V ^^^ (-1)) else if j = i + 1 ∧ q < 16 then (if V j q ≤ m then (if V j q ≤ 0 then V j q else nI 0) else V j q - m) else V j q := by
  have e : ∀ j q, (lp (fun (k38 : Nat) (s38 : Int32 × q_V) => if (s38.2 (i + 1) k38) ≤ m then (if (s38.2 (i + 1) k38) ≤ 0 then (s38.1, s38.2) else (s38.1 ||| ((nI 1) <<< ((nI k38) &&& 31)), vset s38.2 (i + 1) k38 (nI 0))) else (s38.1, vset s38.2 (i + 1) k38 ((s38.2 (i + 1) k38) - m))) 16 0 (nI 0, V)).2 j q = if j = i + 1 ∧ q < 16 then (if V j q ≤ m then (if V j q ≤ 0 then V j q else nI 0) else V j q - m) else V j q := fun j q => by
    rw [lp_pair2 (B2 := fun k W => if (W (i + 1) k) ≤ m then (if (W (i + 1) k) ≤ 0 then W else vset W (i + 1) k (nI 0)) else vset W (i + 1) k (W (i + 1) k - m)) (fun k s => by
      try dsimp only
      split
      · split <;> rfl
      · rfl)]
    rw [lp_at16 (c := 0) (G := fun _ b y => if b = i + 1 then (if y ≤ m then (if y ≤ 0 then y else nI 0) else y - m) else y) (fun k W b j => age_b2 (i := i) (m := m) (k := k) (W := W) (b := b) (j := j))]
    dsimp only
    by_cases h : q < 16
    · rw [if_pos (by omega)]
      by_cases h1 : j = i + 1
      · rw [if_pos h1, if_pos (show j = i + 1 ∧ q < 16 from ⟨h1, h⟩)]
      · rw [if_neg h1, if_neg (by omega)]
    · rw [if_neg (by omega), if_neg (by omega)]
  dsimp only [fX0_ageTimers, vX0_ageTimers]
  rw [vq, e, e]
  by_cases h : j = i ∧ q = 2
  · rw [if_pos h, if_pos h, if_neg (by omega)]
  · rw [if_neg h, if_neg h]

