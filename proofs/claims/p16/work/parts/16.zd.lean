/-! ===== ticks: all records, all links ===== -/
theorem tkr_f {o ml at_ : Nat} {W : q_V} : rfr W (fX5_tickRecord o ml at_ W) o at_ := fun j q h1 h2 => by
  rw [tk_eq]
  have e : (lp (tkB o at_) 16 0 (nI 0, vset W (o + 8) at_ (tkG (W (o + 8) at_)))).2 j q = W j q := by
    rw [tkL_2, if_neg (fun e => h2 ⟨Or.inr e.1, e.2⟩), vq, if_neg (fun e => h1 ⟨Or.inr e.1, e.2⟩)]
  unfold tkE
  split
  · exact e
  · split
    · rw [rfr.b1 j q h1 h2, e]
    · rw [rfr.b0 j q h1 h2, e]
theorem RK.cg {w : Nat} {t : Nat → Nat} {y : Nat → Prop} {W W' : q_V} {o at_ k : Nat} (h : RK w t y W o at_ k) (h7 : W' (o + 7) at_ = W (o + 7) at_) (h8 : W' (o + 8) at_ = W (o + 8) at_) (h9 : ∀ s, s < 16 → W' (o + 9) (16 * at_ + s) = W (o + 9) (16 * at_ + s)) (h10 : ∀ s, s < 16 → W' (o + 10) (16 * at_ + s) = W (o + 10) (16 * at_ + s)) : RK w t y W' o at_ k := by
  obtain ⟨a, b, c, d⟩ := h
  refine ⟨by rw [h8]; exact a, fun s hs => by rw [h10 s hs]; exact b s hs, by rw [h7]; exact c, fun s hs => by rw [h9 s hs]; exact d s hs⟩
def tkRec (o ml : Nat) (W : q_V) : q_V := lp (fun k W => fX5_tickRecord o ml k W) (8 * ml) 0 W
def tkLB (o ml : Nat) : Nat → Int32 × q_V → Int32 × q_V := fun k s => if vX5_tickLink o ml k s.2 = 0 then (s.1, fX5_tickLink o ml k s.2) else (s.1 + nI 1, fX5_tickLink o ml k s.2)
def tkLnk (o ml : Nat) (s : Int32 × q_V) : Int32 × q_V := lp (tkLB o ml) ml 0 s
def tk1 (o ml : Nat) (s : Int32 × q_V) : Int32 × q_V := tkLnk o ml (s.1, tkRec o ml (vset s.2 o 14 (s.2 o 14 + nI 1)))
theorem tick_f {o ml m : Nat} {W : q_V} : fX5_tick o ml m W = (lp (fun _ s => tk1 o ml s) m 0 (nI 0, W)).2 := rfl
theorem tick_v {o ml m : Nat} {W : q_V} : vX5_tick o ml m W = (lp (fun _ s => tk1 o ml s) m 0 (nI 0, W)).1 := rfl
theorem tkRec_f {o ml : Nat} {W : q_V} {j q : Nat} (h : j < o + 7 ∨ o + 11 ≤ j) : tkRec o ml W j q = W j q := by
  have key : ∀ (d k : Nat) (W : q_V), lp (fun k W => fX5_tickRecord o ml k W) d k W j q = W j q := by
    intro d
    induction d with
    | zero => intro k W; rfl
    | succ d ih =>
      intro k W
      show lp (fun k W => fX5_tickRecord o ml k W) d (k + 1) (fX5_tickRecord o ml k W) j q = W j q
      rw [ih, tkr_f j q (by omega) (by omega)]
  exact key _ _ _
theorem tkRec_k {o ml k : Nat} {w : Nat → Nat} {t : Nat → Nat → Nat} {y : Nat → Nat → Prop} {W : q_V} (hw : ∀ a, w a ≤ 2000) (ht : ∀ a s, t a s ≤ 2000) (h : ∀ a, a < 8 * ml → RK (w a) (t a) (y a) W o a k) : ∀ a, a < 8 * ml → RK (w a) (t a) (y a) (tkRec o ml W) o a (k + 1) := by
  have key : ∀ (d p : Nat) (W : q_V), p + d = 8 * ml → (∀ a, a < 8 * ml → RK (w a) (t a) (y a) W o a (if a < p then k + 1 else k)) → ∀ a, a < 8 * ml → RK (w a) (t a) (y a) (lp (fun k W => fX5_tickRecord o ml k W) d p W) o a (k + 1) := by
    intro d
    induction d with
    | zero =>
      intro p W hp hK a ha
      have := hK a ha
      rw [if_pos (by omega)] at this
      exact this
    | succ d ih =>
      intro p W hp hK a ha
      refine ih (p + 1) (fX5_tickRecord o ml p W) (by omega) (fun c hc => ?_) a ha
      by_cases hcp : c = p
      · subst hcp
        have h1 := hK c hc
        rw [if_neg (by omega)] at h1
        rw [if_pos (by omega)]
        exact h1.step (hw c) (ht c)
      · have h1 := hK c hc
        have e : (if c < p + 1 then k + 1 else k) = if c < p then k + 1 else k := by
          by_cases h2 : c < p
          · rw [if_pos h2, if_pos (by omega)]
          · rw [if_neg h2, if_neg (by omega)]
        rw [e]
        exact h1.cg (tkr_f _ _ (by omega) (by omega)) (tkr_f _ _ (by omega) (by omega)) (fun s hs => tkr_f _ _ (by omega) (by omega)) (fun s hs => tkr_f _ _ (by omega) (by omega))
  exact key _ 0 W (by omega) (fun a ha => by rw [if_neg (by omega)]; exact h a ha)
theorem tkl_f {o ml l : Nat} {W : q_V} {j q : Nat} (h : o + 7 ≤ j ∧ j ≤ o + 12 ∨ (1 + o ≤ j ∧ j ≤ o + 3) ∨ (j = o ∧ q ≠ 15) ∨ (o + 4 ≤ j ∧ j ≤ o + 6 ∧ q ≠ l)) : fX5_tickLink o ml l W j q = W j q := by
  dsimp only [fX5_tickLink]
  split
  · split
    · rw [send_f (by omega) (by omega), vq, if_neg (by omega), vq, if_neg (by omega)]
    · rw [vq, if_neg (by omega)]
  · split
    · rw [vq, if_neg (by omega), vq, if_neg (by omega), vq, if_neg (by omega)]
    · rw [vq, if_neg (by omega)]
theorem tkLnk_f {o ml : Nat} {s : Int32 × q_V} {j q : Nat} (h : o + 7 ≤ j ∧ j ≤ o + 12 ∨ (1 + o ≤ j ∧ j ≤ o + 3) ∨ (j = o ∧ q ≠ 15)) : (tkLnk o ml s).2 j q = s.2 j q := by
  have key : ∀ (d k : Nat) (s : Int32 × q_V), (lp (tkLB o ml) d k s).2 j q = s.2 j q := by
    intro d
    induction d with
    | zero => intro k s; rfl
    | succ d ih =>
      intro k s
      show (lp (tkLB o ml) d (k + 1) (tkLB o ml k s)).2 j q = s.2 j q
      rw [ih]
      unfold tkLB
      split
      · exact tkl_f (by omega)
      · exact tkl_f (by omega)
  exact key _ _ _
theorem tk1_k {o ml k : Nat} {w : Nat → Nat} {t : Nat → Nat → Nat} {y : Nat → Nat → Prop} {s : Int32 × q_V} (hw : ∀ a, w a ≤ 2000) (ht : ∀ a s, t a s ≤ 2000) (h : ∀ a, a < 8 * ml → RK (w a) (t a) (y a) s.2 o a k) : ∀ a, a < 8 * ml → RK (w a) (t a) (y a) (tk1 o ml s).2 o a (k + 1) := by
  have h1 : ∀ a, a < 8 * ml → RK (w a) (t a) (y a) (vset s.2 o 14 (s.2 o 14 + nI 1)) o a k := fun a ha => (h a ha).cg (congrFun (vs_nr (show o + 7 ≠ o by omega)) _) (congrFun (vs_nr (show o + 8 ≠ o by omega)) _) (fun s hs => congrFun (vs_nr (show o + 9 ≠ o by omega)) _) (fun s hs => congrFun (vs_nr (show o + 10 ≠ o by omega)) _)
  intro a ha
  exact (tkRec_k hw ht h1 a ha).cg (tkLnk_f (by omega)) (tkLnk_f (by omega)) (fun s hs => tkLnk_f (by omega)) (fun s hs => tkLnk_f (by omega))
theorem tks_k {o ml : Nat} {w : Nat → Nat} {t : Nat → Nat → Nat} {y : Nat → Nat → Prop} (hw : ∀ a, w a ≤ 2000) (ht : ∀ a s, t a s ≤ 2000) : ∀ (d p k : Nat) (s : Int32 × q_V), (∀ a, a < 8 * ml → RK (w a) (t a) (y a) s.2 o a k) → ∀ a, a < 8 * ml → RK (w a) (t a) (y a) (lp (fun _ s => tk1 o ml s) d p s).2 o a (k + d) := by
  intro d
  induction d with
  | zero => intro p k s h; exact h
  | succ d ih =>
    intro p k s h a ha
    show RK (w a) (t a) (y a) (lp (fun _ s => tk1 o ml s) d (p + 1) (tk1 o ml s)).2 o a (k + (d + 1))
    rw [show k + (d + 1) = k + 1 + d by omega]
    exact ih (p + 1) (k + 1) (tk1 o ml s) (tk1_k hw ht h) a ha
theorem tk1_m {o ml : Nat} {s : Int32 × q_V} {j q : Nat} (h : j = o + 11 ∨ j = o + 12) : (tk1 o ml s).2 j q = s.2 j q := by
  unfold tk1
  rw [tkLnk_f (by omega)]
  show tkRec o ml (vset s.2 o 14 (s.2 o 14 + nI 1)) j q = s.2 j q
  rw [tkRec_f (by omega), vs_nr (by omega)]
theorem tks_m {o ml : Nat} {j q : Nat} (h : j = o + 11 ∨ j = o + 12) : ∀ (d p : Nat) (s : Int32 × q_V), (lp (fun _ s => tk1 o ml s) d p s).2 j q = s.2 j q := by
  intro d
  induction d with
  | zero => intro p s; rfl
  | succ d ih =>
    intro p s
    show (lp (fun _ s => tk1 o ml s) d (p + 1) (tk1 o ml s)).2 j q = s.2 j q
    rw [ih, tk1_m h]
/-! the class's records -/
def AG (V W : q_V) (X many o k p : Nat) : Prop := ∀ l, l < many → ∀ g, g < 8 → (8 * l + g < p ∧ RF V (X + 2 + 37 * l + 3 + 2 * g) W o (8 * l + g)) ∨ (p ≤ 8 * l + g ∧ FW V (X + 2 + 37 * l + 3 + 2 * g) ∧ RK (cw V (X + 2 + 37 * l + 3 + 2 * g)) (ct V (X + 2 + 37 * l + 3 + 2 * g)) (fun s => bt (V (X + 2 + 37 * l + 3 + 2 * g) 3) s) W o (8 * l + g) k)
theorem AG.step {V W : q_V} {X many o k l g : Nat} (hl : l < many) (hg : g < 8) (hk : k ≤ 2000) (h : AG V W X many o k (8 * l + g)) : AG (fX0_age (X + 2 + 37 * l + 3 + 2 * g) (nI k) V) W X many o k (8 * l + g + 1) := by
  intro l2 hl2 g2 hg2
  by_cases he : l2 = l ∧ g2 = g
  · obtain ⟨rfl, rfl⟩ := he
    refine Or.inl ⟨by omega, ?_⟩
    rcases h l2 hl2 g2 hg2 with ⟨c, -⟩ | ⟨-, h1, h2⟩
    · omega
    · exact h2.rf h1 hk
  · have f1 : fX0_age (X + 2 + 37 * l + 3 + 2 * g) (nI k) V (X + 2 + 37 * l2 + 3 + 2 * g2) = V (X + 2 + 37 * l2 + 3 + 2 * g2) := age_f (by omega) (by omega)
    have f2 : fX0_age (X + 2 + 37 * l + 3 + 2 * g) (nI k) V (X + 2 + 37 * l2 + 3 + 2 * g2 + 1) = V (X + 2 + 37 * l2 + 3 + 2 * g2 + 1) := age_f (by omega) (by omega)
    rcases h l2 hl2 g2 hg2 with ⟨c, h1⟩ | ⟨c, h1, h2⟩
    · exact Or.inl ⟨by omega, h1.cg f1 f2 rfl rfl (fun _ _ => rfl) (fun _ _ => rfl)⟩
    · refine Or.inr ⟨by omega, h1.cg f1 f2, ?_⟩
      rw [f1, show cw (fX0_age (X + 2 + 37 * l + 3 + 2 * g) (nI k) V) (X + 2 + 37 * l2 + 3 + 2 * g2) = cw V (X + 2 + 37 * l2 + 3 + 2 * g2) from by unfold cw; rw [f1], show ct (fX0_age (X + 2 + 37 * l + 3 + 2 * g) (nI k) V) (X + 2 + 37 * l2 + 3 + 2 * g2) = ct V (X + 2 + 37 * l2 + 3 + 2 * g2) from by funext s; unfold ct; rw [f2]]
      exact h2
def nofil (X many j : Nat) : Prop := ∀ l, l < many → ∀ g, g < 8 → j ≠ X + 2 + 37 * l + 3 + 2 * g ∧ j ≠ X + 2 + 37 * l + 3 + 2 * g + 1
theorem AG.link {V W : q_V} {X many o k l : Nat} (hl : l < many) (hk : k ≤ 2000) (h : AG V W X many o k (8 * l)) : AG (fX1_ageFilters (X + 2 + 37 * l) (nI k) V) W X many o k (8 * (l + 1)) ∧ ∀ j, nofil X many j → fX1_ageFilters (X + 2 + 37 * l) (nI k) V j = V j := by
  have key : ∀ (d g : Nat) (V' : q_V), g + d = 8 → AG V' W X many o k (8 * l + g) → (∀ j, nofil X many j → V' j = V j) → AG (lp (fun k90 W90 => fX0_age (X + 2 + 37 * l + 3 + 2 * k90) (nI k) W90) d g V') W X many o k (8 * (l + 1)) ∧ ∀ j, nofil X many j → lp (fun k90 W90 => fX0_age (X + 2 + 37 * l + 3 + 2 * k90) (nI k) W90) d g V' j = V j := by
    intro d
    induction d with
    | zero =>
      intro g V' hg hA hf
      refine ⟨?_, hf⟩
      rw [show 8 * (l + 1) = 8 * l + g by omega]
      exact hA
    | succ d ih =>
      intro g V' hg hA hf
      exact ih (g + 1) (fX0_age (X + 2 + 37 * l + 3 + 2 * g) (nI k) V') (by omega) (hA.step hl (by omega) hk) (fun j hj => (age_f (hj l hl g (by omega)).1 (hj l hl g (by omega)).2).trans (hf j hj))
  exact key 8 0 V rfl h (fun _ _ => rfl)
def ageAll (X many : Nat) (m : Int32) (V : q_V) : q_V := lp (fun k385 W385 => fX1_ageFilters (X + 2 + 37 * k385) m W385) many 0 V
theorem AG.all {V W : q_V} {X many o k : Nat} (hk : k ≤ 2000) (h : AG V W X many o k 0) : (∀ l, l < many → ∀ g, g < 8 → RF (ageAll X many (nI k) V) (X + 2 + 37 * l + 3 + 2 * g) W o (8 * l + g)) ∧ ∀ j, nofil X many j → ageAll X many (nI k) V j = V j := by
  have key : ∀ (d l : Nat) (V' : q_V), l + d = many → AG V' W X many o k (8 * l) → (∀ j, nofil X many j → V' j = V j) → (∀ l2, l2 < many → ∀ g, g < 8 → RF (lp (fun k385 W385 => fX1_ageFilters (X + 2 + 37 * k385) (nI k) W385) d l V') (X + 2 + 37 * l2 + 3 + 2 * g) W o (8 * l2 + g)) ∧ ∀ j, nofil X many j → lp (fun k385 W385 => fX1_ageFilters (X + 2 + 37 * k385) (nI k) W385) d l V' j = V j := by
    intro d
    induction d with
    | zero =>
      intro l V' hl hA hf
      refine ⟨fun l2 hl2 g hg => ?_, hf⟩
      rcases hA l2 hl2 g hg with ⟨-, h1⟩ | ⟨c, -⟩
      · exact h1
      · omega
    | succ d ih =>
      intro l V' hl hA hf
      obtain ⟨a1, a2⟩ := hA.link (by omega) hk
      exact ih (l + 1) _ (by omega) a1 (fun j hj => (a2 j hj).trans (hf j hj))
  exact key many 0 V (by omega) h (fun _ _ => rfl)

