/-! ===== tick, whole; clear ===== -/
section TICK
variable {V W : q_V} {X many o b k : Nat}
def wA (V : q_V) (X many a : Nat) : Nat := if a < 8 * many then cw V (X + 2 + 37 * (a / 8) + 3 + 2 * (a % 8)) else 0
def tA (V : q_V) (X many a s : Nat) : Nat := if a < 8 * many then ct V (X + 2 + 37 * (a / 8) + 3 + 2 * (a % 8)) s else 0
def yA (V : q_V) (X a s : Nat) : Prop := bt (V (X + 2 + 37 * (a / 8) + 3 + 2 * (a % 8)) 3) s
theorem Rel.tick (h : Rel V W X many o) (hm4 : many ≤ 4) (hk : k ≤ 2000) (hS : SB W o b) (hb : b + 8000 ≤ 2000000000) : Rel (fX4_tick X many k V) (fX5_tick o many k W) X many o ∧ vX4_tick X many k V = vX5_tick o many k W ∧ SB (fX5_tick o many k W) o (b + 8000) := by
  have ef : fX4_tick X many k V = rcL X many k (nI k) (ageAll X many (nI k) V) := rfl
  have evv : vX4_tick X many k V = rcL X many k (nI k) (ageAll X many (nI k) V) (X + 2 + 37 * many) 4 - V (X + 2 + 37 * many) 4 := rfl
  rw [evv, ef, tick_f, tick_v]
  have hdiv : ∀ l g, g < 8 → (8 * l + g) / 8 = l ∧ (8 * l + g) % 8 = g := fun l g hg => by omega
  have hfw : ∀ a, a < 8 * many → FW V (X + 2 + 37 * (a / 8) + 3 + 2 * (a % 8)) := fun a ha => (h.1 (a / 8) (by omega) (a % 8) (by omega)).w
  have hw : ∀ a, wA V X many a ≤ 2000 := fun a => by
    unfold wA
    split
    · rename_i ha
      exact (hfw a ha).hw.1
    · omega
  have ht : ∀ a s, tA V X many a s ≤ 2000 := fun a s => by
    unfold tA
    split
    · rename_i ha
      exact ct_le (hfw a ha) s
    · omega
  have hr0 : ∀ a, a < 8 * many → RK (wA V X many a) (tA V X many a) (yA V X a) (nI 0, W).2 o a 0 := fun a ha => by
    have h1 := (h.1 (a / 8) (by omega) (a % 8) (by omega)).rk0
    rw [show 8 * (a / 8) + a % 8 = a by omega] at h1
    have e1 : wA V X many a = cw V (X + 2 + 37 * (a / 8) + 3 + 2 * (a % 8)) := if_pos ha
    have e2 : tA V X many a = ct V (X + 2 + 37 * (a / 8) + 3 + 2 * (a % 8)) := by
      funext s
      exact if_pos ha
    rw [e1, e2]
    exact h1
  have hrk := tks_k hw ht k 0 0 (nI 0, W) hr0
  have hA : AG V (lp (fun _ s => tk1 o many s) k 0 (nI 0, W)).2 X many o k 0 := fun l hl g hg => by
    have h1 := hrk (8 * l + g) (by omega)
    obtain ⟨d1, d2⟩ := hdiv l g hg
    have e1 : wA V X many (8 * l + g) = cw V (X + 2 + 37 * l + 3 + 2 * g) := by
      unfold wA
      rw [if_pos (by omega), d1, d2]
    have e2 : tA V X many (8 * l + g) = ct V (X + 2 + 37 * l + 3 + 2 * g) := by
      funext s
      unfold tA
      rw [if_pos (by omega), d1, d2]
    have e3 : yA V X (8 * l + g) = fun s => bt (V (X + 2 + 37 * l + 3 + 2 * g) 3) s := by
      funext s
      unfold yA
      rw [d1, d2]
    rw [e1, e2, e3, Nat.zero_add] at h1
    exact Or.inr ⟨by omega, (h.1 l hl g hg).w, h1⟩
  obtain ⟨a1, a2⟩ := hA.all hk
  have nB : ∀ l, l < many → nofil X many (X + 2 + 37 * l) := fun l hl l2 hl2 g hg => by
    rcases Nat.lt_trichotomy l l2 with h9 | h9 | h9 <;> omega
  have nL : ∀ r, nofil X many (X + 2 + 37 * many + r) := fun r l2 hl2 g hg => by omega
  have nM : ∀ l, l < many → ∀ r, 19 ≤ r → r < 37 → nofil X many (X + 2 + 37 * l + r) := fun l hl r h1 h2 l2 hl2 g hg => by
    rcases Nat.lt_trichotomy l l2 with h9 | h9 | h9 <;> omega
  obtain ⟨c1, c2, c3, c4⟩ := rc_all (X := X) (n0 := nI 0) (s0 := W o 15) hm4 k k 0 b (ageAll X many (nI k) V) (nI 0, W) (Nat.le_refl _) hk (fun l hl => (h.2.1 l hl).cg (a2 _ (nB l hl)) (fun _ _ _ => rfl)) (h.2.2.2.cg (fun r hr => a2 _ (nL r)) rfl rfl (fun _ _ _ => rfl)) hS (by omega) rfl
  have kF : ∀ l, l < many → ∀ r, 1 ≤ r → r < 37 → noclk X many (X + 2 + 37 * l + r) := fun l hl r h1 h2 => ⟨fun l2 hl2 => by rcases Nat.lt_trichotomy l l2 with h9 | h9 | h9 <;> omega, by omega⟩
  refine ⟨⟨fun l hl g hg => ?_, c1, fun l hl m hm g hg => ?_, c2⟩, ?_, c3.mo (by omega)⟩
  · refine (a1 l hl g hg).cg ?_ ?_ rfl rfl (fun _ _ => rfl) (fun _ _ => rfl)
    · have := kF l hl (3 + 2 * g) (by omega) (by omega)
      rw [← Nat.add_assoc] at this
      exact rcL_f this k (nI k) _
    · have := kF l hl (3 + 2 * g + 1) (by omega) (by omega)
      rw [← Nat.add_assoc, ← Nat.add_assoc] at this
      exact rcL_f this k (nI k) _
  · have e1 := kF l hl (19 + 3 * m + 1) (by omega) (by omega)
    have e2 := kF l hl (19 + 3 * m + 2) (by omega) (by omega)
    have f1 := nM l hl (19 + 3 * m + 1) (by omega) (by omega)
    have f2 := nM l hl (19 + 3 * m + 2) (by omega) (by omega)
    rw [← Nat.add_assoc, ← Nat.add_assoc] at e1 e2 f1 f2
    refine (h.2.2.1 l hl m hm g hg).cg ?_ ?_ ?_ ?_
    · rw [rcL_f e1, a2 _ f1]
    · rw [rcL_f e2, a2 _ f2]
    · exact tks_m (Or.inr rfl) k 0 (nI 0, W)
    · exact tks_m (Or.inl rfl) k 0 (nI 0, W)
  · rw [c2.1, h.2.2.2.1]
    have e0 : nI 0 + (lp (fun _ s => tk1 o many s) k 0 (nI 0, W)).2 o 15 = (lp (fun _ s => tk1 o many s) k 0 (nI 0, W)).2 o 15 := by rw [show nI 0 = (0 : Int32) from rfl, Int32.zero_add]
    rw [e0] at c4
    rw [← c4, Int32.add_sub_cancel]
end TICK
def CL (V : q_V) (B : Nat) : Prop := (∀ g, g < 8 → V (B + 3 + 2 * g) 1 = 0 ∧ V (B + 3 + 2 * g) 2 = 0 ∧ V (B + 3 + 2 * g) 3 = 0 ∧ V (B + 3 + 2 * g) 4 = 0 ∧ ∀ s, s < 16 → V (B + 3 + 2 * g + 1) s = 0) ∧ (∀ m, m < 6 → ∀ g, g < 8 → V (B + 19 + 3 * m + 1) g = 0 ∧ V (B + 19 + 3 * m + 2) g = 0) ∧ V B 3 = nI 2 ∧ V B 4 = nI 20 ∧ V B 5 = nI 4 ∧ V B 6 = nI 500 ∧ V B 7 = nI 20
def CM (W : q_V) (o : Nat) : Prop := (∀ l, l < 4 → W (o + 1) l = nI 2 ∧ W (o + 2) l = nI 20 ∧ W (o + 3) l = nI 4 ∧ W (o + 4) l = nI 500 ∧ W (o + 5) l = nI 0 ∧ W (o + 6) l = nI 20) ∧ (∀ a, a < 32 → W (o + 7) a = -1 ∧ W (o + 8) a = nI 0) ∧ (∀ a, a < 512 → W (o + 9) a = nI 0 ∧ W (o + 10) a = nI 0) ∧ (∀ a, a < 192 → W (o + 11) a = nI 0 ∧ W (o + 12) a = nI 0) ∧ W o 14 = nI 0 ∧ W o 15 = nI 0
theorem Rel.clean {V W : q_V} {X many o : Nat} (hm4 : many ≤ 4) (h : ∀ l, l < many → CL V (X + 2 + 37 * l) ∧ V (X + 2 + 37 * l) 0 = nI l) (h4 : V (X + 2 + 37 * many) 4 = nI 0) (h5 : V (X + 2 + 37 * many) 5 = nI 0) (hM : CM W o) : Rel V W X many o := by
  obtain ⟨m1, m2, m3, m4, m5, m6⟩ := hM
  refine ⟨fun l hl g hg => ?_, fun l hl => ?_, fun l hl m hm g hg => ?_, ?_⟩
  · obtain ⟨z1, z2, z3, z4, z5⟩ := (h l hl).1.1 g hg
    obtain ⟨e7, e8⟩ := m2 (8 * l + g) (by omega)
    refine RF.mk (FW.mk (b := by rw [z1]; exact Or.inl rfl) (r := by rw [z2]; exact S16.zero) (y := by rw [z3]; exact S16.zero) (d := fun s hs => by rw [z2]; exact fun q => absurd q (bt_0 hs)) (n := fun _ => ⟨z3, z4⟩) (g := fun q => absurd z1 q) (t := fun s hs => by rw [z2]; exact fun q => absurd q (bt_0 hs)) (z := fun s hs _ => z5 s hs)) ?_ ?_ (fun s hs => ?_) (fun s hs => ?_)
    · rw [e7]
      dsimp only [vX0_state]
      rw [if_pos z1, if_pos z2]
    · rw [e8, z4]
      rfl
    · rw [(m3 (16 * (8 * l + g) + s) (by omega)).1, z2, z3]
      unfold pl
      have hb : ¬ bt 0 s := bt_0 hs
      rw [if_neg hb, if_neg hb]
    · rw [(m3 (16 * (8 * l + g) + s) (by omega)).2, z5 s hs]
      rfl
  · obtain ⟨⟨-, -, k3, k4, k5, k6, k7⟩, k0⟩ := h l hl
    obtain ⟨r1, r2, r3, r4, r5, r6⟩ := m1 l (by omega)
    refine ⟨k0, by rw [r1, k3], by rw [r2, k4], by rw [r3, k5], by rw [r4, k6], ⟨2, 20, 4, by omega, by omega, by omega, by omega, by omega, by omega, k3, k4, k5⟩, ⟨20, by omega, by omega, k7⟩, ⟨500, by omega, k6⟩, Or.inl ⟨k6, r5, by rw [r6, k7]⟩⟩
  · obtain ⟨s1, s2⟩ := (h l hl).1.2.1 m hm g hg
    obtain ⟨r1, r2⟩ := m4 (48 * l + 8 * m + g) (by omega)
    refine ⟨by rw [s1, r2]; rfl, by rw [s2, r1]; rfl, by rw [s1]; exact S16.zero, by rw [s2]; exact Or.inl rfl⟩
  · refine ⟨by rw [h4, m6], by rw [h5, m5], by rw [m6]; decide, fun r hr j hj hj2 => ?_⟩
    rw [m6, nI_toInt (by decide)] at hj
    omega
theorem all_bt {s : Nat} (hs : s < 16) : bt 65535 s := by
  have e : (65535 : Int32) = nI 65535 := rfl
  rw [e, bt_nat (by decide) hs, show 65535 = 2 ^ 16 - 1 from rfl, Nat.testBit_two_pow_sub_one]
  exact decide_eq_true hs
theorem rs0_k {V : q_V} {i : Nat} : fX0_reset i V i 1 = 0 ∧ fX0_reset i V i 2 = 0 ∧ fX0_reset i V i 3 = 0 ∧ fX0_reset i V i 4 = 0 ∧ ∀ s, s < 16 → fX0_reset i V (i + 1) s = 0 := by
  dsimp only [fX0_reset]
  refine ⟨?_, ?_, ?_, ?_, fun s hs => ?_⟩
  · rw [include_eq, if_pos ⟨rfl, Or.inl rfl⟩]; rfl
  · rw [include_eq, if_neg (by omega), vs_at]; rfl
  · rw [include_eq, if_pos ⟨rfl, Or.inr (Or.inl rfl)⟩]; rfl
  · rw [include_eq, if_pos ⟨rfl, Or.inr (Or.inr rfl)⟩]; rfl
  · rw [include_eq, if_neg (by omega), vs_nr (by omega), setT_eq, if_pos ⟨⟨rfl, hs⟩, all_bt hs⟩]; rfl
theorem rs0_f {V : q_V} {i j : Nat} (h1 : j ≠ i) (h2 : j ≠ i + 1) : fX0_reset i V j = V j := by
  funext q
  dsimp only [fX0_reset]
  rw [include_eq, if_neg (fun e => h1 e.1), vs_nr h1, setT_eq, if_neg (fun e => h2 e.1.1)]
theorem rs2_eq {V : q_V} {i j q : Nat} : fX2_reset i V j q = if (j = i + 1 ∨ j = i + 2) ∧ q < 8 then nI 0 else V j q := by
  dsimp only [fX2_reset]
  rw [lp_at (c := 0) (G := fun _ b y => if b = i + 1 ∨ b = i + 2 then nI 0 else y) (fun k W b j => ?_) 8 0 V j q]
  · by_cases h : q < 8
    · rw [if_pos (by omega)]
      by_cases h1 : j = i + 1 ∨ j = i + 2
      · rw [if_pos h1, if_pos ⟨h1, h⟩]
      · rw [if_neg h1, if_neg (fun e => h1 e.1)]
    · rw [if_neg (by omega), if_neg (fun e => h e.2)]
  · rw [vq, vq]
    by_cases h2 : j = 0 + k
    · rw [if_pos h2]
      by_cases h1 : b = i + 2
      · rw [if_pos (by omega), if_pos (Or.inr h1)]
      · rw [if_neg (by omega)]
        by_cases h3 : b = i + 1
        · rw [if_pos (by omega), if_pos (Or.inl h3)]
        · rw [if_neg (by omega), if_neg (fun e => e.elim h3 h1)]
    · rw [if_neg h2, if_neg (by omega), if_neg (by omega)]
theorem rs1 {V : q_V} {B : Nat} : CL (fX1_reset B V) B ∧ fX1_reset B V B 0 = V B 0 ∧ ∀ j, j < B ∨ B + 37 ≤ j → fX1_reset B V j = V j := by
  dsimp only [fX1_reset]
  have k1 : ∀ (d p : Nat) (U : q_V), p + d = 8 → (∀ g, g < p → U (B + 3 + 2 * g) 1 = 0 ∧ U (B + 3 + 2 * g) 2 = 0 ∧ U (B + 3 + 2 * g) 3 = 0 ∧ U (B + 3 + 2 * g) 4 = 0 ∧ ∀ s, s < 16 → U (B + 3 + 2 * g + 1) s = 0) → (∀ j, j < B + 3 ∨ B + 19 ≤ j → U j = V j) → (∀ g, g < 8 → lp (fun k157 W157 => fX0_reset (B + 3 + 2 * k157) W157) d p U (B + 3 + 2 * g) 1 = 0 ∧ lp (fun k157 W157 => fX0_reset (B + 3 + 2 * k157) W157) d p U (B + 3 + 2 * g) 2 = 0 ∧ lp (fun k157 W157 => fX0_reset (B + 3 + 2 * k157) W157) d p U (B + 3 + 2 * g) 3 = 0 ∧ lp (fun k157 W157 => fX0_reset (B + 3 + 2 * k157) W157) d p U (B + 3 + 2 * g) 4 = 0 ∧ ∀ s, s < 16 → lp (fun k157 W157 => fX0_reset (B + 3 + 2 * k157) W157) d p U (B + 3 + 2 * g + 1) s = 0) ∧ ∀ j, j < B + 3 ∨ B + 19 ≤ j → lp (fun k157 W157 => fX0_reset (B + 3 + 2 * k157) W157) d p U j = V j := by
    intro d
    induction d with
    | zero => intro p U hp h1 h2; exact ⟨fun g hg => h1 g (by omega), h2⟩
    | succ d ih =>
      intro p U hp h1 h2
      refine ih (p + 1) (fX0_reset (B + 3 + 2 * p) U) (by omega) (fun g hg => ?_) (fun j hj => (rs0_f (by omega) (by omega)).trans (h2 j hj))
      by_cases hgp : g = p
      · subst hgp
        exact rs0_k
      · obtain ⟨a1, a2, a3, a4, a5⟩ := h1 g (by omega)
        have f1 : fX0_reset (B + 3 + 2 * p) U (B + 3 + 2 * g) = U (B + 3 + 2 * g) := rs0_f (by omega) (by omega)
        have f2 : fX0_reset (B + 3 + 2 * p) U (B + 3 + 2 * g + 1) = U (B + 3 + 2 * g + 1) := rs0_f (by omega) (by omega)
        rw [f1, f2]
        exact ⟨a1, a2, a3, a4, a5⟩
  obtain ⟨b1, b2⟩ := k1 8 0 V rfl (fun g hg => absurd hg (by omega)) (fun _ _ => rfl)
  generalize lp (fun k157 W157 => fX0_reset (B + 3 + 2 * k157) W157) 8 0 V = U1 at b1 b2 ⊢
  have k2 : ∀ (d p : Nat) (U : q_V), p + d = 6 → (∀ m, m < p → ∀ g, g < 8 → U (B + 19 + 3 * m + 1) g = 0 ∧ U (B + 19 + 3 * m + 2) g = 0) → (∀ j, j < B + 19 ∨ B + 37 ≤ j → U j = U1 j) → (∀ m, m < 6 → ∀ g, g < 8 → lp (fun k161 W161 => fX2_reset (B + 19 + 3 * k161) W161) d p U (B + 19 + 3 * m + 1) g = 0 ∧ lp (fun k161 W161 => fX2_reset (B + 19 + 3 * k161) W161) d p U (B + 19 + 3 * m + 2) g = 0) ∧ ∀ j, j < B + 19 ∨ B + 37 ≤ j → lp (fun k161 W161 => fX2_reset (B + 19 + 3 * k161) W161) d p U j = U1 j := by
    intro d
    induction d with
    | zero => intro p U hp h1 h2; exact ⟨fun m hm => h1 m (by omega), h2⟩
    | succ d ih =>
      intro p U hp h1 h2
      refine ih (p + 1) (fX2_reset (B + 19 + 3 * p) U) (by omega) (fun m hm g hg => ?_) (fun j hj => ?_)
      · by_cases hmp : m = p
        · subst hmp
          rw [rs2_eq, if_pos ⟨Or.inl rfl, hg⟩, rs2_eq, if_pos ⟨Or.inr rfl, hg⟩]
          exact ⟨rfl, rfl⟩
        · rw [rs2_eq, if_neg (by omega), rs2_eq, if_neg (by omega)]
          exact h1 m (by omega) g hg
      · funext q
        rw [rs2_eq, if_neg (by omega), h2 j hj]
  obtain ⟨d1, d2⟩ := k2 6 0 U1 rfl (fun m hm => absurd hm (by omega)) (fun _ _ => rfl)
  generalize lp (fun k161 W161 => fX2_reset (B + 19 + 3 * k161) W161) 6 0 U1 = U2 at d1 d2 ⊢
  obtain ⟨s0, s3, s4, s5, s6, s7⟩ := set_k (V := vset U2 B 6 (nI 500)) (B := B) (a2 := nI 2) (a3 := nI 20) (a4 := nI 4)
  have sf : ∀ j, j ≠ B → fX1_set B (nI 2) (nI 20) (nI 4) (vset U2 B 6 (nI 500)) j = U2 j := fun j hj => (set_f hj).trans (vs_nr hj)
  refine ⟨⟨fun g hg => ?_, fun m hm g hg => ?_, s3, s4, s5, ?_, ?_⟩, ?_, fun j hj => ?_⟩
  · rw [sf _ (by omega), sf _ (by omega), d2 _ (by omega), d2 _ (by omega)]
    exact b1 g hg
  · rw [sf _ (by omega), sf _ (by omega)]
    exact d1 m hm g hg
  · rw [s6, vs_at]
  · rw [s7, vs_at, if_pos rfl]
  · rw [s0, vs_nk (by decide), d2 _ (by omega), b2 _ (by omega)]
  · rw [sf _ (by omega), d2 _ (by omega), b2 _ (by omega)]
theorem clr_c {V : q_V} {X many : Nat} (h : ∀ l, l < many → V (X + 2 + 37 * l) 0 = nI l) : (∀ l, l < many → CL (fX4_clear X many V) (X + 2 + 37 * l) ∧ fX4_clear X many V (X + 2 + 37 * l) 0 = nI l) ∧ fX4_clear X many V (X + 2 + 37 * many) 4 = nI 0 ∧ fX4_clear X many V (X + 2 + 37 * many) 5 = nI 0 := by
  dsimp only [fX4_clear, fX3_reset]
  have key : ∀ (d p : Nat) (U : q_V), p + d = many → (∀ l, l < p → CL U (X + 2 + 37 * l)) → (∀ l, l < many → U (X + 2 + 37 * l) 0 = nI l) → (∀ l, l < many → CL (lp (fun k399 W399 => fX1_reset (X + 2 + 37 * k399) W399) d p U) (X + 2 + 37 * l) ∧ lp (fun k399 W399 => fX1_reset (X + 2 + 37 * k399) W399) d p U (X + 2 + 37 * l) 0 = nI l) := by
    intro d
    induction d with
    | zero => intro p U hp h1 h2 l hl; exact ⟨h1 l (by omega), h2 l hl⟩
    | succ d ih =>
      intro p U hp h1 h2
      obtain ⟨r1, r2, r3⟩ := rs1 (V := U) (B := X + 2 + 37 * p)
      refine ih (p + 1) (fX1_reset (X + 2 + 37 * p) U) (by omega) (fun l hl => ?_) (fun l hl => ?_)
      · by_cases hlp : l = p
        · subst hlp
          exact r1
        · have e : ∀ r, r < 37 → fX1_reset (X + 2 + 37 * p) U (X + 2 + 37 * l + r) = U (X + 2 + 37 * l + r) := fun r hr => r3 _ (by omega)
          have e0 : fX1_reset (X + 2 + 37 * p) U (X + 2 + 37 * l) = U (X + 2 + 37 * l) := r3 _ (by omega)
          obtain ⟨c1, c2, c3⟩ := h1 l (by omega)
          refine ⟨fun g hg => ?_, fun m hm g hg => ?_, by rw [e0]; exact c3⟩
          · have e1 := e (3 + 2 * g) (by omega)
            have e2 := e (3 + 2 * g + 1) (by omega)
            rw [← Nat.add_assoc] at e1
            rw [← Nat.add_assoc, ← Nat.add_assoc] at e2
            rw [e1, e2]
            exact c1 g hg
          · have e1 := e (19 + 3 * m + 1) (by omega)
            have e2 := e (19 + 3 * m + 2) (by omega)
            rw [← Nat.add_assoc, ← Nat.add_assoc] at e1 e2
            rw [e1, e2]
            exact c2 m hm g hg
      · by_cases hlp : l = p
        · subst hlp
          rw [r2]
          exact h2 l hl
        · rw [r3 _ (by omega)]
          exact h2 l hl
  have k := key many 0 V (by omega) (fun l hl => absurd hl (by omega)) h
  generalize lp (fun k399 W399 => fX1_reset (X + 2 + 37 * k399) W399) many 0 V = U at k ⊢
  have f : ∀ j, j < X + 2 + 37 * many → vset (vset U (X + 2 + 37 * many) 4 (nI 0)) (X + 2 + 37 * many) 5 (nI 0) j = U j := fun j hj => by rw [vs_nr (by omega), vs_nr (by omega)]
  refine ⟨fun l hl => ?_, ?_, vs_at⟩
  · obtain ⟨⟨c1, c2, c3⟩, c4⟩ := k l hl
    refine ⟨⟨fun g hg => ?_, fun m hm g hg => ?_, by rw [f _ (by omega)]; exact c3⟩, by rw [f _ (by omega)]; exact c4⟩
    · rw [f _ (by omega), f _ (by omega)]
      exact c1 g hg
    · rw [f _ (by omega), f _ (by omega)]
      exact c2 m hm g hg
  · rw [vs_nk (by decide), vs_at]
theorem beg_c {W : q_V} {o ml : Nat} : CM (fX5_begin o ml W) o := by
  dsimp only [fX5_begin]
  have L1 : ∀ (U : q_V) (a j : Nat), lp (fun k443 s443 => vset (vset (vset (vset (vset (vset s443 (o + 1) k443 (nI 2)) (o + 2) k443 (nI 20)) (o + 3) k443 (nI 4)) (o + 4) k443 (nI 500)) (o + 5) k443 (nI 0)) (o + 6) k443 (nI 20)) 4 0 U a j = if 0 + 0 ≤ j ∧ j < 0 + 0 + 4 then (if a = o + 1 then nI 2 else if a = o + 2 then nI 20 else if a = o + 3 then nI 4 else if a = o + 4 then nI 500 else if a = o + 5 then nI 0 else if a = o + 6 then nI 20 else U a j) else U a j := fun U a j => by
    rw [lp_at (c := 0) (G := fun _ a y => if a = o + 1 then nI 2 else if a = o + 2 then nI 20 else if a = o + 3 then nI 4 else if a = o + 4 then nI 500 else if a = o + 5 then nI 0 else if a = o + 6 then nI 20 else y) (fun k W a j => ?_) 4 0 U a j]
    simp only [vq]
    by_cases h : j = 0 + k
    · have hk : j = k := by omega
      simp only [h, Nat.zero_add, and_true, if_true]
      by_cases h1 : a = o + 1
      · simp [h1]
      · by_cases h2 : a = o + 2
        · simp [h2]
        · by_cases h3 : a = o + 3
          · simp [h3]
          · by_cases h4 : a = o + 4
            · simp [h4]
            · by_cases h5 : a = o + 5
              · simp [h5]
              · by_cases h6 : a = o + 6 <;> simp [h1, h2, h3, h4, h5, h6]
    · have hk : ¬ j = k := by omega
      simp [hk]
  have L2 : ∀ (N : Nat) (x y : Nat) (p q : Int32) (hxy : x ≠ y) (U : q_V) (a j : Nat), lp (fun k s => vset (vset s (o + x) k p) (o + y) k q) N 0 U a j = if 0 + 0 ≤ j ∧ j < 0 + 0 + N then (if a = o + x then p else if a = o + y then q else U a j) else U a j := fun N x y p q hxy U a j => by
    rw [lp_at (c := 0) (G := fun _ a z => if a = o + x then p else if a = o + y then q else z) (fun k W a j => ?_) N 0 U a j]
    simp only [vq]
    by_cases h : j = 0 + k
    · rw [if_pos h]
      by_cases h1 : a = o + y
      · rw [if_pos (by omega), if_neg (by omega), if_pos h1]
      · rw [if_neg (by omega)]
        by_cases h2 : a = o + x
        · rw [if_pos (by omega), if_pos h2]
        · rw [if_neg (by omega), if_neg h2, if_neg h1]
    · rw [if_neg h, if_neg (by omega), if_neg (by omega)]
  refine ⟨fun l hl => ?_, fun a ha => ?_, fun a ha => ?_, fun a ha => ?_, ?_, vs_at⟩
  · refine ⟨?_, ?_, ?_, ?_, ?_, ?_⟩ <;> rw [vs_nr (by omega), vs_nr (by omega), L2 192 11 12 _ _ (by decide), if_neg (show ¬ (_ = o + 11) by omega), if_neg (show ¬ (_ = o + 12) by omega), ite_self, L2 512 9 10 _ _ (by decide), if_neg (show ¬ (_ = o + 9) by omega), if_neg (show ¬ (_ = o + 10) by omega), ite_self, L2 32 7 8 _ _ (by decide), if_neg (show ¬ (_ = o + 7) by omega), if_neg (show ¬ (_ = o + 8) by omega), ite_self, L1, if_pos (by omega)] <;> simp
  · refine ⟨?_, ?_⟩ <;> rw [vs_nr (by omega), vs_nr (by omega), L2 192 11 12 _ _ (by decide), if_neg (show ¬ (_ = o + 11) by omega), if_neg (show ¬ (_ = o + 12) by omega), ite_self, L2 512 9 10 _ _ (by decide), if_neg (show ¬ (_ = o + 9) by omega), if_neg (show ¬ (_ = o + 10) by omega), ite_self, L2 32 7 8 _ _ (by decide), if_pos (by omega)] <;> simp
  · refine ⟨?_, ?_⟩ <;> rw [vs_nr (by omega), vs_nr (by omega), L2 192 11 12 _ _ (by decide), if_neg (show ¬ (_ = o + 11) by omega), if_neg (show ¬ (_ = o + 12) by omega), ite_self, L2 512 9 10 _ _ (by decide), if_pos (by omega)] <;> simp
  · refine ⟨?_, ?_⟩ <;> rw [vs_nr (by omega), vs_nr (by omega), L2 192 11 12 _ _ (by decide), if_pos (by omega)] <;> simp
  · rw [vs_nk (by decide), vs_at]
theorem Rel.clear {V W : q_V} {X many o ml : Nat} (h : Rel V W X many o) (hm4 : many ≤ 4) : Rel (fX4_clear X many V) (fX5_clear o ml W) X many o := by
  obtain ⟨c1, c2, c3⟩ := clr_c (V := V) (X := X) (many := many) (fun l hl => (h.2.1 l hl).1)
  exact Rel.clean hm4 c1 c2 c3 (beg_c (ml := ml))

