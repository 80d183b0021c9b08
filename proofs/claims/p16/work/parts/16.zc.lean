/-! ===== ticks: the records of both ===== -/
theorem or_set {P : Nat → Prop} {G : Nat → Int32 → Int32} (hP : ∀ k g, k < 16 → P k → G k g = g ||| nI 1 <<< (nI k &&& 31)) (hN : ∀ k g, k < 16 → ¬ P k → G k g = g) : ∀ (d k : Nat) (g : Int32), k + d = 16 → S16 g → S16 (lp G d k g) ∧ ∀ s, s < 16 → (bt (lp G d k g) s ↔ bt g s ∨ (k ≤ s ∧ P s)) := by
  intro d
  induction d with
  | zero =>
    intro k g hk hg
    exact ⟨hg, fun s hs => ⟨Or.inl, fun q => q.elim id (fun e => by omega)⟩⟩
  | succ d ih =>
    intro k g hk hg
    show S16 (lp G d (k + 1) (G k g)) ∧ ∀ s, s < 16 → (bt (lp G d (k + 1) (G k g)) s ↔ bt g s ∨ (k ≤ s ∧ P s))
    by_cases h : P k
    · rw [hP k g (by omega) h]
      obtain ⟨i1, i2⟩ := ih (k + 1) (g ||| nI 1 <<< (nI k &&& 31)) (by omega) (hg.or (S16.shl (by omega)))
      refine ⟨i1, fun s hs => ?_⟩
      rw [i2 s hs, bt_or hs, bt_shl (by omega) hs]
      constructor
      · rintro ((q | q) | q)
        · exact Or.inl q
        · subst q
          exact Or.inr ⟨by omega, h⟩
        · exact Or.inr ⟨by omega, q.2⟩
      · rintro (q | q)
        · exact Or.inl (Or.inl q)
        · by_cases hk2 : s = k
          · exact Or.inl (Or.inr hk2)
          · exact Or.inr ⟨by omega, q.2⟩
    · rw [hN k g (by omega) h]
      obtain ⟨i1, i2⟩ := ih (k + 1) g (by omega) hg
      refine ⟨i1, fun s hs => ?_⟩
      rw [i2 s hs]
      constructor
      · rintro (q | q)
        · exact Or.inl q
        · exact Or.inr ⟨by omega, q.2⟩
      · rintro (q | q)
        · exact Or.inl q
        · by_cases hk2 : s = k
          · subst hk2
            exact absurd q.2 h
          · exact Or.inr ⟨by omega, q.2⟩
def cw (V : q_V) (i : Nat) : Nat := nn (V i 4)
def ct (V : q_V) (i s : Nat) : Nat := if s < 16 then nn (V (i + 1) s) else 0
theorem tmr.nn {x : Int32} (h : tmr x) : 1 ≤ nn x ∧ nn x ≤ 2000 ∧ x = nI (nn x) := by
  obtain ⟨t, h1, h2, rfl⟩ := h
  rw [nn_nI (by omega)]
  exact ⟨h1, h2, rfl⟩
theorem nn_0 : nn 0 = 0 := rfl
theorem FW.hw {V : q_V} {i : Nat} (h : FW V i) : cw V i ≤ 2000 ∧ V i 4 = nI (cw V i) ∧ (V i 1 = 0 ↔ cw V i = 0) := by
  unfold cw
  by_cases h0 : V i 1 = 0
  · have e := (h.n h0).2
    rw [e]
    exact ⟨by decide, rfl, ⟨fun _ => rfl, fun _ => h0⟩⟩
  · obtain ⟨t1, t2, t3⟩ := (h.g h0).nn
    exact ⟨t2, t3, ⟨fun q => absurd q h0, fun q => by omega⟩⟩
theorem FW.ht {V : q_V} {i s : Nat} (h : FW V i) (hs : s < 16) : ct V i s ≤ 2000 ∧ V (i + 1) s = nI (ct V i s) ∧ (bt (V i 2) s ↔ 0 < ct V i s) := by
  unfold ct
  rw [if_pos hs]
  by_cases h0 : bt (V i 2) s
  · obtain ⟨t1, t2, t3⟩ := (h.t s hs h0).nn
    exact ⟨t2, t3, ⟨fun _ => t1, fun _ => h0⟩⟩
  · have e := h.z s hs h0
    rw [e]
    exact ⟨by decide, rfl, ⟨fun q => absurd q h0, fun q => absurd q (by decide)⟩⟩
theorem ct_le {V : q_V} {i : Nat} (h : FW V i) (s : Nat) : ct V i s ≤ 2000 := by
  by_cases hs : s < 16
  · exact (h.ht hs).1
  · unfold ct
    rw [if_neg hs]
    omega
theorem RF.rk0 {V W : q_V} {i o at_ : Nat} (h : RF V i W o at_) : RK (cw V i) (ct V i) (fun s => bt (V i 3) s) W o at_ 0 := by
  obtain ⟨w1, w2, w3⟩ := h.w.hw
  refine ⟨by rw [h.g, w2, Nat.sub_zero], fun s hs => by rw [h.t s hs, (h.w.ht hs).2.1, Nat.sub_zero], ?_, fun s hs => ?_⟩
  · rw [h.m]
    dsimp only [vX0_state]
    by_cases h0 : V i 1 = 0
    · have : cw V i = 0 := w3.mp h0
      rw [if_pos h0]
      by_cases h2 : V i 2 = 0
      · rw [if_pos h2]
        refine Or.inr (Or.inr ⟨by omega, fun s hs q => ?_, rfl⟩)
        exact (h.w.r.eq0.mp h2) s hs ((h.w.ht hs).2.2.mpr q)
      · rw [if_neg h2]
        refine Or.inr (Or.inl ⟨by omega, ?_, rfl⟩)
        exact Classical.byContradiction fun hc => h2 (h.w.r.eq0.mpr fun s hs q => hc ⟨s, hs, (h.w.ht hs).2.2.mp q⟩)
    · rw [if_neg h0]
      have : cw V i ≠ 0 := fun q => h0 (w3.mpr q)
      exact Or.inl ⟨by omega, rfl⟩
  · rw [h.p s hs]
    unfold pl
    have hr := (h.w.ht hs).2.2
    by_cases c1 : bt (V i 2) s
    · rw [if_pos c1]
      exact Or.inl ⟨hr.mp c1, rfl⟩
    · rw [if_neg c1]
      have hn : ¬ 0 < ct V i s := fun q => c1 (hr.mpr q)
      by_cases c2 : bt (V i 3) s
      · rw [if_pos c2]
        refine Or.inr (Or.inl ⟨hn, ?_, Or.inl c2, rfl⟩)
        have : ¬ V i 1 = 0 := fun q => by
          have e := (h.w.n q).1
          rw [e] at c2
          exact bt_0 hs c2
        have : cw V i ≠ 0 := fun q => this (w3.mpr q)
        omega
      · rw [if_neg c2]
        exact Or.inr (Or.inr ⟨hn, fun q => q.2.elim c2 hn, rfl⟩)
theorem nI_l2 {a b : Nat} (ha : a ≤ 2000) (hb : b ≤ 2000) : nI a ≤ nI b ↔ a ≤ b := nI_leI (by omega) (by omega)
theorem nI_le0 {a : Nat} (ha : a ≤ 2000) : nI a ≤ 0 ↔ a = 0 := by
  rw [q_le0, nI_toInt (by omega)]
  omega
theorem nI_l3 {a b : Nat} (ha : a ≤ 2000) (hb : b ≤ 2000) : nI a < nI b ↔ a < b := by
  rw [Int32.lt_iff_toInt_lt, nI_toInt (by omega), nI_toInt (by omega)]
  omega
theorem end_b {V : q_V} {i k : Nat} (h : FW V i) (hk : k ≤ 2000) : S16 (vX0_ageTimers i (nI k) V) ∧ ∀ s, s < 16 → (bt (vX0_ageTimers i (nI k) V) s ↔ 0 < ct V i s ∧ ct V i s ≤ k) := by
  rw [ended_eq]
  obtain ⟨i1, i2⟩ := or_set (P := fun s => 0 < ct V i s ∧ ct V i s ≤ k) (G := ageB (nI k) (V (i + 1))) (fun s g hs q => by
    unfold ageB
    obtain ⟨t1, t2, -⟩ := h.ht hs
    rw [t2, if_pos ((nI_l2 t1 hk).mpr q.2), if_neg (fun e => by have := (nI_le0 t1).mp e; omega)]) (fun s g hs q => by
    unfold ageB
    obtain ⟨t1, t2, -⟩ := h.ht hs
    rw [t2]
    split
    · rename_i c
      have c1 := (nI_l2 t1 hk).mp c
      rw [if_pos ((nI_le0 t1).mpr (by omega))]
    · rfl) 16 0 (nI 0) rfl S16.zero
  refine ⟨i1, fun s hs => ?_⟩
  rw [i2 s hs]
  exact ⟨fun q => q.elim (fun e => absurd e (bt_0 hs)) And.right, fun q => Or.inr ⟨by omega, q⟩⟩
theorem age_t {V : q_V} {i k s : Nat} (h : FW V i) (hk : k ≤ 2000) (hs : s < 16) : fX0_age i (nI k) V (i + 1) s = nI (ct V i s - k) := by
  obtain ⟨t1, t2, -⟩ := h.ht hs
  have e : fX0_ageTimers i (nI k) V (i + 1) s = nI (ct V i s - k) := by
    rw [ageT_eq, if_neg (by omega), if_pos ⟨rfl, hs⟩, t2]
    by_cases c : nI (ct V i s) ≤ nI k
    · rw [if_pos c]
      have c1 := (nI_l2 t1 hk).mp c
      rw [show ct V i s - k = 0 by omega]
      split
      · rename_i c2
        rw [(nI_le0 t1).mp c2]
      · rfl
    · rw [if_neg c]
      have c1 : ¬ ct V i s ≤ k := fun q => c ((nI_l2 t1 hk).mpr q)
      rw [pk_sub (by omega)]
  dsimp only [fX0_age]
  split
  · exact e
  · split
    · rw [vs_nr (by omega), vs_nr (by omega), e]
    · rw [include_eq, if_neg (by omega), e]
theorem age_2 {V : q_V} {i k : Nat} : fX0_age i (nI k) V i 2 = V i 2 &&& (vX0_ageTimers i (nI k) V ^^^ (-1)) := by
  have e : fX0_ageTimers i (nI k) V i 2 = V i 2 &&& (vX0_ageTimers i (nI k) V ^^^ (-1)) := by rw [ageT_eq, if_pos ⟨rfl, rfl⟩]
  dsimp only [fX0_age]
  split
  · exact e
  · split
    · rw [vs_nk (by decide), vs_nk (by decide), e]
    · rw [include_eq, if_neg (by omega), e]
theorem age_n {V : q_V} {i k q : Nat} (hq : q ≠ 2) : fX0_ageTimers i (nI k) V i q = V i q := by
  rw [ageT_eq, if_neg (by omega), if_neg (by omega)]
theorem age_c {V : q_V} {i k : Nat} (h : FW V i) (hk : k ≤ 2000) : (k < cw V i ∧ fX0_age i (nI k) V i 1 = V i 1 ∧ ¬ V i 1 = 0 ∧ fX0_age i (nI k) V i 3 = V i 3 ||| vX0_ageTimers i (nI k) V ∧ fX0_age i (nI k) V i 4 = nI (cw V i - k)) ∨ (¬ k < cw V i ∧ fX0_age i (nI k) V i 1 = 0 ∧ fX0_age i (nI k) V i 3 = 0 ∧ fX0_age i (nI k) V i 4 = 0) := by
  obtain ⟨w1, w2, w3⟩ := h.hw
  dsimp only [fX0_age]
  rw [age_n (by decide), age_n (by decide)]
  by_cases h0 : V i 1 = 0
  · have := w3.mp h0
    obtain ⟨n1, n2⟩ := h.n h0
    right
    rw [if_pos h0, age_n (by decide), age_n (by decide), age_n (by decide)]
    exact ⟨by omega, h0, n1, n2⟩
  · rw [if_neg h0, w2]
    by_cases hc : nI k < nI (cw V i)
    · rw [if_pos hc]
      have hc1 := (nI_l3 hk w1).mp hc
      refine Or.inl ⟨hc1, ?_, h0, ?_, ?_⟩
      · rw [vs_nk (by decide), vs_nk (by decide), age_n (by decide)]
      · rw [vs_at, vs_nk (by decide), age_n (by decide)]
      · rw [vs_nk (by decide), vs_at, pk_sub (by omega)]
    · rw [if_neg hc]
      refine Or.inr ⟨fun q => hc ((nI_l3 hk w1).mpr q), ?_, ?_, ?_⟩
      · rw [include_eq, if_pos ⟨rfl, Or.inl rfl⟩]
        rfl
      · rw [include_eq, if_pos ⟨rfl, Or.inr (Or.inl rfl)⟩]
        rfl
      · rw [include_eq, if_pos ⟨rfl, Or.inr (Or.inr rfl)⟩]
        rfl
theorem age_f {V : q_V} {i : Nat} {m : Int32} {j : Nat} (h1 : j ≠ i) (h2 : j ≠ i + 1) : fX0_age i m V j = V j := by
  funext q
  have e : fX0_ageTimers i m V j q = V j q := by rw [ageT_eq, if_neg (fun e => h1 e.1), if_neg (fun e => h2 e.1)]
  dsimp only [fX0_age]
  split
  · exact e
  · split
    · rw [vs_nr h1, vs_nr h1, e]
    · rw [include_eq, if_neg (fun e => h1 e.1), e]
theorem RK.rf {V W : q_V} {i o at_ k : Nat} (h : FW V i) (hk : k ≤ 2000) (hK : RK (cw V i) (ct V i) (fun s => bt (V i 3) s) W o at_ k) : RF (fX0_age i (nI k) V) i W o at_ := by
  obtain ⟨kg, kT, km, kp⟩ := hK
  obtain ⟨w1, w2, w3⟩ := h.hw
  obtain ⟨se, be⟩ := end_b h hk
  have b2 : ∀ s, s < 16 → (bt (fX0_age i (nI k) V i 2) s ↔ k < ct V i s) := fun s hs => by
    rw [age_2, bt_and hs, bt_not hs, be s hs, (h.ht hs).2.2]
    omega
  have S2 : S16 (fX0_age i (nI k) V i 2) := by
    rw [age_2]
    exact h.r.and
  rcases age_c h hk with ⟨hc, a1, a0, a3, a4⟩ | ⟨hc, a1, a3, a4⟩
  · have hw : FW (fX0_age i (nI k) V) i := FW.mk
      (b := by rw [a1]; exact h.b)
      (r := S2)
      (y := by rw [a3]; exact h.y.or se)
      (d := fun s hs q1 q2 => by
        rw [a3, bt_or hs, be s hs] at q2
        have q3 := (b2 s hs).mp q1
        rcases q2 with q2 | q2
        · exact h.d s hs ((h.ht hs).2.2.mpr (by omega)) q2
        · omega)
      (n := by rw [a1]; exact fun q => absurd q a0)
      (g := by
        rw [a4]
        exact fun _ => ⟨cw V i - k, by omega, by omega, rfl⟩)
      (t := fun s hs q => by
        have q3 := (b2 s hs).mp q
        have := (h.ht hs).1
        rw [age_t h hk hs]
        exact ⟨ct V i s - k, by omega, by omega, rfl⟩)
      (z := fun s hs q => by
        have q3 : ¬ k < ct V i s := fun e => q ((b2 s hs).mpr e)
        rw [age_t h hk hs, show ct V i s - k = 0 by omega]
        rfl)
    refine RF.mk hw ?_ (by rw [kg, a4]) (fun s hs => ?_) (fun s hs => by rw [kT s hs, age_t h hk hs])
    · dsimp only [vX0_state]
      rw [a1, if_neg a0]
      rcases km with ⟨-, e⟩ | ⟨e, -⟩ | ⟨e, -⟩
      · exact e
      · exact absurd hc e
      · exact absurd hc e
    · unfold pl
      rcases kp s hs with ⟨c, e⟩ | ⟨c, -, c2, e⟩ | ⟨c, c2, e⟩
      · rw [e, if_pos ((b2 s hs).mpr c)]
      · rw [e, if_neg (fun q => c ((b2 s hs).mp q)), if_pos]
        rw [a3, bt_or hs, be s hs]
        rcases c2 with c2 | c2
        · exact Or.inl c2
        · exact Or.inr ⟨c2, by omega⟩
      · rw [e, if_neg (fun q => c ((b2 s hs).mp q)), if_neg]
        rw [a3, bt_or hs, be s hs]
        rintro (q | q)
        · exact c2 ⟨hc, Or.inl q⟩
        · exact c2 ⟨hc, Or.inr q.1⟩
  · have hw : FW (fX0_age i (nI k) V) i := FW.mk
      (b := by rw [a1]; exact Or.inl rfl)
      (r := S2)
      (y := by rw [a3]; exact S16.zero)
      (d := fun s hs q1 q2 => by
        rw [a3] at q2
        exact bt_0 hs q2)
      (n := fun _ => ⟨a3, a4⟩)
      (g := fun q => absurd a1 q)
      (t := fun s hs q => by
        have q3 := (b2 s hs).mp q
        have := (h.ht hs).1
        rw [age_t h hk hs]
        exact ⟨ct V i s - k, by omega, by omega, rfl⟩)
      (z := fun s hs q => by
        have q3 : ¬ k < ct V i s := fun e => q ((b2 s hs).mpr e)
        rw [age_t h hk hs, show ct V i s - k = 0 by omega]
        rfl)
    refine RF.mk hw ?_ (by rw [kg, a4, show cw V i - k = 0 by omega]; rfl) (fun s hs => ?_) (fun s hs => by rw [kT s hs, age_t h hk hs])
    · dsimp only [vX0_state]
      rw [if_pos a1]
      rcases km with ⟨e, -⟩ | ⟨-, ⟨s, hs, e⟩, e2⟩ | ⟨-, e, e2⟩
      · exact absurd e hc
      · rw [if_neg (fun q => S2.eq0.mp q s hs ((b2 s hs).mpr e)), e2]
      · rw [if_pos (S2.eq0.mpr fun s hs q => e s hs ((b2 s hs).mp q)), e2]
    · unfold pl
      rcases kp s hs with ⟨c, e⟩ | ⟨c, c1, -⟩ | ⟨c, c2, e⟩
      · rw [e, if_pos ((b2 s hs).mpr c)]
      · exact absurd c1 hc
      · rw [e, if_neg (fun q => c ((b2 s hs).mp q)), if_neg]
        rw [a3]
        exact bt_0 hs

