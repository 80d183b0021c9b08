/-! ===== ticks: leaps ===== -/
section LEAP
variable {V W : q_V} {X many o e b : Nat} {c : Nat → Nat}
theorem ck_event {n n0 s0 : Int32} (hm4 : many ≤ 4) (hk : ∀ l, l < many → CKl V (X + 2 + 37 * l) W o l e (c l)) (hc : ∀ l, l < many → e + 1 ≤ c l) (hg : RGe V (X + 2 + 37 * many) W o e) (hS : SB W o b) (hb : b + 4 ≤ 2000000000) (hn : n + s0 = n0 + W o 15) : (∀ l, l < many → RLk (lp (fun k367 W367 => fX1_runClock (X + 2 + 37 * k367) (X + 2 + 37 * many) (nI (e + 1)) W367) many 0 (vset V (X + 2 + 37 * many) 5 (V (X + 2 + 37 * many) 5 + nI (e + 1)))) (X + 2 + 37 * l) (tk1 o many (n, W)).2 o l) ∧ RG (lp (fun k367 W367 => fX1_runClock (X + 2 + 37 * k367) (X + 2 + 37 * many) (nI (e + 1)) W367) many 0 (vset V (X + 2 + 37 * many) 5 (V (X + 2 + 37 * many) 5 + nI (e + 1)))) (X + 2 + 37 * many) (tk1 o many (n, W)).2 o ∧ SB (tk1 o many (n, W)).2 o (b + 4) ∧ (tk1 o many (n, W)).1 + s0 = n0 + (tk1 o many (n, W)).2 o 15 := by
  have hi := lp_rel (B := fun k367 W367 => fX1_runClock (X + 2 + 37 * k367) (X + 2 + 37 * many) (nI (e + 1)) W367) (B' := tkLB o many) (I := fun p U s => (∀ l, l < many → (l < p ∧ RLk U (X + 2 + 37 * l) s.2 o l) ∨ (p ≤ l ∧ CKl U (X + 2 + 37 * l) s.2 o l e (c l))) ∧ RG U (X + 2 + 37 * many) s.2 o ∧ SB s.2 o (b + p) ∧ s.1 + s0 = n0 + s.2 o 15) many 0 (vset V (X + 2 + 37 * many) 5 (V (X + 2 + 37 * many) 5 + nI (e + 1))) (n, tkRec o many (vset W o 14 (W o 14 + nI 1))) ?_ (fun p U s _ hp hI => ?_)
  · obtain ⟨i1, i2, i3, i4⟩ := hi
    rw [Nat.zero_add] at i3 i1
    refine ⟨fun l hl => ?_, i2, i3.mo (by omega), i4⟩
    rcases i1 l hl with ⟨-, h1⟩ | ⟨h1, -⟩
    · exact h1
    · omega
  · have w15 : tkRec o many (vset W o 14 (W o 14 + nI 1)) o 15 = W o 15 := by rw [tkRec_f (by omega), vs_nk (by decide)]
    refine ⟨fun l hl => Or.inr ⟨by omega, ?_⟩, ?_, ?_, ?_⟩
    · exact ((hk l hl).pre (many := many)).cg (by rw [vs_nr (by omega)]) (fun _ _ _ => rfl)
    · obtain ⟨g1, g2, g3, g4⟩ := hg
      refine ⟨?_, ?_, ?_, fun r hr j hj hj2 => ?_⟩
      · show _ = tkRec o many (vset W o 14 (W o 14 + nI 1)) o 15
        rw [w15, vs_nk (by decide), g1]
      · show _ = tkRec o many (vset W o 14 (W o 14 + nI 1)) o 14
        rw [tkRec_f (by omega), vs_at, vs_at, g2, Int32.add_assoc, nI_add]
      · show 0 ≤ (tkRec o many (vset W o 14 (W o 14 + nI 1)) o 15).toInt
        rw [w15]
        exact g3
      · change (j : Int) < (tkRec o many (vset W o 14 (W o 14 + nI 1)) o 15).toInt at hj
        rw [w15] at hj
        show _ = tkRec o many (vset W o 14 (W o 14 + nI 1)) (o + 13 + r) j
        rw [vs_nr (by omega), tkRec_f (by omega), vs_nr (by omega)]
        exact g4 r hr j hj hj2
    · exact (SB.cg hS w15).mo (by omega)
    · show n + s0 = n0 + tkRec o many (vset W o 14 (W o 14 + nI 1)) o 15
      rw [w15]
      exact hn
  · obtain ⟨i1, i2, i3, i4⟩ := hI
    have hpm : p < many := by omega
    have hcp : CKl U (X + 2 + 37 * p) s.2 o p e (c p) := by
      rcases i1 p hpm with ⟨h1, -⟩ | ⟨-, h1⟩
      · omega
      · exact h1
    obtain ⟨s1, s2, s3, s4⟩ := ev_step (X := X) (b := b + p) hpm hcp (hc p hpm) i2 i3 (by omega) i4
    refine ⟨fun l hl => ?_, s2, s3.mo (by omega), s4⟩
    by_cases hlp : l = p
    · subst hlp
      exact Or.inl ⟨by omega, s1⟩
    · have f1 : fX1_runClock (X + 2 + 37 * p) (X + 2 + 37 * many) (nI (e + 1)) U (X + 2 + 37 * l) = U (X + 2 + 37 * l) := rcl_f (by omega) (by omega)
      have f2 : ∀ r, 1 ≤ r → r ≤ 6 → (tkLB o many p s).2 (o + r) l = s.2 (o + r) l := fun r h1 h2 => by
        unfold tkLB
        split
        · exact tkl_f (by omega)
        · exact tkl_f (by omega)
      rcases i1 l hl with ⟨h1, h2⟩ | ⟨h1, h2⟩
      · exact Or.inl ⟨by omega, h2.cg f1 f2⟩
      · exact Or.inr ⟨by omega, h2.cg f1 f2⟩
theorem lp_add {σ : Type} {B : Nat → σ → σ} : ∀ (a d k : Nat) (s : σ), lp B (a + d) k s = lp B d (k + a) (lp B a k s) := by
  intro a
  induction a with
  | zero => intro d k s; rw [Nat.zero_add]; rfl
  | succ a ih =>
    intro d k s
    rw [show a + 1 + d = (a + d) + 1 by omega]
    show lp B (a + d) (k + 1) (B k s) = lp B d (k + (a + 1)) (lp B a (k + 1) (B k s))
    rw [ih, show k + 1 + a = k + (a + 1) by omega]
theorem ck_ticks {n0 s0 : Int32} (hc : ∀ l, l < many → e < c l) : ∀ (d p k : Nat) (s : Int32 × q_V), k + d = e → (∀ l, l < many → CKl V (X + 2 + 37 * l) s.2 o l k (c l)) → RGe V (X + 2 + 37 * many) s.2 o k → (∀ l, l < many → CKl V (X + 2 + 37 * l) (lp (fun _ s => tk1 o many s) d p s).2 o l e (c l)) ∧ RGe V (X + 2 + 37 * many) (lp (fun _ s => tk1 o many s) d p s).2 o e ∧ (lp (fun _ s => tk1 o many s) d p s).1 = s.1 ∧ (lp (fun _ s => tk1 o many s) d p s).2 o 15 = s.2 o 15 := by
  intro d
  induction d with
  | zero =>
    intro p k s hk h1 h2
    obtain rfl : k = e := by omega
    exact ⟨h1, h2, rfl, rfl⟩
  | succ d ih =>
    intro p k s hk h1 h2
    obtain ⟨t1, t2, t3, t4⟩ := ck_tick (n := s.1) h1 (fun l hl => by have := hc l hl; omega) h2
    obtain ⟨u1, u2, u3, u4⟩ := ih (p + 1) (k + 1) (tk1 o many (s.1, s.2)) (by omega) t1 t2
    exact ⟨u1, u2, u3.trans t3, u4.trans t4⟩
theorem leap_nI {x : Nat} (hx1 : 1 ≤ x) (hx2 : x ≤ 2000) (hc : ∀ l, l < many → 1 ≤ c l ∧ c l ≤ 2000 ∧ V (X + 2 + 37 * l) 7 = nI (c l)) : ∃ L : Nat, lp (fun (k363 : Nat) (s363 : Int32) => vJ9_min_7cf53 s363 (V (X + 2 + 37 * k363) 7) V) many 0 (nI x) = nI L ∧ 1 ≤ L ∧ L ≤ x ∧ ∀ l, l < many → L ≤ c l := by
  have key : ∀ (d p y : Nat), p + d = many → 1 ≤ y → y ≤ x → (∀ l, l < p → y ≤ c l) → ∃ L : Nat, lp (fun (k363 : Nat) (s363 : Int32) => vJ9_min_7cf53 s363 (V (X + 2 + 37 * k363) 7) V) d p (nI y) = nI L ∧ 1 ≤ L ∧ L ≤ x ∧ ∀ l, l < many → L ≤ c l := by
    intro d
    induction d with
    | zero =>
      intro p y hp h1 h2 h3
      exact ⟨y, rfl, h1, h2, fun l hl => h3 l (by omega)⟩
    | succ d ih =>
      intro p y hp h1 h2 h3
      obtain ⟨c1, c2, c3⟩ := hc p (by omega)
      show ∃ L : Nat, lp (fun (k363 : Nat) (s363 : Int32) => vJ9_min_7cf53 s363 (V (X + 2 + 37 * k363) 7) V) d (p + 1) (vJ9_min_7cf53 (nI y) (V (X + 2 + 37 * p) 7) V) = nI L ∧ _
      have em : vJ9_min_7cf53 (nI y) (V (X + 2 + 37 * p) 7) V = nI (min y (c p)) := by
        dsimp only [vJ9_min_7cf53]
        rw [c3]
        by_cases h : nI (c p) < nI y
        · rw [if_pos h]
          have := (nI_l3 c2 (by omega)).mp h
          rw [show min y (c p) = c p by omega]
        · rw [if_neg h]
          have : ¬ c p < y := fun q => h ((nI_l3 c2 (by omega)).mpr q)
          rw [show min y (c p) = y by omega]
      rw [em]
      refine ih (p + 1) (min y (c p)) (by omega) (by omega) (by omega) (fun l hl => ?_)
      by_cases hlp : l = p
      · subst hlp
        omega
      · have := h3 l (by omega)
        omega
  exact key many 0 x (by omega) hx1 (Nat.le_refl _) (fun l hl => absurd hl (by omega))
theorem rc_all {n0 s0 : Int32} (hm4 : many ≤ 4) : ∀ (d x p b : Nat) (V : q_V) (s : Int32 × q_V), x ≤ d → x ≤ 2000 → (∀ l, l < many → RLk V (X + 2 + 37 * l) s.2 o l) → RG V (X + 2 + 37 * many) s.2 o → SB s.2 o b → b + 4 * x ≤ 2000000000 → s.1 + s0 = n0 + s.2 o 15 → (∀ l, l < many → RLk (rcL X many d (nI x) V) (X + 2 + 37 * l) (lp (fun _ s => tk1 o many s) x p s).2 o l) ∧ RG (rcL X many d (nI x) V) (X + 2 + 37 * many) (lp (fun _ s => tk1 o many s) x p s).2 o ∧ SB (lp (fun _ s => tk1 o many s) x p s).2 o (b + 4 * x) ∧ (lp (fun _ s => tk1 o many s) x p s).1 + s0 = n0 + (lp (fun _ s => tk1 o many s) x p s).2 o 15 := by
  intro d
  induction d with
  | zero =>
    intro x p b V s hx hx2 h1 h2 h3 h4 h5
    obtain rfl : x = 0 := by omega
    exact ⟨h1, h2, h3, h5⟩
  | succ d ih =>
    intro x p b V s hx hx2 h1 h2 h3 h4 h5
    by_cases hx0 : x = 0
    · subst hx0
      have e : rcL X many (d + 1) (nI 0) V = V := if_pos (by decide)
      rw [e]
      exact ⟨h1, h2, h3, h5⟩
    · have e : rcL X many (d + 1) (nI x) V = rcL X many d (vrc X many (nI x) V) (frc X many (nI x) V) := if_neg (fun q => hx0 ((nI_le0 hx2).mp q))
      rw [e]
      have hck : ∀ l, l < many → CKl V (X + 2 + 37 * l) s.2 o l 0 (nn (V (X + 2 + 37 * l) 7)) ∧ 1 ≤ nn (V (X + 2 + 37 * l) 7) ∧ nn (V (X + 2 + 37 * l) 7) ≤ 2000 := fun l hl => (h1 l hl).ck
      obtain ⟨L, hL, L1, L2, L3⟩ := leap_nI (V := V) (X := X) (many := many) (c := fun l => nn (V (X + 2 + 37 * l) 7)) (x := x) (by omega) hx2 (fun l hl => ⟨(hck l hl).2.1, (hck l hl).2.2, (hck l hl).1.2.2.2.2.2.2.2.2.2.1⟩)
      have ev : vrc X many (nI x) V = nI (x - L) := by
        dsimp only [vrc]
        rw [hL, pk_sub L2]
      have ef : frc X many (nI x) V = lp (fun k367 W367 => fX1_runClock (X + 2 + 37 * k367) (X + 2 + 37 * many) (nI L) W367) many 0 (vset V (X + 2 + 37 * many) 5 (V (X + 2 + 37 * many) 5 + nI L)) := by
        dsimp only [frc]
        rw [hL]
      rw [ev, ef]
      obtain ⟨E, rfl⟩ : ∃ E, L = E + 1 := ⟨L - 1, by omega⟩
      have hg0 : RGe V (X + 2 + 37 * many) s.2 o 0 := by
        obtain ⟨g1, g2, g3, g4⟩ := h2
        refine ⟨g1, ?_, g3, g4⟩
        rw [g2, show nI 0 = (0 : Int32) from rfl, Int32.add_zero]
      obtain ⟨t1, t2, t3, t4⟩ := ck_ticks (V := V) (X := X) (many := many) (o := o) (e := E) (c := fun l => nn (V (X + 2 + 37 * l) 7)) (n0 := n0) (s0 := s0) (fun l hl => by have := L3 l hl; omega) E p 0 s (by omega) (fun l hl => (hck l hl).1) hg0
      have hS1 : SB (lp (fun _ s => tk1 o many s) E p s).2 o b := SB.cg h3 t4
      obtain ⟨u1, u2, u3, u4⟩ := ck_event (n := (lp (fun _ s => tk1 o many s) E p s).1) (n0 := n0) (s0 := s0) hm4 t1 L3 t2 hS1 (by omega) (by rw [t3, t4]; exact h5)
      have hsplit : lp (fun _ s => tk1 o many s) x p s = lp (fun _ s => tk1 o many s) (x - (E + 1)) (p + (E + 1)) (tk1 o many (lp (fun _ s => tk1 o many s) E p s)) := by
        have e1 : x = (E + 1) + (x - (E + 1)) := by omega
        have e2 : lp (fun _ s => tk1 o many s) (E + 1) p s = tk1 o many (lp (fun _ s => tk1 o many s) E p s) := by
          rw [lp_add E 1 p s]
          rfl
        have e3 := lp_add (B := fun (_ : Nat) s => tk1 o many s) (E + 1) (x - (E + 1)) p s
        rw [← e1, e2] at e3
        exact e3
      rw [hsplit]
      obtain ⟨v1, v2, v3, v4⟩ := ih (x - (E + 1)) (p + (E + 1)) (b + 4) (lp (fun k367 W367 => fX1_runClock (X + 2 + 37 * k367) (X + 2 + 37 * many) (nI (E + 1)) W367) many 0 (vset V (X + 2 + 37 * many) 5 (V (X + 2 + 37 * many) 5 + nI (E + 1)))) (tk1 o many (lp (fun _ s => tk1 o many s) E p s)) (by omega) (by omega) u1 u2 u3 (by omega) u4
      exact ⟨v1, v2, v3.mo (by omega), v4⟩
def noclk (X many j : Nat) : Prop := (∀ l, l < many → j ≠ X + 2 + 37 * l) ∧ (j < X + 2 + 37 * many ∨ X + 2 + 37 * many + 5 ≤ j)
theorem frc_f {x : Int32} {j : Nat} (hj : noclk X many j) : frc X many x V j = V j := by
  dsimp only [frc]
  generalize lp (fun (k363 : Nat) (s363 : Int32) => vJ9_min_7cf53 s363 (V (X + 2 + 37 * k363) 7) V) many 0 x = L
  have key : ∀ (d p : Nat) (U : q_V), p + d = many → lp (fun k367 W367 => fX1_runClock (X + 2 + 37 * k367) (X + 2 + 37 * many) L W367) d p U j = U j := by
    intro d
    induction d with
    | zero => intro p U _; rfl
    | succ d ih =>
      intro p U hp
      show lp (fun k367 W367 => fX1_runClock (X + 2 + 37 * k367) (X + 2 + 37 * many) L W367) d (p + 1) (fX1_runClock (X + 2 + 37 * p) (X + 2 + 37 * many) L U) j = U j
      rw [ih (p + 1) _ (by omega), rcl_f (hj.1 p (by omega)) hj.2]
  rw [key many 0 _ (by omega), vs_nr (by have := hj.2; omega)]
theorem rcL_f {j : Nat} (hj : noclk X many j) : ∀ (d : Nat) (x : Int32) (V : q_V), rcL X many d x V j = V j := by
  intro d
  induction d with
  | zero => intro x V; rfl
  | succ d ih =>
    intro x V
    show (if x ≤ 0 then V else rcL X many d (vrc X many x V) (frc X many x V)) j = V j
    split
    · rfl
    · rw [ih, frc_f hj]
end LEAP

