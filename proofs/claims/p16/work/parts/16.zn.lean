/-! ===== the steps as the law makes them: class first, then the reference, over one heap ===== -/
def aT (o : Nat) (W W' : q_V) : Prop := W' o 0 = W o 0
theorem aT.of {o at_ : Nat} {W W' : q_V} (h : rfr W W' o at_) : aT o W W' := h o 0 (by omega) (by omega)
theorem aT.tr {o : Nat} {W W' W'' : q_V} (h : aT o W W') (k : aT o W' W'') : aT o W W'' := Eq.trans k h
theorem aT.rf {o : Nat} {W : q_V} : aT o W W := rfl
theorem aT.sd {o ml : Nat} {x y z : Int32} {W : q_V} : aT o W (fX5_send o ml x y z W) := send_f (by omega) (by omega)
theorem aT.ask {o ml l g : Nat} {a : Int32} {W : q_V} : aT o W (fX5_ask o ml l g a W) := by
  dsimp only [fX5_ask]
  split
  · exact aT.rf
  · split
    · exact aT.rf
    · exact aT.sd.tr (aT.of rfr.lw)
theorem aT.askG {o ml l g : Nat} {W : q_V} : aT o W (fX5_askGroup o ml l g W) := by
  dsimp only [fX5_askGroup]
  split
  · exact aT.rf
  · exact aT.sd.tr (aT.of rfr.lg)
theorem aT.rep {o ml l g k : Nat} {a : Int32} {W : q_V} (hk : k < 6) : aT o W (fX5_report o ml l g a k W) := by
  have b0 : ∀ {at_ : Nat} {a b : Int32} {W : q_V}, aT o W (fX5_become_0 o ml at_ a b W) := fun {_ _ _ _} => aT.of rfr.b0
  have b1 : ∀ {at_ : Nat} {a b : Int32} {W : q_V}, aT o W (fX5_become_1 o ml at_ a b W) := fun {_ _ _ _} => aT.of rfr.b1
  have st : ∀ {at_ : Nat} {a x : Int32} {W : q_V}, aT o W (fX5_setTimers o ml at_ a x W) := fun {_ _ _ _} => aT.of rfr.st
  have g8 : ∀ {at_ : Nat} {x : Int32} {W : q_V}, aT o W (vset W (o + 8) at_ x) := fun {_ _ _} => aT.of rfr.g8
  rcases (show k = 0 ∨ k = 1 ∨ k = 2 ∨ k = 3 ∨ k = 4 ∨ k = 5 by omega) with rfl | rfl | rfl | rfl | rfl | rfl
  · show aT o W (fX5_reported_0 o ml l g a W)
    dsimp only [fX5_reported_0, fX5_excluding_0, fX5_including_0]
    split
    · exact b1.tr st
    · exact b0.tr st
  · show aT o W (fX5_reported_1 o ml l g a W)
    dsimp only [fX5_reported_1, fX5_excluding_1, fX5_including_1]
    split
    · exact (b1.tr st).tr g8
    · exact b1.tr g8
  · show aT o W (fX5_reported_2 o ml l g a W)
    dsimp only [fX5_reported_2, fX5_excluding_2, fX5_including_2]
    split
    · exact ((b1.tr st).tr aT.ask).tr aT.askG
    · exact (b0.tr st).tr aT.ask
  · show aT o W (fX5_reported_3 o ml l g a W)
    dsimp only [fX5_reported_3, fX5_excluding_3, fX5_including_3]
    split
    · exact ((b1.tr st).tr g8).tr aT.ask
    · exact (b1.tr g8).tr aT.ask
  · show aT o W (fX5_reported_4 o ml l g a W)
    dsimp only [fX5_reported_4, fX5_excluding_4, fX5_including_4]
    split
    · exact b1.tr st
    · exact b0.tr st
  · show aT o W (fX5_reported_5 o ml l g a W)
    dsimp only [fX5_reported_5, fX5_excluding_5, fX5_including_5]
    split
    · exact (b1.tr st).tr aT.ask
    · exact aT.ask
theorem aT.member {o ml l m g : Nat} {a4 a5 : Int32} {W : q_V} : aT o W (fX5_member o ml l m g a4 a5 W) := by
  have h0 : ∀ {W' : q_V}, aT o (vset (vset W (o + 11) (48 * l + 8 * m + g) a4) (o + 12) (48 * l + 8 * m + g) a5) W' → aT o W W' := fun h => Eq.trans h (by rw [vs_nr (by omega), vs_nr (by omega)])
  have r : ∀ {k : Nat} {a : Int32} {W : q_V}, k < 6 → aT o W (fX5_report o ml l g a k W) := fun {_ _ _} hk => aT.rep hk
  dsimp only [fX5_member]
  refine h0 ?_
  split
  · split
    · split
      · split
        · exact aT.rf
        · exact r (k := 5) (by decide)
      · split
        · exact r (k := 4) (by decide)
        · exact aT.tr (r (k := 4) (by decide)) (r (k := 5) (by decide))
    · split
      · split
        · exact aT.rf
        · exact r (k := 5) (by decide)
      · split
        · exact r (k := 4) (by decide)
        · exact aT.tr (r (k := 4) (by decide)) (r (k := 5) (by decide))
  · split
    · exact r (k := 2) (by decide)
    · exact r (k := 3) (by decide)
theorem aT.tick {o ml m : Nat} {W : q_V} : aT o W (fX5_tick o ml m W) := by
  rw [tick_f]
  refine lp_inv (I := fun s : Int32 × q_V => aT o W s.2) (fun _ s hs => ?_) m 0 (nI 0, W) aT.rf
  unfold tk1
  refine Eq.trans (tkLnk_f (by omega)) ?_
  show tkRec o ml (vset s.2 o 14 (s.2 o 14 + nI 1)) o 0 = W o 0
  rw [tkRec_f (by omega), vs_nk (by decide)]
  exact hs
theorem SBrep {o ml l g k b : Nat} {a : Int32} {W : q_V} (hk : k < 6) (hS : SB W o b) (hb : b + 2 ≤ 2000000000) : SB (fX5_report o ml l g a k W) o (b + 2) := by
  rcases (show k = 0 ∨ k = 1 ∨ k = 2 ∨ k = 3 ∨ k = 4 ∨ k = 5 by omega) with rfl | rfl | rfl | rfl | rfl | rfl
  · exact SX5_reported_0 o ml l g a hS hb
  · exact SX5_reported_1 o ml l g a hS hb
  · exact SX5_reported_2 o ml l g a hS hb
  · exact SX5_reported_3 o ml l g a hS hb
  · exact SX5_reported_4 o ml l g a hS hb
  · exact SX5_reported_5 o ml l g a hS hb
theorem SBmem {o ml l m g b : Nat} {a4 a5 : Int32} {W : q_V} (hS : SB W o b) (hb : b + 4 ≤ 2000000000) : SB (fX5_member o ml l m g a4 a5 W) o (b + 4) := by
  have hS1 : SB (vset (vset W (o + 11) (48 * l + 8 * m + g) a4) (o + 12) (48 * l + 8 * m + g) a5) o b := (hS.vs (Or.inl (by omega))).vs (Or.inl (by omega))
  have r5 : ∀ {a : Int32} {U : q_V} {c : Nat}, SB U o c → c + 2 ≤ 2000000000 → SB (fX5_reported_5 o ml l g a U) o (c + 2) := fun {a U c} h h2 => SX5_reported_5 o ml l g a h h2
  have r4 : ∀ {a : Int32} {U : q_V} {c : Nat}, SB U o c → c + 2 ≤ 2000000000 → SB (fX5_reported_4 o ml l g a U) o (c + 2) := fun {a U c} h h2 => SX5_reported_4 o ml l g a h h2
  dsimp only [fX5_member]
  split
  · split
    · split
      · split
        · exact hS1.mo (by omega)
        · exact (r5 hS1 (by omega)).mo (by omega)
      · split
        · exact (r4 hS1 (by omega)).mo (by omega)
        · exact (r5 (r4 hS1 (by omega)) (by omega)).mo (by omega)
    · split
      · split
        · exact hS1.mo (by omega)
        · exact (r5 hS1 (by omega)).mo (by omega)
      · split
        · exact (r4 hS1 (by omega)).mo (by omega)
        · exact (r5 (r4 hS1 (by omega)) (by omega)).mo (by omega)
  · split
    · exact (SX5_reported_2 o ml l g a5 hS1 (by omega)).mo (by omega)
    · exact (SX5_reported_3 o ml l g a5 hS1 (by omega)).mo (by omega)
theorem SBans {o ml l m b : Nat} {W : q_V} (hS : SB W o b) (hb : b + 16 ≤ 2000000000) : SB (fX5_answer o ml l m W) o (b + 16) := by
  dsimp only [fX5_answer]
  have key : ∀ (B : Nat → Int32 × q_V → Int32 × q_V), (∀ k s c, k < 8 → SB s.2 o c → c + 2 ≤ 2000000000 → SB (B k s).2 o (c + 2)) → SB (lp B 8 0 (nI 0, W)).2 o (b + 16) := fun B hB => by
    have h := lp_rel (B := B) (B' := fun _ (u : Unit) => u) (I := fun k s _ => SB s.2 o (b + 2 * k)) 8 0 (nI 0, W) () (hS.mo (by omega)) (fun k s _ _ hk h => (hB k s _ (by omega) h (by omega)).mo (by omega))
    exact h.mo (by omega)
  refine key _ fun k s c hk h h2 => ?_
  try dsimp only
  split
  · split
    · exact h.mo (by omega)
    · exact SX5_reported_0 o ml l k _ h h2
  · exact SX5_reported_1 o ml l k _ h h2
section STEP
variable {V S : q_V} {X many o l g b : Nat} {x y : Int32}
theorem rel_mid (hXo : X + 7 + 37 * many = o) (hm4 : many ≤ 4) (h : Rel V V X many o) (hC : aC (X + 2 + 37 * many + 5) V S) : Rel V (vset (vset S (o + 17) 0 x) o 0 y) X many o := h.cg hm4 (fun _ _ _ => rfl) (fun j q h1 h2 h3 => by rw [vs_no h3, vs_nr (by omega), hC j (by omega)])
theorem rel_fin {V2 : q_V} (hXo : X + 7 + 37 * many = o) (hm4 : many ≤ 4) (h2 : Rel S V2 X many o) (hR : aR o (vset (vset S (o + 17) 0 x) o 0 y) V2) : Rel V2 V2 X many o := h2.cg hm4 (fun j h1 h3 => (hR j (Or.inl (by omega))).trans (by rw [vs_nr (by omega), vs_nr (by omega)])) (fun _ _ _ _ _ => rfl)
theorem sb_mid (hXo : X + 7 + 37 * many = o) (hS : SB V o b) (hC : aC (X + 2 + 37 * many + 5) V S) : SB (vset (vset S (o + 17) 0 x) o 0 y) o b := SB.cg hS (by rw [vs_nk (by decide), vs_nr (by omega), hC o (by omega)])
theorem out_mid {V2 : q_V} (hR : aR o (vset (vset S (o + 17) 0 x) o 0 y) V2) : V2 (o + 17) 0 = x := by
  rw [hR (o + 17) (Or.inr (Nat.le_refl _)), vs_nr (by omega), vs_at]
theorem th_mid {V2 : q_V} (hT : aT o (vset (vset S (o + 17) 0 x) o 0 y) V2) : V2 o 0 = y := Eq.trans hT vs_at
theorem rel_bad (hXo : X + 7 + 37 * many = o) (hm4 : many ≤ 4) (h : Rel V V X many o) : Rel (vset V o 0 y) (vset V o 0 y) X many o := h.cg hm4 (fun j h1 h2 => vs_nr (by omega)) (fun j q h1 h2 h3 => vs_no h3)
theorem rel_pure (hXo : X + 7 + 37 * many = o) (hm4 : many ≤ 4) (h : Rel V V X many o) : Rel (vset (vset V (o + 17) 0 x) o 0 y) (vset (vset V (o + 17) 0 x) o 0 y) X many o := rel_fin hXo hm4 (rel_mid hXo hm4 h aC.rf) aR.rf
theorem sb_bad (hS : SB V o b) : SB (vset V o 0 y) o b := hS.vs (Or.inr (by decide))
theorem sb_pure (hXo : X + 7 + 37 * many = o) (hS : SB V o b) : SB (vset (vset V (o + 17) 0 x) o 0 y) o b := sb_mid (X := X) (many := many) hXo hS aC.rf
theorem st_settings {a2 a3 a4 : Int32} (hXo : X + 7 + 37 * many = o) (hm4 : many ≤ 4) (h : Rel V V X many o) (hS : SB V o b) (hl : l < many) (h2 : inZ a2 1 8) (h3 : inZ a3 1 201) (h4 : inZ a4 1 (a3.toInt + 1)) : Rel (fX5_settings o many l a2 a3 a4 (vset (vset (fX4_settings X many l a2 a3 a4 V) (o + 17) 0 x) o 0 (nI 0))) (fX5_settings o many l a2 a3 a4 (vset (vset (fX4_settings X many l a2 a3 a4 V) (o + 17) 0 x) o 0 (nI 0))) X many o ∧ SB (fX5_settings o many l a2 a3 a4 (vset (vset (fX4_settings X many l a2 a3 a4 V) (o + 17) 0 x) o 0 (nI 0))) o b :=
  ⟨rel_fin hXo hm4 ((rel_mid hXo hm4 h (aC.settings hl)).settings hl h2 h3 h4) aR.settings, ((((sb_mid (X := X) (many := many) hXo hS (aC.settings hl)).vs (Or.inl (by omega))).vs (Or.inl (by omega))).vs (Or.inl (by omega))).vs (Or.inl (by omega))⟩
theorem st_rep {a : Int32} {k : Nat} (hXo : X + 7 + 37 * many = o) (hm4 : many ≤ 4) (h : Rel V V X many o) (hS : SB V o b) (hb : b + 2 ≤ 2000000000) (hl : l < many) (hg : g < 8) (hk : k < 6) (ha : S16 a) : Rel (fX5_report o many l g a k (vset (vset (fX4_report X many l g a k V) (o + 17) 0 x) o 0 (nI 0))) (fX5_report o many l g a k (vset (vset (fX4_report X many l g a k V) (o + 17) 0 x) o 0 (nI 0))) X many o ∧ SB (fX5_report o many l g a k (vset (vset (fX4_report X many l g a k V) (o + 17) 0 x) o 0 (nI 0))) o (b + 2) ∧ vX4_report X many l g a k V = vX5_report o many l g a k (vset (vset (fX4_report X many l g a k V) (o + 17) 0 x) o 0 (nI 0)) := by
  have hm := rel_mid (x := x) (y := nI 0) hXo hm4 h (aC.rep (V := V) (a := a) hl hg hk)
  have hs := sb_mid (X := X) (many := many) (x := x) (y := nI 0) hXo hS (aC.rep (V := V) (a := a) hl hg hk)
  have h2 := hm.rep (ml := many) hl hg ha hs hb hk
  exact ⟨rel_fin hXo hm4 h2 (aR.rep hk), SBrep hk hs hb, hm.vrep hk h2⟩
theorem st_mem {a4 a5 : Int32} {m : Nat} (hXo : X + 7 + 37 * many = o) (hm4 : many ≤ 4) (h : Rel V V X many o) (hS : SB V o b) (hb : b + 4 ≤ 2000000000) (hl : l < many) (hm : m < 6) (hg : g < 8) (h4 : q_bl a4) (h5 : S16 a5) : Rel (fX5_member o many l m g a4 a5 (vset (vset (fX4_member X many l m g a4 a5 V) (o + 17) 0 x) o 0 (nI 0))) (fX5_member o many l m g a4 a5 (vset (vset (fX4_member X many l m g a4 a5 V) (o + 17) 0 x) o 0 (nI 0))) X many o ∧ SB (fX5_member o many l m g a4 a5 (vset (vset (fX4_member X many l m g a4 a5 V) (o + 17) 0 x) o 0 (nI 0))) o (b + 4) ∧ vX4_member X many l m g a4 a5 V = vX5_member o many l m g a4 a5 (vset (vset (fX4_member X many l m g a4 a5 V) (o + 17) 0 x) o 0 (nI 0)) := by
  have hmd := rel_mid (x := x) (y := nI 0) hXo hm4 h (aC.member (V := V) (a4 := a4) (a5 := a5) hl hm hg)
  have hs := sb_mid (X := X) (many := many) (x := x) (y := nI 0) hXo hS (aC.member (V := V) (a4 := a4) (a5 := a5) hl hm hg)
  have h2 := hmd.member (ml := many) hl hm hg hm4 h4 h5 hs hb
  exact ⟨rel_fin hXo hm4 h2 aR.member, SBmem hs hb, hmd.vmem h2⟩
theorem st_ans {m : Nat} (hXo : X + 7 + 37 * many = o) (hm4 : many ≤ 4) (h : Rel V V X many o) (hS : SB V o b) (hb : b + 16 ≤ 2000000000) (hl : l < many) (hm : m < 6) : Rel (fX5_answer o many l m (vset (vset (fX4_answer X many l m V) (o + 17) 0 x) o 0 (nI 0))) (fX5_answer o many l m (vset (vset (fX4_answer X many l m V) (o + 17) 0 x) o 0 (nI 0))) X many o ∧ SB (fX5_answer o many l m (vset (vset (fX4_answer X many l m V) (o + 17) 0 x) o 0 (nI 0))) o (b + 16) := by
  have hmd := rel_mid (x := x) (y := nI 0) hXo hm4 h (aC.answer (V := V) (m := m) hl)
  have hs := sb_mid (X := X) (many := many) (x := x) (y := nI 0) hXo hS (aC.answer (V := V) (m := m) hl)
  exact ⟨rel_fin hXo hm4 (hmd.answer (ml := many) hl hm hs hb) aR.answer, SBans hs hb⟩
theorem st_tick {k : Nat} (hXo : X + 7 + 37 * many = o) (hm4 : many ≤ 4) (h : Rel V V X many o) (hS : SB V o b) (hb : b + 8000 ≤ 2000000000) (hk : k ≤ 2000) : Rel (fX5_tick o many k (vset (vset (fX4_tick X many k V) (o + 17) 0 x) o 0 (nI 0))) (fX5_tick o many k (vset (vset (fX4_tick X many k V) (o + 17) 0 x) o 0 (nI 0))) X many o ∧ SB (fX5_tick o many k (vset (vset (fX4_tick X many k V) (o + 17) 0 x) o 0 (nI 0))) o (b + 8000) ∧ vX4_tick X many k V = vX5_tick o many k (vset (vset (fX4_tick X many k V) (o + 17) 0 x) o 0 (nI 0)) := by
  have hmd := rel_mid (x := x) (y := nI 0) hXo hm4 h (aC.tick (V := V) (k := k))
  have hs := sb_mid (X := X) (many := many) (x := x) (y := nI 0) hXo hS (aC.tick (V := V) (k := k))
  obtain ⟨t1, t2, t3⟩ := hmd.tick hm4 hk hs hb
  exact ⟨rel_fin hXo hm4 t1 aR.tick, t3, t2⟩
theorem SBqn {W : q_V} {a2 a4 a5 : Int32} (hS : SB W o b) : SB (fX5_query_n o many l a2 a4 a5 W) o b := by
  rw [qn_eq]
  split
  · exact hS
  · exact (hS.vs (Or.inl (by omega))).vs (Or.inl (by omega))
theorem SBqg {W : q_V} {a2 a4 a5 : Int32} (hg : g < 8) (hS : SB W o b) : SB (fX5_query_g o many l a2 g a4 a5 W) o b := by
  rw [qg_eq hg]
  have h1 : SB (yW W o l a2) o b := (hS.vs (Or.inl (by omega))).vs (Or.inl (by omega))
  split
  · exact hS
  · split
    · split
      · exact SX5_lowerGroup o many l _ h1
      · exact SX5_lower o many l _ a4 h1
    · exact h1
theorem st_qn {a2 a4 a5 : Int32} (hXo : X + 7 + 37 * many = o) (hm4 : many ≤ 4) (h : Rel V V X many o) (hS : SB V o b) (hl : l < many) (h2 : inZ a2 0 1000) : Rel (fX5_query_n o many l a2 a4 a5 (vset (vset (fX4_query_n X many l a2 a4 a5 V) (o + 17) 0 x) o 0 (nI 0))) (fX5_query_n o many l a2 a4 a5 (vset (vset (fX4_query_n X many l a2 a4 a5 V) (o + 17) 0 x) o 0 (nI 0))) X many o ∧ SB (fX5_query_n o many l a2 a4 a5 (vset (vset (fX4_query_n X many l a2 a4 a5 V) (o + 17) 0 x) o 0 (nI 0))) o b :=
  ⟨rel_fin hXo hm4 ((rel_mid hXo hm4 h (aC.query_n hl)).query_n hl h2) aR.query_n, SBqn (sb_mid (X := X) (many := many) hXo hS (aC.query_n hl))⟩
theorem st_qg {a2 a4 a5 : Int32} (hXo : X + 7 + 37 * many = o) (hm4 : many ≤ 4) (h : Rel V V X many o) (hS : SB V o b) (hl : l < many) (hg : g < 8) (h2 : inZ a2 0 1000) : Rel (fX5_query_g o many l a2 g a4 a5 (vset (vset (fX4_query_g X many l a2 g a4 a5 V) (o + 17) 0 x) o 0 (nI 0))) (fX5_query_g o many l a2 g a4 a5 (vset (vset (fX4_query_g X many l a2 g a4 a5 V) (o + 17) 0 x) o 0 (nI 0))) X many o ∧ SB (fX5_query_g o many l a2 g a4 a5 (vset (vset (fX4_query_g X many l a2 g a4 a5 V) (o + 17) 0 x) o 0 (nI 0))) o b :=
  ⟨rel_fin hXo hm4 ((rel_mid hXo hm4 h (aC.query_g hl hg)).query_g hl hg h2) (aR.query_g hg), SBqg hg (sb_mid (X := X) (many := many) hXo hS (aC.query_g hl hg))⟩
theorem st_clear (hXo : X + 7 + 37 * many = o) (hm4 : many ≤ 4) (h : Rel V V X many o) : Rel (fX5_clear o many (fX4_clear X many V)) (fX5_clear o many (fX4_clear X many V)) X many o ∧ SB (fX5_clear o many (fX4_clear X many V)) o 0 := by
  have hmd : Rel V (fX4_clear X many V) X many o := h.cg hm4 (fun _ _ _ => rfl) (fun j q h1 h2 h3 => congrFun (aC.clear (V := V) j (by omega)) q)
  have h2 := hmd.clear (ml := many) hm4
  refine ⟨h2.cg hm4 (fun j h1 h3 => aR.clear (W := fX4_clear X many V) j (Or.inl (by omega))) (fun _ _ _ _ _ => rfl), ?_⟩
  have hc : CM (fX5_clear o many (fX4_clear X many V)) o := beg_c (ml := many)
  unfold SB
  rw [hc.2.2.2.2.2, nI_toInt (by decide)]
  exact ⟨by decide, by decide⟩
end STEP

