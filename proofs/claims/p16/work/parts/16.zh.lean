/-! ===== what each leaves alone ===== -/
def aC (hi : Nat) (V V' : q_V) : Prop := ∀ j, hi ≤ j → V' j = V j
def aR (o : Nat) (W W' : q_V) : Prop := ∀ j, j < o ∨ o + 17 ≤ j → W' j = W j
theorem aC.rf {hi : Nat} {V : q_V} : aC hi V V := fun _ _ => rfl
theorem aC.tr {hi : Nat} {V V' V'' : q_V} (h : aC hi V V') (k : aC hi V' V'') : aC hi V V'' := fun j hj => (k j hj).trans (h j hj)
theorem aR.rf {o : Nat} {W : q_V} : aR o W W := fun _ _ => rfl
theorem aR.tr {o : Nat} {W W' W'' : q_V} (h : aR o W W') (k : aR o W' W'') : aR o W W'' := fun j hj => (k j hj).trans (h j hj)
theorem aR.of {o at_ : Nat} {W W' : q_V} (h : rfr W W' o at_) : aR o W W' := fun j hj => by
  funext q
  exact h j q (by omega) (by omega)
theorem aR.vs {o : Nat} {W W' : q_V} {a k : Nat} {x : Int32} (h : aR o W W') (h1 : o ≤ a) (h2 : a < o + 17) : aR o W (vset W' a k x) := fun j hj => (vs_nr (by omega)).trans (h j hj)
theorem aR.sd {o ml : Nat} {x y z : Int32} {W : q_V} : aR o W (fX5_send o ml x y z W) := fun j hj => by
  funext q
  rw [send_eq, if_neg (by omega), if_neg (by omega), if_neg (by omega), if_neg (by omega), if_neg (by omega)]
theorem aR.ask {o ml l g : Nat} {a : Int32} {W : q_V} : aR o W (fX5_ask o ml l g a W) := by
  dsimp only [fX5_ask]
  split
  · exact aR.rf
  · split
    · exact aR.rf
    · exact aR.sd.tr (aR.of rfr.lw)
theorem aR.askG {o ml l g : Nat} {W : q_V} : aR o W (fX5_askGroup o ml l g W) := by
  dsimp only [fX5_askGroup]
  split
  · exact aR.rf
  · exact aR.sd.tr (aR.of rfr.lg)
theorem aR.b0 {o ml at_ : Nat} {a b : Int32} {W : q_V} : aR o W (fX5_become_0 o ml at_ a b W) := aR.of rfr.b0
theorem aR.b1 {o ml at_ : Nat} {a b : Int32} {W : q_V} : aR o W (fX5_become_1 o ml at_ a b W) := aR.of rfr.b1
theorem aR.st {o ml at_ : Nat} {a x : Int32} {W : q_V} : aR o W (fX5_setTimers o ml at_ a x W) := aR.of rfr.st
theorem aR.g8 {o at_ : Nat} {x : Int32} {W : q_V} : aR o W (vset W (o + 8) at_ x) := aR.of rfr.g8
theorem aR.rep0 {o ml l g : Nat} {a : Int32} {W : q_V} : aR o W (fX5_reported_0 o ml l g a W) := by
  dsimp only [fX5_reported_0, fX5_excluding_0, fX5_including_0]
  split
  · exact aR.b1.tr aR.st
  · exact aR.b0.tr aR.st
theorem aR.rep1 {o ml l g : Nat} {a : Int32} {W : q_V} : aR o W (fX5_reported_1 o ml l g a W) := by
  dsimp only [fX5_reported_1, fX5_excluding_1, fX5_including_1]
  split
  · exact (aR.b1.tr aR.st).tr aR.g8
  · exact aR.b1.tr aR.g8
theorem aR.rep2 {o ml l g : Nat} {a : Int32} {W : q_V} : aR o W (fX5_reported_2 o ml l g a W) := by
  dsimp only [fX5_reported_2, fX5_excluding_2, fX5_including_2]
  split
  · exact ((aR.b1.tr aR.st).tr aR.ask).tr aR.askG
  · exact (aR.b0.tr aR.st).tr aR.ask
theorem aR.rep3 {o ml l g : Nat} {a : Int32} {W : q_V} : aR o W (fX5_reported_3 o ml l g a W) := by
  dsimp only [fX5_reported_3, fX5_excluding_3, fX5_including_3]
  split
  · exact ((aR.b1.tr aR.st).tr aR.g8).tr aR.ask
  · exact (aR.b1.tr aR.g8).tr aR.ask
theorem aR.rep4 {o ml l g : Nat} {a : Int32} {W : q_V} : aR o W (fX5_reported_4 o ml l g a W) := by
  dsimp only [fX5_reported_4, fX5_excluding_4, fX5_including_4]
  split
  · exact aR.b1.tr aR.st
  · exact aR.b0.tr aR.st
theorem aR.rep5 {o ml l g : Nat} {a : Int32} {W : q_V} : aR o W (fX5_reported_5 o ml l g a W) := by
  dsimp only [fX5_reported_5, fX5_excluding_5, fX5_including_5]
  split
  · exact (aR.b1.tr aR.st).tr aR.ask
  · exact aR.ask
theorem aR.rep {o ml l g k : Nat} {a : Int32} {W : q_V} (hk : k < 6) : aR o W (fX5_report o ml l g a k W) := by
  rcases (show k = 0 ∨ k = 1 ∨ k = 2 ∨ k = 3 ∨ k = 4 ∨ k = 5 by omega) with rfl | rfl | rfl | rfl | rfl | rfl
  · exact aR.rep0
  · exact aR.rep1
  · exact aR.rep2
  · exact aR.rep3
  · exact aR.rep4
  · exact aR.rep5
theorem aR.settings {o ml l : Nat} {a2 a3 a4 : Int32} {W : q_V} : aR o W (fX5_settings o ml l a2 a3 a4 W) := (((aR.rf.vs (by omega) (by omega)).vs (by omega) (by omega)).vs (by omega) (by omega)).vs (by omega) (by omega)
theorem aR.yW {o l : Nat} {a : Int32} {W : q_V} : aR o W (yW W o l a) := (aR.rf.vs (by omega) (by omega)).vs (by omega) (by omega)
theorem aR.query_n {o ml l : Nat} {a2 a4 a5 : Int32} {W : q_V} : aR o W (fX5_query_n o ml l a2 a4 a5 W) := by
  rw [qn_eq]
  split
  · exact aR.rf
  · exact aR.yW
theorem aR.query_g {o ml l g : Nat} {a2 a4 a5 : Int32} {W : q_V} (hg : g < 8) : aR o W (fX5_query_g o ml l a2 g a4 a5 W) := by
  rw [qg_eq hg]
  split
  · exact aR.rf
  · split
    · split
      · exact aR.yW.tr (aR.of rfr.lg)
      · exact aR.yW.tr (aR.of rfr.lw)
    · exact aR.yW
theorem aR.member {o ml l m g : Nat} {a4 a5 : Int32} {W : q_V} : aR o W (fX5_member o ml l m g a4 a5 W) := by
  have h0 : ∀ {W' : q_V}, aR o (vset (vset W (o + 11) (48 * l + 8 * m + g) a4) (o + 12) (48 * l + 8 * m + g) a5) W' → aR o W W' := fun h => ((aR.rf.vs (by omega) (by omega)).vs (by omega) (by omega)).tr h
  dsimp only [fX5_member]
  refine h0 ?_
  split
  · split
    · split
      · split
        · exact aR.rf
        · exact aR.rep5
      · split
        · exact aR.rep4
        · exact aR.rep4.tr aR.rep5
    · split
      · split
        · exact aR.rf
        · exact aR.rep5
      · split
        · exact aR.rep4
        · exact aR.rep4.tr aR.rep5
  · split
    · exact aR.rep2
    · exact aR.rep3
theorem lp_inv {σ : Type} {B : Nat → σ → σ} {I : σ → Prop} (hB : ∀ k s, I s → I (B k s)) : ∀ (d k : Nat) (s : σ), I s → I (lp B d k s)
  | 0, _, _, h => h
  | d + 1, k, s, h => lp_inv hB d (k + 1) (B k s) (hB k s h)
theorem aR.answer {o ml l m : Nat} {W : q_V} : aR o W (fX5_answer o ml l m W) := by
  dsimp only [fX5_answer]
  refine lp_inv (I := fun s => aR o W s.2) (fun k s hs => ?_) 8 0 (nI 0, W) aR.rf
  split
  · split
    · exact hs
    · exact hs.tr aR.rep0
  · exact hs.tr aR.rep1
theorem aR.tick {o ml m : Nat} {W : q_V} : aR o W (fX5_tick o ml m W) := by
  rw [tick_f]
  refine lp_inv (I := fun s => aR o W s.2) (fun _ s hs => ?_) m 0 (nI 0, W) aR.rf
  unfold tk1 tkLnk
  refine lp_inv (I := fun s : Int32 × q_V => aR o W s.2) (fun k s hs => ?_) ml 0 _ ?_
  · have hl : aR o s.2 (fX5_tickLink o ml k s.2) := by
      dsimp only [fX5_tickLink]
      split
      · split
        · exact ((aR.rf.vs (by omega) (by omega)).vs (by omega) (by omega)).tr aR.sd
        · exact aR.rf.vs (by omega) (by omega)
      · split
        · exact ((aR.rf.vs (by omega) (by omega)).vs (by omega) (by omega)).vs (by omega) (by omega)
        · exact aR.rf.vs (by omega) (by omega)
    unfold tkLB
    split
    · exact hs.tr hl
    · exact hs.tr hl
  · show aR o W (tkRec o ml (vset s.2 o 14 (s.2 o 14 + nI 1)))
    refine (hs.vs (a := o) (k := 14) (x := s.2 o 14 + nI 1) (by omega) (by omega)).tr ?_
    unfold tkRec
    exact lp_inv (I := fun U => aR o (vset s.2 o 14 (s.2 o 14 + nI 1)) U) (fun k U hU => hU.tr (aR.of tkr_f)) (8 * ml) 0 _ aR.rf
theorem aR.clear {o ml : Nat} {W : q_V} : aR o W (fX5_clear o ml W) := by
  dsimp only [fX5_clear, fX5_begin]
  refine aR.vs (aR.vs ?_ (by omega) (by omega)) (by omega) (by omega)
  refine lp_inv (I := fun U => aR o W U) (fun k U hU => (hU.vs (by omega) (by omega)).vs (by omega) (by omega)) 192 0 _ ?_
  refine lp_inv (I := fun U => aR o W U) (fun k U hU => (hU.vs (by omega) (by omega)).vs (by omega) (by omega)) 512 0 _ ?_
  refine lp_inv (I := fun U => aR o W U) (fun k U hU => (hU.vs (by omega) (by omega)).vs (by omega) (by omega)) 32 0 _ ?_
  exact lp_inv (I := fun U => aR o W U) (fun k U hU => (((((hU.vs (by omega) (by omega)).vs (by omega) (by omega)).vs (by omega) (by omega)).vs (by omega) (by omega)).vs (by omega) (by omega)).vs (by omega) (by omega)) 4 0 _ (aR.rf.vs (by omega) (by omega))
/-! the class -/
section ACS
variable {V : q_V} {X many l g m : Nat}
theorem aC.asks {a : Int32} (hl : l < many) (hg : g < 8) : aC (X + 2 + 37 * many + 5) V (fX1_askSources (X + 2 + 37 * l) (X + 2 + 37 * many) g a V) := fun j hj => by
  dsimp only [fX1_askSources]
  split
  · rfl
  · split
    · rfl
    · rw [low_f (by omega), add_f (by omega)]
theorem aC.askG (hl : l < many) (hg : g < 8) : aC (X + 2 + 37 * many + 5) V (fX1_askGroup (X + 2 + 37 * l) (X + 2 + 37 * many) g V) := fun j hj => by
  dsimp only [fX1_askGroup]
  split
  · rfl
  · rw [own_f (by omega), add_f (by omega)]
theorem aC.allow {a x : Int32} (hl : l < many) (hg : g < 8) : aC (X + 2 + 37 * many + 5) V (fX0_allow (X + 2 + 37 * l + 3 + 2 * g) a x V) := fun j hj => allow_f (by omega) (by omega)
theorem aC.excl {a x y : Int32} (hl : l < many) (hg : g < 8) : aC (X + 2 + 37 * many + 5) V (fX0_exclude (X + 2 + 37 * l + 3 + 2 * g) a x y V) := fun j hj => excl_f (by omega) (by omega)
theorem aC.block {a : Int32} (hl : l < many) (hg : g < 8) : aC (X + 2 + 37 * many + 5) V (fX0_block (X + 2 + 37 * l + 3 + 2 * g) a V) := fun j hj => block_f (by omega) (by omega)
theorem aC.rep {a : Int32} {k : Nat} (hl : l < many) (hg : g < 8) (hk : k < 6) : aC (X + 2 + 37 * many + 5) V (fX4_report X many l g a k V) := by
  rcases (show k = 0 ∨ k = 1 ∨ k = 2 ∨ k = 3 ∨ k = 4 ∨ k = 5 by omega) with rfl | rfl | rfl | rfl | rfl | rfl
  · exact aC.allow hl hg
  · exact aC.excl hl hg
  · show aC _ V (fX1_hearToIn (X + 2 + 37 * l) (X + 2 + 37 * many) g a V)
    dsimp only [fX1_hearToIn]
    split
    · exact (aC.allow hl hg).tr (aC.asks hl hg)
    · exact ((aC.allow hl hg).tr (aC.asks hl hg)).tr (aC.askG hl hg)
  · exact (aC.excl hl hg).tr (aC.asks hl hg)
  · exact aC.allow hl hg
  · exact (aC.block hl hg).tr (aC.asks hl hg)
theorem aC.settings {a2 a3 a4 : Int32} (hl : l < many) : aC (X + 2 + 37 * many + 5) V (fX4_settings X many l a2 a3 a4 V) := fun j hj => set_f (by omega)
theorem aC.query_n {a2 a4 a5 : Int32} (hl : l < many) : aC (X + 2 + 37 * many + 5) V (fX4_query_n X many l a2 a4 a5 V) := fun j hj => by
  dsimp only [fX4_query_n]
  split
  · rfl
  · exact yield_f (by omega)
theorem aC.query_g {a2 a4 a5 : Int32} (hl : l < many) (hg : g < 8) : aC (X + 2 + 37 * many + 5) V (fX4_query_g X many l a2 g a4 a5 V) := fun j hj => by
  have e : fX1_yieldTo (X + 2 + 37 * l) a2 V j = V j := yield_f (by omega)
  dsimp only [fX4_query_g, fX1_hearQuery]
  split
  · rfl
  · split
    · exact e
    · split
      · split
        · rw [own_f (by omega), e]
        · rw [low_f (by omega), e]
      · exact e
theorem aC.member {a4 a5 : Int32} (hl : l < many) (hm : m < 6) (hg : g < 8) : aC (X + 2 + 37 * many + 5) V (fX4_member X many l m g a4 a5 V) := by
  have h0 : ∀ {V' : q_V}, aC (X + 2 + 37 * many + 5) (vset (vset V (X + 2 + 37 * l + 19 + 3 * m + 1) g a5) (X + 2 + 37 * l + 19 + 3 * m + 2) g a4) V' → aC (X + 2 + 37 * many + 5) V V' := fun h j hj => (h j hj).trans (by rw [vs_nr (by omega), vs_nr (by omega)])
  dsimp only [fX4_member, fX1_changeWish]
  refine h0 ?_
  have r2 : ∀ {a : Int32} {U : q_V}, aC (X + 2 + 37 * many + 5) U (fX1_hearReport_2 (X + 2 + 37 * l) (X + 2 + 37 * many) g a U) := fun {a U} => aC.rep (V := U) (a := a) (k := 2) hl hg (by decide)
  have r3 : ∀ {a : Int32} {U : q_V}, aC (X + 2 + 37 * many + 5) U (fX1_hearReport_3 (X + 2 + 37 * l) (X + 2 + 37 * many) g a U) := fun {a U} => aC.rep (V := U) (a := a) (k := 3) hl hg (by decide)
  have r4 : ∀ {a : Int32} {U : q_V}, aC (X + 2 + 37 * many + 5) U (fX1_hearReport_4 (X + 2 + 37 * l) (X + 2 + 37 * many) g a U) := fun {a U} => aC.rep (V := U) (a := a) (k := 4) hl hg (by decide)
  have r5 : ∀ {a : Int32} {U : q_V}, aC (X + 2 + 37 * many + 5) U (fX1_hearReport_5 (X + 2 + 37 * l) (X + 2 + 37 * many) g a U) := fun {a U} => aC.rep (V := U) (a := a) (k := 5) hl hg (by decide)
  split
  · split
    · split
      · split
        · exact aC.rf
        · exact r5
      · split
        · exact r4
        · exact r4.tr r5
    · split
      · split
        · exact aC.rf
        · exact r5
      · split
        · exact r4
        · exact r4.tr r5
  · split
    · exact r2
    · exact r3
theorem lp_invk {σ : Type} {B : Nat → σ → σ} {I : σ → Prop} : ∀ (d k : Nat) (s : σ), I s → (∀ k2 s, k ≤ k2 → k2 < k + d → I s → I (B k2 s)) → I (lp B d k s)
  | 0, _, _, h, _ => h
  | d + 1, k, s, h, hB => lp_invk d (k + 1) (B k s) (hB k s (by omega) (by omega) h) (fun k2 s h1 h2 => hB k2 s (by omega) (by omega))
theorem aC.answer (hl : l < many) : aC (X + 2 + 37 * many + 5) V (fX4_answer X many l m V) := by
  dsimp only [fX4_answer, fX1_letAnswer]
  refine lp_invk (I := fun s => aC (X + 2 + 37 * many + 5) V s.2) 8 0 (nI 0, V) aC.rf (fun k s h1 h2 hs => ?_)
  split
  · split
    · exact hs
    · exact hs.tr (aC.rep (V := s.2) (k := 0) hl (by omega) (by decide))
  · exact hs.tr (aC.rep (V := s.2) (k := 1) hl (by omega) (by decide))
theorem aC.tick {k : Nat} : aC (X + 2 + 37 * many + 5) V (fX4_tick X many k V) := fun j hj => by
  have ef : fX4_tick X many k V = rcL X many k (nI k) (ageAll X many (nI k) V) := rfl
  rw [ef, rcL_f ⟨fun l hl => by omega, by omega⟩]
  unfold ageAll
  refine lp_invk (I := fun U : q_V => U j = V j) many 0 V rfl (fun l U h1 h2 hU => ?_)
  refine Eq.trans ?_ hU
  dsimp only [fX1_ageFilters]
  exact lp_invk (I := fun Z : q_V => Z j = U j) 8 0 U rfl (fun g Z h3 h4 hZ => (age_f (by omega) (by omega)).trans hZ)
theorem aC.clear : aC (X + 2 + 37 * many + 5) V (fX4_clear X many V) := fun j hj => by
  dsimp only [fX4_clear, fX3_reset]
  rw [vs_nr (by omega), vs_nr (by omega)]
  exact lp_invk (I := fun U : q_V => U j = V j) many 0 V rfl (fun l U h1 h2 hU => ((rs1 (V := U) (B := X + 2 + 37 * l)).2.2 j (by omega)).trans hU)
end ACS
theorem Rel.cg {V V' W W' : q_V} {X many o : Nat} (h : Rel V W X many o) (hm4 : many ≤ 4) (h1 : ∀ j, X ≤ j → j < X + 2 + 37 * many + 5 → V' j = V j) (h2 : ∀ j q, o ≤ j → j < o + 17 → (j ≠ o ∨ q ≠ 0) → W' j q = W j q) : Rel V' W' X many o := by
  refine ⟨fun l hl g hg => ?_, fun l hl => ?_, fun l hl m hm g hg => ?_, ?_⟩
  · exact (h.1 l hl g hg).cg (h1 _ (by omega) (by omega)) (h1 _ (by omega) (by omega)) (h2 _ _ (by omega) (by omega) (by omega)) (h2 _ _ (by omega) (by omega) (by omega)) (fun s hs => h2 _ _ (by omega) (by omega) (by omega)) (fun s hs => h2 _ _ (by omega) (by omega) (by omega))
  · exact (h.2.1 l hl).cg (h1 _ (by omega) (by omega)) (fun r a b => h2 _ _ (by omega) (by omega) (by omega))
  · exact (h.2.2.1 l hl m hm g hg).cg (congrFun (h1 _ (by omega) (by omega)) _) (congrFun (h1 _ (by omega) (by omega)) _) (h2 _ _ (by omega) (by omega) (by omega)) (h2 _ _ (by omega) (by omega) (by omega))
  · exact h.2.2.2.cg (fun r hr => h1 _ (by omega) (by omega)) (h2 _ _ (by omega) (by omega) (by omega)) (h2 _ _ (by omega) (by omega) (by omega)) (fun r hr j => h2 _ _ (by omega) (by omega) (by omega))

