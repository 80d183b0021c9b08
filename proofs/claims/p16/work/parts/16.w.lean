/-! ===== the two records, and what both keep ===== -/
def tmr (x : Int32) : Prop := ∃ t : Nat, 1 ≤ t ∧ t ≤ 2000 ∧ x = nI t
theorem tmr.ne {x : Int32} (h : tmr x) : x ≠ 0 := by
  obtain ⟨t, h1, h2, rfl⟩ := h
  intro e
  have := congrArg Int32.toInt e
  rw [nI_toInt (by omega), Int32.toInt_zero] at this
  omega
def FW (V : q_V) (i : Nat) : Prop := (q_bl (V i 1)) ∧ (S16 (V i 2)) ∧ (S16 (V i 3)) ∧ (∀ s, s < 16 → bt (V i 2) s → ¬ bt (V i 3) s) ∧ (V i 1 = 0 → V i 3 = 0 ∧ V i 4 = 0) ∧ (V i 1 ≠ 0 → tmr (V i 4)) ∧ (∀ s, s < 16 → bt (V i 2) s → tmr (V (i + 1) s)) ∧ (∀ s, s < 16 → ¬ bt (V i 2) s → V (i + 1) s = 0)
theorem FW.b {V : q_V} {i : Nat} (h : FW V i) : q_bl (V i 1) := h.1
theorem FW.r {V : q_V} {i : Nat} (h : FW V i) : S16 (V i 2) := h.2.1
theorem FW.y {V : q_V} {i : Nat} (h : FW V i) : S16 (V i 3) := h.2.2.1
theorem FW.d {V : q_V} {i : Nat} (h : FW V i) : ∀ s, s < 16 → bt (V i 2) s → ¬ bt (V i 3) s := h.2.2.2.1
theorem FW.n {V : q_V} {i : Nat} (h : FW V i) : V i 1 = 0 → V i 3 = 0 ∧ V i 4 = 0 := h.2.2.2.2.1
theorem FW.g {V : q_V} {i : Nat} (h : FW V i) : V i 1 ≠ 0 → tmr (V i 4) := h.2.2.2.2.2.1
theorem FW.t {V : q_V} {i : Nat} (h : FW V i) : ∀ s, s < 16 → bt (V i 2) s → tmr (V (i + 1) s) := h.2.2.2.2.2.2.1
theorem FW.z {V : q_V} {i : Nat} (h : FW V i) : ∀ s, s < 16 → ¬ bt (V i 2) s → V (i + 1) s = 0 := h.2.2.2.2.2.2.2
theorem FW.mk {V : q_V} {i : Nat} (b : q_bl (V i 1)) (r : S16 (V i 2)) (y : S16 (V i 3)) (d : ∀ s, s < 16 → bt (V i 2) s → ¬ bt (V i 3) s) (n : V i 1 = 0 → V i 3 = 0 ∧ V i 4 = 0) (g : V i 1 ≠ 0 → tmr (V i 4)) (t : ∀ s, s < 16 → bt (V i 2) s → tmr (V (i + 1) s)) (z : ∀ s, s < 16 → ¬ bt (V i 2) s → V (i + 1) s = 0) : FW V i := ⟨b, r, y, d, n, g, t, z⟩
def RF (V : q_V) (i : Nat) (W : q_V) (o at_ : Nat) : Prop := (FW V i) ∧ (W (o + 7) at_ = vX0_state i V) ∧ (W (o + 8) at_ = V i 4) ∧ (∀ s, s < 16 → W (o + 9) (16 * at_ + s) = pl (V i 2) (V i 3) s) ∧ (∀ s, s < 16 → W (o + 10) (16 * at_ + s) = V (i + 1) s)
theorem RF.w {V : q_V} {i : Nat} {W : q_V} {o at_ : Nat} (h : RF V i W o at_) : FW V i := h.1
theorem RF.m {V : q_V} {i : Nat} {W : q_V} {o at_ : Nat} (h : RF V i W o at_) : W (o + 7) at_ = vX0_state i V := h.2.1
theorem RF.g {V : q_V} {i : Nat} {W : q_V} {o at_ : Nat} (h : RF V i W o at_) : W (o + 8) at_ = V i 4 := h.2.2.1
theorem RF.p {V : q_V} {i : Nat} {W : q_V} {o at_ : Nat} (h : RF V i W o at_) : ∀ s, s < 16 → W (o + 9) (16 * at_ + s) = pl (V i 2) (V i 3) s := h.2.2.2.1
theorem RF.t {V : q_V} {i : Nat} {W : q_V} {o at_ : Nat} (h : RF V i W o at_) : ∀ s, s < 16 → W (o + 10) (16 * at_ + s) = V (i + 1) s := h.2.2.2.2
theorem RF.mk {V : q_V} {i : Nat} {W : q_V} {o at_ : Nat} (w : FW V i) (m : W (o + 7) at_ = vX0_state i V) (g : W (o + 8) at_ = V i 4) (p : ∀ s, s < 16 → W (o + 9) (16 * at_ + s) = pl (V i 2) (V i 3) s) (t : ∀ s, s < 16 → W (o + 10) (16 * at_ + s) = V (i + 1) s) : RF V i W o at_ := ⟨w, m, g, p, t⟩
theorem RF.m1 {V W : q_V} {i o at_ : Nat} (h : RF V i W o at_) : W (o + 7) at_ = nI 1 ↔ ¬ V i 1 = 0 := by
  rw [h.m]
  dsimp only [vX0_state]
  split
  · rename_i c
    split
    · exact ⟨fun q => absurd q (by decide), fun q => absurd c q⟩
    · exact ⟨fun q => absurd q (by decide), fun q => absurd c q⟩
  · rename_i c
    exact ⟨fun _ => c, fun _ => rfl⟩
theorem RF.s1 {V W : q_V} {i o at_ ml : Nat} (h : RF V i W o at_) : vX5_setOf_1 o ml at_ W = V i 2 := by
  dsimp only [vX5_setOf_1]
  obtain ⟨h1, h2⟩ := sum_set (P := fun k => W (o + 9) (16 * at_ + k) = nI 1) (G := fun k g => if W (o + 9) (16 * at_ + k) = nI 1 then g + nI 1 <<< (nI k &&& 31) else g) (fun k g _ q => if_pos q) (fun k g _ q => if_neg q)
  refine S16.ext h1 h.w.r fun s hs => ?_
  rw [h2 s hs, h.p s hs]
  unfold pl
  split
  · rename_i c
    exact ⟨fun _ => c, fun _ => rfl⟩
  · rename_i c
    refine ⟨fun q => ?_, fun q => absurd q c⟩
    split at q
    · exact absurd q (by decide)
    · exact absurd q (by decide)
theorem RF.s2 {V W : q_V} {i o at_ ml : Nat} (h : RF V i W o at_) : vX5_setOf_2 o ml at_ W = V i 3 := by
  dsimp only [vX5_setOf_2]
  obtain ⟨h1, h2⟩ := sum_set (P := fun k => W (o + 9) (16 * at_ + k) = nI 2) (G := fun k g => if W (o + 9) (16 * at_ + k) = nI 2 then g + nI 1 <<< (nI k &&& 31) else g) (fun k g _ q => if_pos q) (fun k g _ q => if_neg q)
  refine S16.ext h1 h.w.y fun s hs => ?_
  rw [h2 s hs, h.p s hs]
  unfold pl
  split
  · rename_i c
    exact ⟨fun q => absurd q (by decide), fun q => absurd q (h.w.d s hs c)⟩
  · rename_i c
    split
    · rename_i c2
      exact ⟨fun _ => c2, fun _ => rfl⟩
    · rename_i c2
      exact ⟨fun q => absurd q (by decide), fun q => absurd q c2⟩
theorem allow_1 {i : Nat} {a x : Int32} {V : q_V} : fX0_allow i a x V i 1 = V i 1 := by
  dsimp only [fX0_allow]
  rw [setT_eq, if_neg (by omega), vs_nk (by decide), vs_nk (by decide)]
theorem allow_2 {i : Nat} {a x : Int32} {V : q_V} : fX0_allow i a x V i 2 = V i 2 ||| a := by
  dsimp only [fX0_allow]
  rw [setT_eq, if_neg (by omega), vs_nk (by decide), vs_at]
theorem allow_3 {i : Nat} {a x : Int32} {V : q_V} : fX0_allow i a x V i 3 = V i 3 &&& (a ^^^ (-1)) := by
  dsimp only [fX0_allow]
  rw [setT_eq, if_neg (by omega), vs_at, vs_nk (by decide)]
theorem allow_4 {i : Nat} {a x : Int32} {V : q_V} : fX0_allow i a x V i 4 = V i 4 := by
  dsimp only [fX0_allow]
  rw [setT_eq, if_neg (by omega), vs_nk (by decide), vs_nk (by decide)]
theorem allow_t {i : Nat} {a x : Int32} {V : q_V} {s : Nat} (hs : s < 16) : fX0_allow i a x V (i + 1) s = if bt a s then x else V (i + 1) s := by
  dsimp only [fX0_allow]
  rw [setT_eq, vs_nr (by omega), vs_nr (by omega)]
  by_cases h : bt a s
  · rw [if_pos ⟨⟨rfl, hs⟩, h⟩, if_pos h]
  · rw [if_neg (fun e => h e.2), if_neg h]
theorem allow_f {i : Nat} {a x : Int32} {V : q_V} {j : Nat} (h1 : j ≠ i) (h2 : j ≠ i + 1) : fX0_allow i a x V j = V j := by
  funext q
  dsimp only [fX0_allow]
  rw [setT_eq, if_neg (fun e => h2 e.1.1), vs_nr h1, vs_nr h1]
theorem FW.allow {V : q_V} {i : Nat} {a x : Int32} (h : FW V i) (ha : S16 a) (hx : tmr x) : FW (fX0_allow i a x V) i := FW.mk
  (b := by rw [allow_1]; exact h.b)
  (r := by rw [allow_2]; exact h.r.or ha)
  (y := by rw [allow_3]; exact h.y.and)
  (d := fun s hs => by
    rw [allow_2, allow_3, bt_or hs, bt_and hs, bt_not hs]
    intro q1 q2
    rcases q1 with q1 | q1
    · exact h.d s hs q1 q2.1
    · exact q2.2 q1)
  (n := by
    rw [allow_1, allow_3, allow_4]
    intro q
    obtain ⟨q1, q2⟩ := h.n q
    refine ⟨?_, q2⟩
    rw [q1]
    exact (S16.eq0 (S16.zero.and)).mpr fun s hs => by
      rw [bt_and hs]
      exact fun e => bt_0 hs e.1)
  (g := by rw [allow_1, allow_4]; exact h.g)
  (t := fun s hs => by
    rw [allow_2, bt_or hs, allow_t hs]
    intro q
    by_cases hb : bt a s
    · rw [if_pos hb]; exact hx
    · rw [if_neg hb]
      rcases q with q | q
      · exact h.t s hs q
      · exact absurd q hb)
  (z := fun s hs => by
    rw [allow_2, bt_or hs, allow_t hs]
    intro q
    rw [if_neg (fun e => q (Or.inr e))]
    exact h.z s hs fun e => q (Or.inl e))
/-- an end of the reference's record: what become and the timers leave -/
def RE_ (W W' : q_V) (o at_ : Nat) (md gt : Int32) (a b : Int32) (T : Nat → Int32) : Prop := (W' (o + 7) at_ = md) ∧ (W' (o + 8) at_ = gt) ∧ (∀ s, s < 16 → W' (o + 9) (16 * at_ + s) = pl a b s) ∧ (∀ s, s < 16 → W' (o + 10) (16 * at_ + s) = T s)
theorem RE_.m {W W' : q_V} {o at_ : Nat} {md gt : Int32} {a b : Int32} {T : Nat → Int32} (h : RE_ W W' o at_ md gt a b T) : W' (o + 7) at_ = md := h.1
theorem RE_.g {W W' : q_V} {o at_ : Nat} {md gt : Int32} {a b : Int32} {T : Nat → Int32} (h : RE_ W W' o at_ md gt a b T) : W' (o + 8) at_ = gt := h.2.1
theorem RE_.p {W W' : q_V} {o at_ : Nat} {md gt : Int32} {a b : Int32} {T : Nat → Int32} (h : RE_ W W' o at_ md gt a b T) : ∀ s, s < 16 → W' (o + 9) (16 * at_ + s) = pl a b s := h.2.2.1
theorem RE_.t {W W' : q_V} {o at_ : Nat} {md gt : Int32} {a b : Int32} {T : Nat → Int32} (h : RE_ W W' o at_ md gt a b T) : ∀ s, s < 16 → W' (o + 10) (16 * at_ + s) = T s := h.2.2.2
theorem RE_.mk {W W' : q_V} {o at_ : Nat} {md gt : Int32} {a b : Int32} {T : Nat → Int32} (m : W' (o + 7) at_ = md) (g : W' (o + 8) at_ = gt) (p : ∀ s, s < 16 → W' (o + 9) (16 * at_ + s) = pl a b s) (t : ∀ s, s < 16 → W' (o + 10) (16 * at_ + s) = T s) : RE_ W W' o at_ md gt a b T := ⟨m, g, p, t⟩
def rfr (W W' : q_V) (o at_ : Nat) : Prop := ∀ j q, ¬ ((j = o + 7 ∨ j = o + 8) ∧ q = at_) → ¬ ((j = o + 9 ∨ j = o + 10) ∧ 16 * at_ ≤ q ∧ q < 16 * at_ + 16) → W' j q = W j q
theorem rfr.rf {W : q_V} {o at_ : Nat} : rfr W W o at_ := fun _ _ _ _ => rfl
theorem rfr.tr {W W' W'' : q_V} {o at_ : Nat} (h : rfr W W' o at_) (k : rfr W' W'' o at_) : rfr W W'' o at_ := fun j q h1 h2 => (k j q h1 h2).trans (h j q h1 h2)
theorem rfr.b1 {W : q_V} {o ml at_ : Nat} {a b : Int32} : rfr W (fX5_become_1 o ml at_ a b W) o at_ := fun j q h1 h2 => by
  rw [bec1_eq, if_neg (fun e => h1 ⟨Or.inl e.1, e.2⟩), if_neg h2]
theorem rfr.b0 {W : q_V} {o ml at_ : Nat} {a b : Int32} : rfr W (fX5_become_0 o ml at_ a b W) o at_ := fun j q h1 h2 => by
  rw [bec0_eq, if_neg (fun e => h1 ⟨Or.inl e.1, e.2⟩), if_neg (fun e => h1 ⟨Or.inr e.1, e.2⟩), if_neg h2]
theorem rfr.st {W : q_V} {o ml at_ : Nat} {a x : Int32} : rfr W (fX5_setTimers o ml at_ a x W) o at_ := fun j q h1 h2 => by
  rw [msetT_eq, if_neg (fun e => h2 ⟨Or.inr e.1.1, e.1.2⟩)]
theorem rfr.lw {W : q_V} {o ml l at_ : Nat} {a : Int32} : rfr W (fX5_lower o ml l at_ a W) o at_ := fun j q h1 h2 => by
  rw [mlow_eq, if_neg (fun e => h2 ⟨Or.inr e.1.1, e.1.2⟩)]
theorem rfr.lg {W : q_V} {o ml l at_ : Nat} : rfr W (fX5_lowerGroup o ml l at_ W) o at_ := fun j q h1 h2 => by
  rw [mlowG_eq, if_neg (fun e => h1 ⟨Or.inr e.1, e.2⟩)]
theorem rfr.g8 {W : q_V} {o at_ : Nat} {x : Int32} : rfr W (vset W (o + 8) at_ x) o at_ := fun j q h1 h2 => by
  rw [vq, if_neg (fun e => h1 ⟨Or.inr e.1, e.2⟩)]
theorem bec1_e {W : q_V} {o ml at_ : Nat} {a b : Int32} : RE_ W (fX5_become_1 o ml at_ a b W) o at_ (nI 1) (W (o + 8) at_) a b (fun s => if bt a s then W (o + 10) (16 * at_ + s) else nI 0) := RE_.mk
  (m := by rw [bec1_eq, if_pos ⟨rfl, rfl⟩])
  (g := by rw [bec1_eq, if_neg (by omega), if_neg (by omega)])
  (p := fun s hs => by
    rw [bec1_eq, if_neg (by omega), if_pos ⟨Or.inl rfl, by omega, by omega⟩]
    unfold becG
    rw [if_pos rfl, show 16 * at_ + s - 16 * at_ = s by omega])
  (t := fun s hs => by
    rw [bec1_eq, if_neg (by omega), if_pos ⟨Or.inr rfl, by omega, by omega⟩]
    unfold becG
    rw [if_neg (by omega), if_pos rfl, show 16 * at_ + s - 16 * at_ = s by omega])
theorem bec0_e {W : q_V} {o ml at_ : Nat} {a b : Int32} : RE_ W (fX5_become_0 o ml at_ a b W) o at_ (if a = 0 then -1 else nI 0) (nI 0) a b (fun s => if bt a s then W (o + 10) (16 * at_ + s) else nI 0) := RE_.mk
  (m := by rw [bec0_eq, if_pos ⟨rfl, rfl⟩])
  (g := by rw [bec0_eq, if_neg (by omega), if_pos ⟨rfl, rfl⟩])
  (p := fun s hs => by
    rw [bec0_eq, if_neg (by omega), if_neg (by omega), if_pos ⟨Or.inl rfl, by omega, by omega⟩]
    unfold becG
    rw [if_pos rfl, show 16 * at_ + s - 16 * at_ = s by omega])
  (t := fun s hs => by
    rw [bec0_eq, if_neg (by omega), if_neg (by omega), if_pos ⟨Or.inr rfl, by omega, by omega⟩]
    unfold becG
    rw [if_neg (by omega), if_pos rfl, show 16 * at_ + s - 16 * at_ = s by omega])
theorem RE_.st {W W' : q_V} {o at_ ml : Nat} {md gt a b c x : Int32} {T : Nat → Int32} (h : RE_ W W' o at_ md gt a b T) : RE_ W (fX5_setTimers o ml at_ c x W') o at_ md gt a b (fun s => if bt c s then x else T s) := RE_.mk
  (m := by rw [msetT_eq, if_neg (by omega)]; exact h.m)
  (g := by rw [msetT_eq, if_neg (by omega)]; exact h.g)
  (p := fun s hs => by rw [msetT_eq, if_neg (by omega)]; exact h.p s hs)
  (t := fun s hs => by
    rw [msetT_eq, h.t s hs, show 16 * at_ + s - 16 * at_ = s by omega]
    by_cases hb : bt c s
    · rw [if_pos ⟨⟨rfl, by omega, by omega⟩, hb⟩, if_pos hb]
    · rw [if_neg (fun e => hb e.2), if_neg hb])
theorem RE_.g8 {W W' : q_V} {o at_ : Nat} {md gt a b x : Int32} {T : Nat → Int32} (h : RE_ W W' o at_ md gt a b T) : RE_ W (vset W' (o + 8) at_ x) o at_ md x a b T := RE_.mk
  (m := by rw [vs_nr (by omega)]; exact h.m)
  (g := vs_at)
  (p := fun s hs => by rw [vs_nr (by omega)]; exact h.p s hs)
  (t := fun s hs => by rw [vs_nr (by omega)]; exact h.t s hs)
theorem pl_cg {a b a' b' : Int32} {s : Nat} (h1 : bt a s ↔ bt a' s) (h2 : ¬ bt a s → (bt b s ↔ bt b' s)) : pl a b s = pl a' b' s := by
  unfold pl
  by_cases ha : bt a s
  · rw [if_pos ha, if_pos (h1.mp ha)]
  · rw [if_neg ha, if_neg (fun e => ha (h1.mpr e))]
    by_cases hb : bt b s
    · rw [if_pos hb, if_pos ((h2 ha).mp hb)]
    · rw [if_neg hb, if_neg (fun e => hb ((h2 ha).mpr e))]
/-- allow -/
theorem RF.allow0 {V W : q_V} {i o at_ ml : Nat} {a x : Int32} (h : RF V i W o at_) (ha : S16 a) (hx : tmr x) (h0 : V i 1 = 0) : RF (fX0_allow i a x V) i (fX5_setTimers o ml at_ a x (fX5_become_0 o ml at_ (V i 2 ||| a) (nI 0) W)) o at_ := by
  have e := (bec0_e (W := W) (o := o) (ml := ml) (at_ := at_) (a := V i 2 ||| a) (b := nI 0)).st (ml := ml) (c := a) (x := x)
  refine ⟨h.w.allow ha hx, ?_, ?_, fun s hs => ?_, fun s hs => ?_⟩
  · rw [e.m]
    dsimp only [vX0_state]
    rw [allow_1, if_pos h0, allow_2]
  · rw [e.g, allow_4, (h.w.n h0).2]
    rfl
  · rw [e.p s hs, allow_2, allow_3]
    refine pl_cg Iff.rfl fun _ => ?_
    rw [bt_and hs, (h.w.n h0).1]
    exact ⟨fun q => absurd q (bt_0 hs), fun q => absurd q.1 (bt_0 hs)⟩
  · rw [e.t s hs, allow_t hs]
    by_cases hb : bt a s
    · rw [if_pos hb, if_pos hb]
    · rw [if_neg hb, if_neg hb]
      by_cases hr : bt (V i 2) s
      · rw [if_pos ((bt_or hs).mpr (Or.inl hr)), h.t s hs]
      · rw [if_neg (fun q => ((bt_or hs).mp q).elim hr hb), h.w.z s hs hr]
        rfl
theorem RF.allow1 {V W : q_V} {i o at_ ml : Nat} {a x : Int32} (h : RF V i W o at_) (ha : S16 a) (hx : tmr x) (h0 : ¬ V i 1 = 0) : RF (fX0_allow i a x V) i (fX5_setTimers o ml at_ a x (fX5_become_1 o ml at_ (V i 2 ||| a) (V i 3 &&& (a ^^^ (-1))) W)) o at_ := by
  have e := (bec1_e (W := W) (o := o) (ml := ml) (at_ := at_) (a := V i 2 ||| a) (b := V i 3 &&& (a ^^^ (-1)))).st (ml := ml) (c := a) (x := x)
  refine ⟨h.w.allow ha hx, ?_, ?_, fun s hs => ?_, fun s hs => ?_⟩
  · rw [e.m]
    dsimp only [vX0_state]
    rw [allow_1, if_neg h0]
  · rw [e.g, allow_4, h.g]
  · rw [e.p s hs, allow_2, allow_3]
  · rw [e.t s hs, allow_t hs]
    by_cases hb : bt a s
    · rw [if_pos hb, if_pos hb]
    · rw [if_neg hb, if_neg hb]
      by_cases hr : bt (V i 2) s
      · rw [if_pos ((bt_or hs).mpr (Or.inl hr)), h.t s hs]
      · rw [if_neg (fun q => ((bt_or hs).mp q).elim hr hb), h.w.z s hs hr]
        rfl

