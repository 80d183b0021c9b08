/-! ===== exclude, block, lower: the records ===== -/
def exR (V : q_V) (i : Nat) (a : Int32) : Int32 := if V i 1 = 0 then (V i 2 &&& a) ||| nI 0 else (V i 2 &&& a) ||| ((a &&& (V i 2 ^^^ (-1))) &&& (V i 3 ^^^ (-1)))
theorem excl_1 {i : Nat} {a x g : Int32} {V : q_V} : fX0_exclude i a x g V i 1 = nI 1 := by
  dsimp only [fX0_exclude]
  split <;> rw [vs_nk (by decide), vs_at]
theorem excl_4 {i : Nat} {a x g : Int32} {V : q_V} : fX0_exclude i a x g V i 4 = g := by
  dsimp only [fX0_exclude]
  split <;> rw [vs_at]
theorem excl_2 {i : Nat} {a x g : Int32} {V : q_V} : fX0_exclude i a x g V i 2 = exR V i a := by
  dsimp only [fX0_exclude]
  unfold exR
  split <;> rw [vs_nk (by decide), vs_nk (by decide), vs_nk (by decide), vs_at]
theorem excl_3 {i : Nat} {a x g : Int32} {V : q_V} : fX0_exclude i a x g V i 3 = a &&& (exR V i a ^^^ (-1)) := by
  dsimp only [fX0_exclude]
  unfold exR
  split <;> rw [vs_nk (by decide), vs_nk (by decide), vs_at, vs_at]
theorem excl_t {i : Nat} {a x g : Int32} {V : q_V} {s : Nat} (hs : s < 16) : fX0_exclude i a x g V (i + 1) s = if ¬ V i 1 = 0 ∧ bt ((a &&& (V i 2 ^^^ (-1))) &&& (V i 3 ^^^ (-1))) s then x else if bt (V i 2 &&& (a ^^^ (-1))) s then nI 0 else V (i + 1) s := by
  dsimp only [fX0_exclude]
  by_cases h : V i 1 = 0
  · rw [if_pos h, if_neg (fun e => e.1 h), vs_nr (by omega), vs_nr (by omega), vs_nr (by omega), vs_nr (by omega), setT_eq, if_neg (fun e => bt_0 hs e.2), setT_eq]
    by_cases hb : bt (V i 2 &&& (a ^^^ (-1))) s
    · rw [if_pos ⟨⟨rfl, hs⟩, hb⟩, if_pos hb]
    · rw [if_neg (fun e => hb e.2), if_neg hb]
  · rw [if_neg h, vs_nr (by omega), vs_nr (by omega), vs_nr (by omega), vs_nr (by omega), setT_eq, setT_eq]
    by_cases hf : bt ((a &&& (V i 2 ^^^ (-1))) &&& (V i 3 ^^^ (-1))) s
    · rw [if_pos (show (i + 1 = i + 1 ∧ s < 16) ∧ bt ((a &&& (V i 2 ^^^ (-1))) &&& (V i 3 ^^^ (-1))) s from ⟨⟨rfl, hs⟩, hf⟩), if_pos (show ¬ V i 1 = 0 ∧ bt ((a &&& (V i 2 ^^^ (-1))) &&& (V i 3 ^^^ (-1))) s from ⟨h, hf⟩)]
    · rw [if_neg (show ¬ ((i + 1 = i + 1 ∧ s < 16) ∧ bt ((a &&& (V i 2 ^^^ (-1))) &&& (V i 3 ^^^ (-1))) s) from fun e => hf e.2), if_neg (show ¬ (¬ V i 1 = 0 ∧ bt ((a &&& (V i 2 ^^^ (-1))) &&& (V i 3 ^^^ (-1))) s) from fun e => hf e.2)]
      by_cases hb : bt (V i 2 &&& (a ^^^ (-1))) s
      · rw [if_pos (show (i + 1 = i + 1 ∧ s < 16) ∧ bt (V i 2 &&& (a ^^^ (-1))) s from ⟨⟨rfl, hs⟩, hb⟩), if_pos hb]
      · rw [if_neg (show ¬ ((i + 1 = i + 1 ∧ s < 16) ∧ bt (V i 2 &&& (a ^^^ (-1))) s) from fun e => hb e.2), if_neg hb]
theorem excl_f {i : Nat} {a x g : Int32} {V : q_V} {j : Nat} (h1 : j ≠ i) (h2 : j ≠ i + 1) : fX0_exclude i a x g V j = V j := by
  funext q
  dsimp only [fX0_exclude]
  split <;> rw [vs_nr h1, vs_nr h1, vs_nr h1, vs_nr h1, setT_eq, if_neg (fun e => h2 e.1.1), setT_eq, if_neg (fun e => h2 e.1.1)]
theorem exR_0 {V : q_V} {i : Nat} {a : Int32} {s : Nat} (hs : s < 16) (h : V i 1 = 0) : bt (exR V i a) s ↔ bt (V i 2) s ∧ bt a s := by
  unfold exR
  rw [if_pos h, bt_or hs, bt_and hs]
  exact ⟨fun q => q.elim id (fun e => absurd e (bt_0 hs)), Or.inl⟩
theorem exR_1 {V : q_V} {i : Nat} {a : Int32} {s : Nat} (hs : s < 16) (hw : FW V i) (h : ¬ V i 1 = 0) : bt (exR V i a) s ↔ bt a s ∧ ¬ bt (V i 3) s := by
  unfold exR
  rw [if_neg h, bt_or hs, bt_and hs, bt_and hs, bt_and hs, bt_not hs, bt_not hs]
  have hd := hw.d s hs
  constructor
  · rintro (⟨q1, q2⟩ | ⟨⟨q1, q2⟩, q3⟩)
    · exact ⟨q2, hd q1⟩
    · exact ⟨q1, q3⟩
  · rintro ⟨q1, q2⟩
    by_cases hr : bt (V i 2) s
    · exact Or.inl ⟨hr, q1⟩
    · exact Or.inr ⟨⟨q1, hr⟩, q2⟩
theorem exR_S {V : q_V} {i : Nat} {a : Int32} (hw : FW V i) (ha : S16 a) : S16 (exR V i a) := by
  unfold exR
  split
  · exact (hw.r.and).or S16.zero
  · exact (hw.r.and).or ((ha.and).and)
theorem bt_fr {V : q_V} {i : Nat} {a : Int32} {s : Nat} (hs : s < 16) : bt ((a &&& (V i 2 ^^^ (-1))) &&& (V i 3 ^^^ (-1))) s ↔ (bt a s ∧ ¬ bt (V i 2) s) ∧ ¬ bt (V i 3) s := by
  rw [bt_and hs, bt_and hs, bt_not hs, bt_not hs]
theorem FW.excl {V : q_V} {i : Nat} {a x g : Int32} (h : FW V i) (ha : S16 a) (hx : ¬ V i 1 = 0 → tmr x) (hg : tmr g) : FW (fX0_exclude i a x g V) i := FW.mk
  (b := by rw [excl_1]; exact Or.inr rfl)
  (r := by rw [excl_2]; exact exR_S h ha)
  (y := by rw [excl_3]; exact ha.and)
  (d := fun s hs => by
    rw [excl_2, excl_3, bt_and hs, bt_not hs]
    intro q1 q2
    exact q2.2 q1)
  (n := by
    rw [excl_1]
    intro q
    exact absurd q (by decide))
  (g := by rw [excl_4]; exact fun _ => hg)
  (t := fun s hs => by
    rw [excl_2, excl_t hs]
    simp only [bt_and hs, bt_not hs]
    by_cases h0 : V i 1 = 0
    · rw [exR_0 hs h0]
      intro q
      rw [if_neg (fun e => e.1 h0), if_neg (fun e => e.2 q.2)]
      exact h.t s hs q.1
    · rw [exR_1 hs h h0]
      intro q
      by_cases hr : bt (V i 2) s
      · rw [if_neg (fun e => e.2.1.2 hr), if_neg (fun e => e.2 q.1)]
        exact h.t s hs hr
      · rw [if_pos (show ¬ V i 1 = 0 ∧ (bt a s ∧ ¬ bt (V i 2) s) ∧ ¬ bt (V i 3) s from ⟨h0, ⟨q.1, hr⟩, q.2⟩)]
        exact hx h0)
  (z := fun s hs => by
    rw [excl_2, excl_t hs]
    simp only [bt_and hs, bt_not hs]
    by_cases h0 : V i 1 = 0
    · rw [exR_0 hs h0]
      intro q
      rw [if_neg (fun e => e.1 h0)]
      by_cases hr : bt (V i 2) s
      · rw [if_pos (show bt (V i 2) s ∧ ¬ bt a s from ⟨hr, fun e => q ⟨hr, e⟩⟩)]
        rfl
      · rw [if_neg (fun e => hr e.1)]
        exact h.z s hs hr
    · rw [exR_1 hs h h0]
      intro q
      rw [if_neg (fun e => q ⟨e.2.1.1, e.2.2⟩)]
      by_cases hr : bt (V i 2) s
      · rw [if_pos (show bt (V i 2) s ∧ ¬ bt a s from ⟨hr, fun e => q ⟨e, h.d s hs hr⟩⟩)]
        rfl
      · rw [if_neg (fun e => hr e.1)]
        exact h.z s hs hr)
theorem RF.excl0 {V W : q_V} {i o at_ ml : Nat} {a x g : Int32} (h : RF V i W o at_) (ha : S16 a) (hg : tmr g) (h0 : V i 1 = 0) : RF (fX0_exclude i a x g V) i (vset (fX5_become_1 o ml at_ (V i 2 &&& a) (a &&& (V i 2 ^^^ (-1))) W) (o + 8) at_ g) o at_ := by
  have e := (bec1_e (W := W) (o := o) (ml := ml) (at_ := at_) (a := V i 2 &&& a) (b := a &&& (V i 2 ^^^ (-1)))).g8 (x := g)
  refine RF.mk (h.w.excl ha (fun q => absurd h0 q) hg) ?_ ?_ (fun s hs => ?_) (fun s hs => ?_)
  · rw [e.m]
    dsimp only [vX0_state]
    rw [excl_1, if_neg (by decide)]
  · rw [e.g, excl_4]
  · rw [e.p s hs, excl_2, excl_3]
    refine pl_cg ?_ fun hn => ?_
    · rw [exR_0 hs h0, bt_and hs]
    · rw [bt_and hs, bt_and hs, bt_not hs, bt_not hs, exR_0 hs h0]
      rw [bt_and hs] at hn
      exact ⟨fun q => ⟨q.1, fun e => q.2 e.1⟩, fun q => ⟨q.1, fun e => q.2 ⟨e, q.1⟩⟩⟩
  · rw [e.t s hs, excl_t hs]
    simp only [bt_and hs, bt_not hs]
    rw [if_neg (show ¬ (¬ V i 1 = 0 ∧ (bt a s ∧ ¬ bt (V i 2) s) ∧ ¬ bt (V i 3) s) from fun e => e.1 h0)]
    by_cases hr : bt (V i 2) s
    · by_cases hb : bt a s
      · rw [if_pos ⟨hr, hb⟩, if_neg (fun e => e.2 hb), h.t s hs]
      · rw [if_neg (fun e => hb e.2), if_pos ⟨hr, hb⟩]
    · rw [if_neg (fun e => hr e.1), if_neg (fun e => hr e.1), h.w.z s hs hr]
      rfl
theorem RF.excl1 {V W : q_V} {i o at_ ml : Nat} {a x g : Int32} (h : RF V i W o at_) (ha : S16 a) (hx : tmr x) (hg : tmr g) (h0 : ¬ V i 1 = 0) : RF (fX0_exclude i a x g V) i (vset (fX5_setTimers o ml at_ ((a &&& (V i 2 ^^^ (-1))) &&& (V i 3 ^^^ (-1))) x (fX5_become_1 o ml at_ (a &&& (V i 3 ^^^ (-1))) (V i 3 &&& a) W)) (o + 8) at_ g) o at_ := by
  have e := ((bec1_e (W := W) (o := o) (ml := ml) (at_ := at_) (a := a &&& (V i 3 ^^^ (-1))) (b := V i 3 &&& a)).st (ml := ml) (c := (a &&& (V i 2 ^^^ (-1))) &&& (V i 3 ^^^ (-1))) (x := x)).g8 (x := g)
  refine RF.mk (h.w.excl ha (fun _ => hx) hg) ?_ ?_ (fun s hs => ?_) (fun s hs => ?_)
  · rw [e.m]
    dsimp only [vX0_state]
    rw [excl_1, if_neg (by decide)]
  · rw [e.g, excl_4]
  · rw [e.p s hs, excl_2, excl_3]
    refine pl_cg ?_ fun hn => ?_
    · rw [exR_1 hs h.w h0, bt_and hs, bt_not hs]
    · rw [bt_and hs, bt_not hs] at hn
      rw [bt_and hs, bt_and hs, bt_not hs, exR_1 hs h.w h0]
      refine ⟨fun q => ⟨q.2, fun e => e.2 q.1⟩, fun q => ⟨?_, q.1⟩⟩
      exact Classical.byContradiction fun c => hn ⟨q.1, c⟩
  · rw [e.t s hs, excl_t hs]
    have hd := h.w.d s hs
    by_cases hf : bt ((a &&& (V i 2 ^^^ (-1))) &&& (V i 3 ^^^ (-1))) s
    · rw [if_pos hf, if_pos ⟨h0, hf⟩]
    · rw [if_neg hf, if_neg (show ¬ (¬ V i 1 = 0 ∧ bt ((a &&& (V i 2 ^^^ (-1))) &&& (V i 3 ^^^ (-1))) s) from fun e => hf e.2)]
      simp only [bt_and hs, bt_not hs]
      rw [bt_fr hs] at hf
      by_cases hr : bt (V i 2) s
      · by_cases hb : bt a s
        · rw [if_pos ⟨hb, hd hr⟩, if_neg (fun e => e.2 hb), h.t s hs]
        · rw [if_neg (fun e => hb e.1), if_pos ⟨hr, hb⟩]
      · rw [if_neg (fun e => hf ⟨⟨e.1, hr⟩, e.2⟩), if_neg (fun e => hr e.1), h.w.z s hs hr]
        rfl
theorem block_0 {i : Nat} {a : Int32} {V : q_V} (h : V i 1 = 0) : fX0_block i a V = V := by
  dsimp only [fX0_block]
  rw [if_pos h]
theorem block_1 {i : Nat} {a : Int32} {V : q_V} : fX0_block i a V i 1 = V i 1 := by
  dsimp only [fX0_block]
  split
  · rfl
  · rw [setT_eq, if_neg (by omega), vs_nk (by decide)]
theorem block_3 {i : Nat} {a : Int32} {V : q_V} : fX0_block i a V i 3 = V i 3 := by
  dsimp only [fX0_block]
  split
  · rfl
  · rw [setT_eq, if_neg (by omega), vs_nk (by decide)]
theorem block_4 {i : Nat} {a : Int32} {V : q_V} : fX0_block i a V i 4 = V i 4 := by
  dsimp only [fX0_block]
  split
  · rfl
  · rw [setT_eq, if_neg (by omega), vs_nk (by decide)]
theorem block_2 {i : Nat} {a : Int32} {V : q_V} (h : ¬ V i 1 = 0) : fX0_block i a V i 2 = V i 2 ||| ((a &&& (V i 2 ^^^ (-1))) &&& (V i 3 ^^^ (-1))) := by
  dsimp only [fX0_block]
  rw [if_neg h, setT_eq, if_neg (by omega), vs_at]
theorem block_t {i : Nat} {a : Int32} {V : q_V} {s : Nat} (hs : s < 16) (h : ¬ V i 1 = 0) : fX0_block i a V (i + 1) s = if bt ((a &&& (V i 2 ^^^ (-1))) &&& (V i 3 ^^^ (-1))) s then V i 4 else V (i + 1) s := by
  dsimp only [fX0_block]
  rw [if_neg h, setT_eq, vs_nk (by decide), vs_nr (by omega)]
  by_cases hf : bt ((a &&& (V i 2 ^^^ (-1))) &&& (V i 3 ^^^ (-1))) s
  · rw [if_pos ⟨⟨rfl, hs⟩, hf⟩, if_pos hf]
  · rw [if_neg (fun e => hf e.2), if_neg hf]
theorem block_f {i : Nat} {a : Int32} {V : q_V} {j : Nat} (h1 : j ≠ i) (h2 : j ≠ i + 1) : fX0_block i a V j = V j := by
  funext q
  dsimp only [fX0_block]
  split
  · rfl
  · rw [setT_eq, if_neg (fun e => h2 e.1.1), vs_nr h1]
theorem RF.block1 {V W : q_V} {i o at_ ml : Nat} {a : Int32} (h : RF V i W o at_) (ha : S16 a) (h0 : ¬ V i 1 = 0) : RF (fX0_block i a V) i (fX5_setTimers o ml at_ ((a &&& (V i 2 ^^^ (-1))) &&& (V i 3 ^^^ (-1))) (V i 4) (fX5_become_1 o ml at_ (V i 2 ||| (a &&& (V i 3 ^^^ (-1)))) (V i 3) W)) o at_ := by
  have e := (bec1_e (W := W) (o := o) (ml := ml) (at_ := at_) (a := V i 2 ||| (a &&& (V i 3 ^^^ (-1)))) (b := V i 3)).st (ml := ml) (c := (a &&& (V i 2 ^^^ (-1))) &&& (V i 3 ^^^ (-1))) (x := V i 4)
  have hw : FW (fX0_block i a V) i := FW.mk
    (b := by rw [block_1]; exact h.w.b)
    (r := by rw [block_2 h0]; exact h.w.r.or ((ha.and).and))
    (y := by rw [block_3]; exact h.w.y)
    (d := fun s hs => by
      rw [block_2 h0, block_3, bt_or hs, bt_fr hs]
      rintro (q | q)
      · exact h.w.d s hs q
      · exact q.2)
    (n := by rw [block_1]; exact fun q => absurd q h0)
    (g := by rw [block_1, block_4]; exact h.w.g)
    (t := fun s hs => by
      rw [block_2 h0, block_t hs h0, bt_or hs]
      intro q
      by_cases hf : bt ((a &&& (V i 2 ^^^ (-1))) &&& (V i 3 ^^^ (-1))) s
      · rw [if_pos hf]; exact h.w.g h0
      · rw [if_neg hf]
        rcases q with q | q
        · exact h.w.t s hs q
        · exact absurd q hf)
    (z := fun s hs => by
      rw [block_2 h0, block_t hs h0, bt_or hs]
      intro q
      rw [if_neg (fun e => q (Or.inr e))]
      exact h.w.z s hs fun e => q (Or.inl e))
  refine RF.mk hw ?_ ?_ (fun s hs => ?_) (fun s hs => ?_)
  · rw [e.m]
    dsimp only [vX0_state]
    rw [block_1, if_neg h0]
  · rw [e.g, block_4, h.g]
  · rw [e.p s hs, block_2 h0, block_3]
    refine pl_cg ?_ fun _ => Iff.rfl
    rw [bt_or hs, bt_or hs, bt_fr hs, bt_and hs, bt_not hs]
    constructor
    · rintro (q | q)
      · exact Or.inl q
      · by_cases hr : bt (V i 2) s
        · exact Or.inl hr
        · exact Or.inr ⟨⟨q.1, hr⟩, q.2⟩
    · rintro (q | q)
      · exact Or.inl q
      · exact Or.inr ⟨q.1.1, q.2⟩
  · rw [e.t s hs, block_t hs h0]
    by_cases hf : bt ((a &&& (V i 2 ^^^ (-1))) &&& (V i 3 ^^^ (-1))) s
    · rw [if_pos hf, if_pos hf]
    · rw [if_neg hf, if_neg hf]
      simp only [bt_or hs, bt_and hs, bt_not hs]
      rw [bt_fr hs] at hf
      by_cases hr : bt (V i 2) s
      · rw [if_pos (Or.inl hr), h.t s hs]
      · rw [if_neg (fun e => e.elim hr (fun q => hf ⟨⟨q.1, hr⟩, q.2⟩)), h.w.z s hs hr]
        rfl
/-! lower -/
theorem min_sw {x y : Int32} : (if x < y then x else y) = (if y ≤ x then y else x) := by
  by_cases h : x < y
  · rw [if_pos h, if_neg]
    intro q
    rw [Int32.lt_iff_toInt_lt] at h
    rw [Int32.le_iff_toInt_le] at q
    omega
  · rw [if_neg h, if_pos]
    rw [Int32.lt_iff_toInt_lt] at h
    rw [Int32.le_iff_toInt_le]
    omega
theorem tmr.min {x y : Int32} (hx : tmr x) (hy : tmr y) : tmr (if x < y then x else y) := by
  split
  · exact hx
  · exact hy
theorem tmr.no {x : Int32} (hx : tmr x) : ¬ x < 0 := by
  obtain ⟨t, h1, h2, rfl⟩ := hx
  rw [Int32.lt_iff_toInt_lt, nI_toInt (by omega), Int32.toInt_zero]
  omega
theorem low_o {i : Nat} {a x : Int32} {V : q_V} {k : Nat} : fX0_lowerTimers i a x V i k = V i k := by
  rw [lowT_eq, if_neg (by omega)]
theorem low_t {i : Nat} {a x : Int32} {V : q_V} {s : Nat} (hs : s < 16) : fX0_lowerTimers i a x V (i + 1) s = if bt a s then (if x < V (i + 1) s then x else V (i + 1) s) else V (i + 1) s := by
  rw [lowT_eq]
  by_cases h : bt a s
  · rw [if_pos (show (i + 1 = i + 1 ∧ s < 16) ∧ bt a s from ⟨⟨rfl, hs⟩, h⟩), if_pos h]
  · rw [if_neg (show ¬ ((i + 1 = i + 1 ∧ s < 16) ∧ bt a s) from fun e => h e.2), if_neg h]
theorem low_f {i : Nat} {a x : Int32} {V : q_V} {j : Nat} (h2 : j ≠ i + 1) : fX0_lowerTimers i a x V j = V j := by
  funext q
  rw [lowT_eq, if_neg (fun e => h2 e.1.1)]
theorem RF.low {V W : q_V} {i o at_ ml l : Nat} {a x : Int32} (h : RF V i W o at_) (hx : tmr x) (he : W (o + 1) l = x) : RF (fX0_lowerTimers i a x V) i (fX5_lower o ml l at_ a W) o at_ := by
  have hw : FW (fX0_lowerTimers i a x V) i := FW.mk
    (b := by rw [low_o]; exact h.w.b)
    (r := by rw [low_o]; exact h.w.r)
    (y := by rw [low_o]; exact h.w.y)
    (d := fun s hs => by rw [low_o, low_o]; exact h.w.d s hs)
    (n := by rw [low_o, low_o, low_o]; exact h.w.n)
    (g := by rw [low_o, low_o]; exact h.w.g)
    (t := fun s hs => by
      rw [low_o, low_t hs]
      intro q
      split
      · exact hx.min (h.w.t s hs q)
      · exact h.w.t s hs q)
    (z := fun s hs => by
      rw [low_o, low_t hs]
      intro q
      have h0 := h.w.z s hs q
      rw [h0, if_neg hx.no]
      split <;> rfl)
  refine RF.mk hw ?_ ?_ (fun s hs => ?_) (fun s hs => ?_)
  · rw [mlow_eq, if_neg (by omega), h.m]
    dsimp only [vX0_state]
    rw [low_o, low_o]
  · rw [mlow_eq, if_neg (by omega), h.g, low_o]
  · rw [mlow_eq, if_neg (by omega), h.p s hs, low_o, low_o]
  · rw [mlow_eq, low_t hs, show 16 * at_ + s - 16 * at_ = s by omega, h.t s hs, he]
    by_cases hb : bt a s
    · rw [if_pos (show (o + 10 = o + 10 ∧ 16 * at_ ≤ 16 * at_ + s ∧ 16 * at_ + s < 16 * at_ + 16) ∧ bt a s from ⟨⟨rfl, by omega, by omega⟩, hb⟩), if_pos hb, min_sw]
    · rw [if_neg (show ¬ ((o + 10 = o + 10 ∧ 16 * at_ ≤ 16 * at_ + s ∧ 16 * at_ + s < 16 * at_ + 16) ∧ bt a s) from fun e => hb e.2), if_neg hb]
theorem own_4 {i : Nat} {x : Int32} {V : q_V} : fX0_lowerOwnTimer i x V i 4 = if x < V i 4 then x else V i 4 := by
  dsimp only [fX0_lowerOwnTimer, vJ9_min_7cf53]
  rw [vs_at]
theorem own_n {i k : Nat} {x : Int32} {V : q_V} (h : k ≠ 4) : fX0_lowerOwnTimer i x V i k = V i k := by
  dsimp only [fX0_lowerOwnTimer]
  rw [vs_nk h]
theorem own_f {i : Nat} {x : Int32} {V : q_V} {j : Nat} (h : j ≠ i) : fX0_lowerOwnTimer i x V j = V j := by
  dsimp only [fX0_lowerOwnTimer]
  rw [vs_nr h]
theorem RF.own {V W : q_V} {i o at_ ml l : Nat} {x : Int32} (h : RF V i W o at_) (hx : tmr x) (he : W (o + 1) l = x) : RF (fX0_lowerOwnTimer i x V) i (fX5_lowerGroup o ml l at_ W) o at_ := by
  have h5 : fX0_lowerOwnTimer i x V (i + 1) = V (i + 1) := own_f (by omega)
  have hw : FW (fX0_lowerOwnTimer i x V) i := FW.mk
    (b := by rw [own_n (by decide)]; exact h.w.b)
    (r := by rw [own_n (by decide)]; exact h.w.r)
    (y := by rw [own_n (by decide)]; exact h.w.y)
    (d := fun s hs => by rw [own_n (by decide), own_n (by decide)]; exact h.w.d s hs)
    (n := by
      rw [own_n (by decide), own_n (by decide), own_4]
      intro q
      obtain ⟨q1, q2⟩ := h.w.n q
      rw [q2, if_neg hx.no]
      exact ⟨q1, rfl⟩)
    (g := by
      rw [own_n (by decide), own_4]
      intro q
      exact hx.min (h.w.g q))
    (t := fun s hs => by rw [own_n (by decide), h5]; exact h.w.t s hs)
    (z := fun s hs => by rw [own_n (by decide), h5]; exact h.w.z s hs)
  refine RF.mk hw ?_ ?_ (fun s hs => ?_) (fun s hs => ?_)
  · rw [mlowG_eq, if_neg (by omega), h.m]
    dsimp only [vX0_state]
    rw [own_n (by decide), own_n (by decide)]
  · rw [mlowG_eq, if_pos (show o + 8 = o + 8 ∧ at_ = at_ from ⟨rfl, rfl⟩), own_4, h.g, he, min_sw]
  · rw [mlowG_eq, if_neg (by omega), h.p s hs, own_n (by decide), own_n (by decide)]
  · rw [mlowG_eq, if_neg (by omega), h.t s hs, h5]

