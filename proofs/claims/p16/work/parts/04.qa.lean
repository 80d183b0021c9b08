/-! ===== THE ENGINE: an abstract heap (cells by numbers), and a judgement q_A over W whose rules are one an instruction ===== -/
abbrev q_C : Type := (Nat × List Value) ⊕ ((Nat × List Int32) ⊕ ((Nat × List (Option Nat)) ⊕ (Nat × List Int64)))
abbrev q_H : Type := Nat → q_C
/-- the script: its length, its ints -/
abbrev q_S : Type := Nat × (Nat → Int32)
abbrev q_O : Type := Option Value ⊕ Nat
/-- own class, name, bytes, locals, result, frames, words, handlers -/
abbrev q_M : Type := String × MethodName × ByteArray × Nat × Option FieldType × Nat × Nat × List (Nat × Nat × Nat × Nat)
abbrev q_own (M : q_M) : String := M.1
abbrev q_nm (M : q_M) : MethodName := M.2.1
abbrev q_cc (M : q_M) : ByteArray := M.2.2.1
abbrev q_nL (M : q_M) : Nat := M.2.2.2.1
abbrev q_rt (M : q_M) : Option FieldType := M.2.2.2.2.1
abbrev q_fr (M : q_M) : Nat := M.2.2.2.2.2.1
abbrev q_lo (M : q_M) : Nat := M.2.2.2.2.2.2.1
abbrev q_hs (M : q_M) : List (Nat × Nat × Nat × Nat) := M.2.2.2.2.2.2.2
/-- a value by its abstract one: references are numbers of cells; a float stands for a reference of which nothing is known -/
def q_v (ads : List Nat) (v w : Value) : Prop := match v with
  | .int x => w = .int x
  | .null => w = .null
  | .ref i => ∃ a, ads[i + 1]? = some a ∧ w = .ref a
  | .float x => ∃ a, w = .ref a ∧ (x = 1 → ads[0]? = some a)
  | .long x => w = .long x
  | _ => False
def q_vs (ads : List Nat) : List Value → List Value → Prop
  | [], ws => ws = []
  | v :: vs, ws => ∃ w r, ws = w :: r ∧ q_v ads v w ∧ q_vs ads vs r
def q_le (ads ads' : List Nat) : Prop := ∀ (i a : Nat), ads[i]? = some a → ads'[i]? = some a
theorem q_le.rf {ads : List Nat} : q_le ads ads := fun _ _ h => h
theorem q_le.tr {a b c : List Nat} (h : q_le a b) (k : q_le b c) : q_le a c := fun i x q => k i x (h i x q)
theorem q_v.mono {ads ads' : List Nat} (hp : q_le ads ads') {v w : Value} (h : q_v ads v w) : q_v ads' v w := by
  cases v with
  | ref i =>
    obtain ⟨a, h1, h2⟩ := h
    exact ⟨a, hp _ _ h1, h2⟩
  | float x =>
    obtain ⟨a, h1, h2⟩ := h
    exact ⟨a, h1, fun q => hp _ _ (h2 q)⟩
  | _ => exact h
theorem q_vs.mono {ads ads' : List Nat} (hp : q_le ads ads') : ∀ {vs ws : List Value}, q_vs ads vs ws → q_vs ads' vs ws
  | [], _, h => h
  | _ :: _, _, ⟨w, r, e, h1, h2⟩ => ⟨w, r, e, h1.mono hp, q_vs.mono hp h2⟩
theorem q_v.cat {ads : List Nat} {v w : Value} (h : q_v ads v w) : w.category = v.category := by
  cases v with
  | int x => rw [show w = .int x from h]
  | long x => rw [show w = .long x from h]
  | null => rw [show w = .null from h]
  | ref i => obtain ⟨a, -, h2⟩ := h; rw [h2]; rfl
  | float b => obtain ⟨a, h2, -⟩ := h; rw [h2]; rfl
  | _ => exact h.elim
theorem q_vs.sum {ads : List Nat} : ∀ {vs ws : List Value}, q_vs ads vs ws → (ws.map fun v => v.category).sum = (vs.map fun v => v.category).sum
  | [], _, h => by rw [show _ = [] from h]
  | _ :: _, _, ⟨w, r, e, h1, h2⟩ => by
    subst e
    have h3 := q_vs.sum h2
    simp only [List.map_cons, List.sum_cons, h1.cat, h3]
theorem q_vs.len {ads : List Nat} : ∀ {vs ws : List Value}, q_vs ads vs ws → ws.length = vs.length
  | [], _, h => by rw [show _ = [] from h]
  | _ :: _, _, ⟨w, r, e, h1, h2⟩ => by
    subst e
    rw [List.length_cons, List.length_cons, q_vs.len h2]
theorem q_vs.app {ads : List Nat} : ∀ {vs vt ws wt : List Value}, q_vs ads vs ws → q_vs ads vt wt → q_vs ads (vs ++ vt) (ws ++ wt)
  | [], _, _, _, h, k => by rw [show _ = [] from h]; exact k
  | _ :: _, _, _, _, ⟨w, r, e, h1, h2⟩, k => by
    subst e
    exact ⟨w, _, rfl, h1, q_vs.app h2 k⟩
theorem q_vs.split {ads : List Nat} : ∀ {vs vt us : List Value}, q_vs ads (vs ++ vt) us → ∃ ws wt, us = ws ++ wt ∧ q_vs ads vs ws ∧ q_vs ads vt wt
  | [], _, us, h => ⟨[], us, rfl, rfl, h⟩
  | _ :: _, _, _, ⟨w, r, e, h1, h2⟩ => by
    obtain ⟨ws, wt, e2, k1, k2⟩ := q_vs.split h2
    exact ⟨w :: ws, wt, by rw [e, e2]; rfl, ⟨w, ws, rfl, h1, k1⟩, k2⟩
theorem q_vs.rev {ads : List Nat} : ∀ {vs ws : List Value}, q_vs ads vs ws → q_vs ads vs.reverse ws.reverse
  | [], _, h => by rw [show _ = [] from h]; rfl
  | _ :: _, _, ⟨w, r, e, h1, h2⟩ => by
    subst e
    rw [List.reverse_cons, List.reverse_cons]
    exact (q_vs.rev h2).app ⟨w, [], rfl, h1, rfl⟩
theorem q_vs.at {ads : List Nat} : ∀ {vs ws : List Value}, q_vs ads vs ws → ∀ {k : Nat} {v : Value}, vs[k]? = some v → ∃ w, ws[k]? = some w ∧ q_v ads v w
  | [], _, _, k, v, hk => by simp at hk
  | _ :: _, _, ⟨w, r, e, h1, h2⟩, k, v, hk => by
    subst e
    cases k with
    | zero =>
      rw [List.getElem?_cons_zero] at hk
      cases hk
      exact ⟨w, rfl, h1⟩
    | succ k =>
      rw [List.getElem?_cons_succ] at hk
      obtain ⟨w2, q1, q2⟩ := q_vs.at h2 hk
      exact ⟨w2, by rw [List.getElem?_cons_succ]; exact q1, q2⟩
theorem q_vs.set {ads : List Nat} : ∀ {vs ws : List Value}, q_vs ads vs ws → ∀ {k : Nat} {v w : Value}, q_v ads v w → q_vs ads (vs.set k v) (ws.set k w)
  | [], _, h, k, v, w, hv => by rw [show _ = [] from h]; rfl
  | _ :: _, _, ⟨w, r, e, h1, h2⟩, k, v, w2, hv => by
    subst e
    cases k with
    | zero => exact ⟨w2, r, rfl, hv, h2⟩
    | succ k => exact ⟨w, _, rfl, h1, q_vs.set h2 hv⟩
/-- the locals: .retAddr stands for 'nothing known' -/
def q_L (ads : List Nat) (nL : Nat) (L : List Value) (ls : Array Slot) : Prop := ls.size = nL ∧ lv_wf ls ∧ ∀ (i : Nat) (v : Value), L[i]? = some v → (∃ k, v = .retAddr k) ∨ ∃ w, q_v ads v w ∧ w.category = 1 ∧ ls[i]? = some (.val w)
theorem q_L.mono {ads ads' : List Nat} (hp : q_le ads ads') {nL : Nat} {L : List Value} {ls : Array Slot} (h : q_L ads nL L ls) : q_L ads' nL L ls :=
  ⟨h.1, h.2.1, fun i v hv => (h.2.2 i v hv).imp id (fun ⟨w, h1, hc, h2⟩ => ⟨w, h1.mono hp, hc, h2⟩)⟩
theorem q_L.int {ads : List Nat} {nL : Nat} {L : List Value} {ls : Array Slot} (h : q_L ads nL L ls) {i : Nat} {x : Int32} (hi : L[i]? = some (.int x)) : ls[i]? = some (.val (.int x)) := by
  rcases h.2.2 i _ hi with ⟨k, e⟩ | ⟨w, h1, -, h2⟩
  · cases e
  · rw [h2, show w = .int x from h1]
theorem q_L.ref {ads : List Nat} {nL : Nat} {L : List Value} {ls : Array Slot} (h : q_L ads nL L ls) {i j : Nat} (hi : L[i]? = some (.ref j)) : ∃ a, ads[j + 1]? = some a ∧ ls[i]? = some (.val (.ref a)) := by
  rcases h.2.2 i _ hi with ⟨k, e⟩ | ⟨w, h1, -, h2⟩
  · cases e
  · obtain ⟨a, q1, q2⟩ := h1
    exact ⟨a, q1, by rw [h2, q2]⟩
def q_all (ls : Array Slot) : List (Nat × Value) := (List.range ls.size).filterMap (fun (i : Nat) => match (ls[i]? : Option Slot) with | some (Slot.val v) => some (i, v) | _ => none)
theorem q_all_has {ls : Array Slot} {nL : Nat} (h1 : ls.size = nL) (h2 : lv_wf ls) : lv_has ls nL (q_all ls) := by
  refine ⟨h1, h2, fun q hq => ?_⟩
  obtain ⟨i, -, hi⟩ := List.mem_filterMap.mp hq
  split at hi
  next v hv => cases hi; exact hv
  next => cases hi
theorem q_all_mem {ls : Array Slot} {i : Nat} {v : Value} (h : ls[i]? = some (.val v)) : (i, v) ∈ q_all ls := by
  refine List.mem_filterMap.mpr ⟨i, List.mem_range.mpr (Array.getElem?_eq_some_iff.mp h).1, ?_⟩
  rw [h]
theorem q_L.put {ads : List Nat} {nL : Nat} {L : List Value} {ls ls' : Array Slot} (h : q_L ads nL L ls) {i : Nat} {v w : Value} (hv : q_v ads v w) (hc1 : w.category = 1)
    (h' : lv_has ls' nL ((i, w) :: (q_all ls).filter (fun q => !(q.1 == i) && !(q.1 + 1 == i && q.2.category == 2)))) : q_L ads nL (L.set i v) ls' := by
  refine ⟨h'.1, h'.2.1, fun j u hu => ?_⟩
  by_cases hj : i = j
  · subst hj
    have hl : i < L.length := by
      have := (List.getElem?_eq_some_iff.mp hu).1
      rw [List.length_set] at this
      exact this
    rw [List.getElem?_set_self hl] at hu
    cases hu
    exact Or.inr ⟨w, hv, hc1, h'.2.2 (i, w) List.mem_cons_self⟩
  · rw [List.getElem?_set_ne hj] at hu
    rcases h.2.2 j u hu with h3 | ⟨w2, h3, hc, h4⟩
    · exact Or.inl h3
    · refine Or.inr ⟨w2, h3, hc, h'.2.2 (j, w2) (List.mem_cons_of_mem _ (List.mem_filter.mpr ⟨q_all_mem h4, ?_⟩))⟩
      have hne : ¬ j = i := fun q => hj q.symm
      simp [hne, hc]
def q_E (dT : Nat → ClassId) (ads : List Nat) (c : q_C) (e : va_E) : Prop := match c with
  | .inl o => ∃ gs, e = .inr (o.1, gs) ∧ q_vs ads o.2 gs
  | .inr (.inl x) => e = .inl (dT x.1, x.2.length, .inl (fun j => x.2.getD j 0))
  | .inr (.inr (.inr x)) => e = .inl (dT x.1, x.2.length, .inr (.inl (fun j => x.2.getD j 0)))
  | .inr (.inr (.inl x)) => ∃ f : Nat → Option Nat, e = .inl (dT x.1, x.2.length, .inr (.inr (.inr (.inr f)))) ∧ ∀ (j : Nat) (r : Option Nat), x.2[j]? = some r → (r = none ∧ f j = none) ∨ ∃ i a, r = some i ∧ ads[i + 1]? = some a ∧ f j = some a
theorem q_E.mono {dT : Nat → ClassId} {ads ads' : List Nat} (hp : q_le ads ads') {c : q_C} {e : va_E} (h : q_E dT ads c e) : q_E dT ads' c e := by
  rcases c with o | x | x | x
  · obtain ⟨gs, h1, h2⟩ := h
    exact ⟨gs, h1, h2.mono hp⟩
  · exact h
  · obtain ⟨f, h1, h2⟩ := h
    exact ⟨f, h1, fun j r hr => (h2 j r hr).imp id (fun ⟨i, a, q1, q2, q3⟩ => ⟨i, a, q1, hp _ _ q2, q3⟩)⟩
  · exact h
abbrev q_ads (sb : Nat) (ws : va_W) : List Nat := sb :: ws.map Prod.fst
theorem q_ads_at {sb : Nat} {ws : va_W} {i a : Nat} {e : va_E} (h : ws[i]? = some (a, e)) : (q_ads sb ws)[i + 1]? = some a := by
  rw [List.getElem?_cons_succ, List.getElem?_map, h]; rfl
theorem q_ads_set {sb : Nat} {ws : va_W} {i a : Nat} {e e' : va_E} (h : ws[i]? = some (a, e)) : q_ads sb (ws.set i (a, e')) = q_ads sb ws := by
  refine congrArg (fun z => sb :: z) (List.ext_getElem? fun j => ?_)
  by_cases hj : i = j
  · subst hj
    rw [List.getElem?_map, List.getElem?_map, List.getElem?_set_self (List.getElem?_eq_some_iff.mp h).1, h]
    rfl
  · rw [List.getElem?_map, List.getElem?_map, List.getElem?_set_ne hj]
theorem q_ads_push {sb : Nat} {ws : va_W} {x : Nat × va_E} : q_le (q_ads sb ws) (q_ads sb (ws ++ [x])) := by
  intro i a h
  have hl := (List.getElem?_eq_some_iff.mp h).1
  show (sb :: (ws ++ [x]).map Prod.fst)[i]? = some a
  rw [List.map_append, ← List.cons_append, List.getElem?_append_left hl]
  exact h
def q_up (h : q_H) (i : Nat) (c : q_C) : q_H := fun j => if j = i then c else h j
