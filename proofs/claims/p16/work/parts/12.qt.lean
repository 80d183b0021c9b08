/-! ===== TYPED HEAPS: what every cell is, by its number; for safety ===== -/
abbrev q_K : Type := Nat × Nat × List (Nat × Nat)
def q_f1 (p : Nat × Nat) (f : Value) : Prop := match p.1 with
  | 0 => ∃ x, f = .int x
  | 1 => f = .ref p.2
  | 3 => f = .null
  | _ => f = .int (nI p.2)
def q_fm : List (Nat × Nat) → List Value → Prop
  | [], fs => fs = []
  | p :: ps, fs => ∃ f r, fs = f :: r ∧ q_f1 p f ∧ q_fm ps r
theorem q_fm.at : ∀ {ps : List (Nat × Nat)} {fs : List Value}, q_fm ps fs → ∀ {k : Nat} {p : Nat × Nat}, ps[k]? = some p → ∃ f, fs[k]? = some f ∧ q_f1 p f
  | [], _, _, k, p, hk => by simp at hk
  | _ :: _, _, ⟨f, r, e, h1, h2⟩, k, p, hk => by
    subst e
    cases k with
    | zero =>
      rw [List.getElem?_cons_zero] at hk
      cases hk
      exact ⟨f, rfl, h1⟩
    | succ k =>
      rw [List.getElem?_cons_succ] at hk
      obtain ⟨f2, q1, q2⟩ := q_fm.at h2 hk
      exact ⟨f2, by rw [List.getElem?_cons_succ]; exact q1, q2⟩
theorem q_fm.set : ∀ {ps : List (Nat × Nat)} {fs : List Value}, q_fm ps fs → ∀ {k : Nat} {p : Nat × Nat} {f : Value}, q_f1 p f → q_fm (ps.set k p) (fs.set k f)
  | [], _, h, k, p, f, hf => by rw [show _ = [] from h]; rfl
  | _ :: _, _, ⟨f0, r, e, h1, h2⟩, k, p, f, hf => by
    subst e
    cases k with
    | zero => exact ⟨f, r, rfl, hf, h2⟩
    | succ k => exact ⟨f0, _, rfl, h1, q_fm.set h2 hf⟩
theorem q_fm.len : ∀ {ps : List (Nat × Nat)} {fs : List Value}, q_fm ps fs → fs.length = ps.length
  | [], _, h => by rw [show _ = [] from h]; rfl
  | _ :: _, _, ⟨f, r, e, h1, h2⟩ => by
    subst e
    rw [List.length_cons, List.length_cons, q_fm.len h2]
theorem q_set_same {α : Type} : ∀ {l : List α} {k : Nat} {a : α}, l[k]? = some a → l.set k a = l
  | [], _, _, h => by simp at h
  | b :: l, k, a, h => by
    cases k with
    | zero =>
      rw [List.getElem?_cons_zero] at h
      cases h
      rfl
    | succ k =>
      rw [List.getElem?_cons_succ] at h
      rw [List.set_cons_succ, q_set_same h]
def q_okc (k : q_K) (c : q_C) : Prop := match k.1 with
  | 1 => ∃ a, c = .inr (.inl (0, a)) ∧ a.length = k.2.1
  | 2 => ∃ a, c = .inr (.inl (1, a)) ∧ a.length = k.2.1
  | 3 => c = .inr (.inr (.inl (k.2.1, k.2.2.map (fun p => some p.2))))
  | 4 => ∃ fs, c = .inl (k.2.1, fs) ∧ q_fm k.2.2 fs
  | 5 => ∃ a, c = .inr (.inr (.inr (5, a))) ∧ a.length = k.2.1
  | 6 => c = .inr (.inr (.inl (k.2.1, k.2.2.map (fun p => if p.1 = 1 then some p.2 else none))))
  | 7 => c = .inr (.inr (.inr (5, [(nI k.2.1).toInt64])))
  | 8 => c = .inr (.inl (0, k.2.2.map (fun p => nI p.2)))
  | 9 => c = .inr (.inl (1, k.2.2.map (fun p => nI p.2)))
  | _ => True
def q_ok (Γ : Nat → q_K) (h : q_H) : Prop := ∀ i, q_okc (Γ i) (h i)
theorem q_ok.up {Γ : Nat → q_K} {h : q_H} (hok : q_ok Γ h) {i : Nat} {c : q_C} (hc : q_okc (Γ i) c) : q_ok Γ (q_up h i c) := fun j => by
  by_cases hj : j = i
  · subst hj
    rw [show q_up h j c j = c from if_pos rfl]
    exact hc
  · rw [show q_up h i c j = h j from if_neg hj]
    exact hok j
theorem q_ok.o {Γ : Nat → q_K} {h : q_H} (hok : q_ok Γ h) {i ci : Nat} {ps : List (Nat × Nat)} (hg : Γ i = (4, ci, ps)) : ∃ fs, h i = .inl (ci, fs) ∧ q_fm ps fs := by
  have := hok i
  rw [hg] at this
  exact this
theorem q_ok.i {Γ : Nat → q_K} {h : q_H} (hok : q_ok Γ h) {i N : Nat} {ps : List (Nat × Nat)} (hg : Γ i = (1, N, ps)) : ∃ a, h i = .inr (.inl (0, a)) ∧ a.length = N := by
  have := hok i
  rw [hg] at this
  exact this
theorem q_ok.z {Γ : Nat → q_K} {h : q_H} (hok : q_ok Γ h) {i N : Nat} {ps : List (Nat × Nat)} (hg : Γ i = (2, N, ps)) : ∃ a, h i = .inr (.inl (1, a)) ∧ a.length = N := by
  have := hok i
  rw [hg] at this
  exact this
theorem q_ok.r {Γ : Nat → q_K} {h : q_H} (hok : q_ok Γ h) {i t : Nat} {ps : List (Nat × Nat)} (hg : Γ i = (3, t, ps)) : h i = .inr (.inr (.inl (t, ps.map (fun p => some p.2)))) := by
  have := hok i
  rw [hg] at this
  exact this
theorem q_ok.l {Γ : Nat → q_K} {h : q_H} (hok : q_ok Γ h) {i N : Nat} {ps : List (Nat × Nat)} (hg : Γ i = (5, N, ps)) : ∃ a, h i = .inr (.inr (.inr (5, a))) ∧ a.length = N := by
  have := hok i
  rw [hg] at this
  exact this
/-- the field's entry links, by either road -/
def q_fl (own : String) (ix : Nat) (T : u_T) (k : Nat) : Prop := q_in (Cond.fieldLink own ix (T k).1 (T k).2.1 (T k).2.2.1) ∨ ∃ host, q_in (Cond.fieldLinkNest own ix (T k).1 (T k).2.1 (T k).2.2.1 host)
/-- a method is safe at these arguments: it ends with R, the heap as well typed as before -/
def q_safe (Sc : q_S) (Γ : Nat → q_K) (M : q_M) (vs : List Value) (n kc ks : Nat) (R : q_O → Prop) : Prop := ∀ h, q_ok Γ h → q_A Sc M 0 (q_L0 M vs) [] h n kc ks (fun O h' n' => R O ∧ q_ok Γ h' ∧ n' = n)
def q_RV : q_O → Prop := fun O => O = .inl none
def q_RI : q_O → Prop := fun O => ∃ x, O = .inl (some (.int x))
def q_bl (x : Int32) : Prop := x = nI 0 ∨ x = nI 1
theorem q_bl.nar {x : Int32} (h : q_bl x) : narrow .boolean (.int x) = .int x := by rcases h with rfl | rfl <;> rfl
theorem q_bl.vp {x : Int32} (h : q_bl x) : vp_nar .boolean x = x := by rcases h with rfl | rfl <;> rfl
theorem q_bl.fit {x : Int32} (h : q_bl x) : q_fit .boolean (.int x) := by rcases h with rfl | rfl <;> exact ⟨rfl, rfl⟩
def q_RB : q_O → Prop := fun O => ∃ x, O = .inl (some (.int x)) ∧ q_bl x
section QT
variable {Sc : q_S} {M M' : q_M} {pc : Nat} {L st : List Value} {h : q_H} {n kc ks kc1 ks1 : Nat} {Q : q_O → q_H → Nat → Prop} {Γ : Nat → q_K}
variable {C : String} {T : u_T} {N ci i ix : Nat} {ty : Nat → FieldType} {ps : List (Nat × Nat)}
theorem t_look (k : Nat) {v : Value} {fs : List Value} (hC : q_cls ci C T N ty) (hk : k < N) (hw : q_fl (q_own M) ix T k) (hd : decode (q_cc M) pc = .ok (.getfield ix, 3)) (hh : h i = .inl (ci, fs)) (hv : fs[k]? = some v) (kk : q_A Sc M (pc + 3) L (v :: st) h n kc ks Q) : q_A Sc M pc L (.ref i :: st) h n kc ks Q := by
  rcases hw with hw | ⟨host, hw⟩
  · exact q_get hC k rfl hk hw hd hh hv kk
  · exact q_getN hC k rfl hk hw hd hh hv kk
theorem t_geti (k : Nat) {z : Nat} (hC : q_cls ci C T N ty) (hk : k < N) (hw : q_fl (q_own M) ix T k) (hd : decode (q_cc M) pc = .ok (.getfield ix, 3)) (hok : q_ok Γ h) (hg : Γ i = (4, ci, ps)) (hp : ps[k]? = some (0, z)) (kk : ∀ x, q_A Sc M (pc + 3) L (.int x :: st) h n kc ks Q) : q_A Sc M pc L (.ref i :: st) h n kc ks Q := by
  obtain ⟨fs, h1, h2⟩ := hok.o hg
  obtain ⟨f, h3, x, rfl⟩ := h2.at hp
  exact t_look k hC hk hw hd h1 h3 (kk x)
theorem t_getr (k : Nat) {z : Nat} (hC : q_cls ci C T N ty) (hk : k < N) (hw : q_fl (q_own M) ix T k) (hd : decode (q_cc M) pc = .ok (.getfield ix, 3)) (hok : q_ok Γ h) (hg : Γ i = (4, ci, ps)) (hp : ps[k]? = some (1, z)) (kk : q_A Sc M (pc + 3) L (.ref z :: st) h n kc ks Q) : q_A Sc M pc L (.ref i :: st) h n kc ks Q := by
  obtain ⟨fs, h1, h2⟩ := hok.o hg
  obtain ⟨f, h3, h4⟩ := h2.at hp
  cases h4
  exact t_look k hC hk hw hd h1 h3 kk
theorem t_getc (k : Nat) {z : Nat} (hC : q_cls ci C T N ty) (hk : k < N) (hw : q_fl (q_own M) ix T k) (hd : decode (q_cc M) pc = .ok (.getfield ix, 3)) (hok : q_ok Γ h) (hg : Γ i = (4, ci, ps)) (hp : ps[k]? = some (2, z)) (kk : q_A Sc M (pc + 3) L (.int (nI z) :: st) h n kc ks Q) : q_A Sc M pc L (.ref i :: st) h n kc ks Q := by
  obtain ⟨fs, h1, h2⟩ := hok.o hg
  obtain ⟨f, h3, h4⟩ := h2.at hp
  cases h4
  exact t_look k hC hk hw hd h1 h3 kk
theorem t_puti (k : Nat) {z : Nat} {x : Int32} (hC : q_cls ci C T N ty) (hk : k < N) (hw : q_fl (q_own M) ix T k) (hfin : (T k).2.2.2 = false) (hd : decode (q_cc M) pc = .ok (.putfield ix, 3)) (hok : q_ok Γ h) (hg : Γ i = (4, ci, ps)) (hp : ps[k]? = some (0, z)) (hv : q_fit (ty k) (.int x)) (kk : ∀ h', q_ok Γ h' → q_A Sc M (pc + 3) L st h' n kc ks Q) : q_A Sc M pc L (.int x :: .ref i :: st) h n kc ks Q := by
  obtain ⟨fs, h1, h2⟩ := hok.o hg
  have hl : k < fs.length := by rw [h2.len]; exact (List.getElem?_eq_some_iff.mp hp).1
  have h3 := h2.set (k := k) (p := (0, z)) (f := .int x) ⟨x, rfl⟩
  rw [q_set_same hp] at h3
  have h4 := kk _ (hok.up (i := i) (c := .inl (ci, fs.set k (.int x))) (by rw [hg]; exact ⟨_, rfl, h3⟩))
  rcases hw with hw | ⟨host, hw⟩
  · exact q_put hC k rfl hk hw hfin hd h1 hl hv h4
  · exact q_putN hC k rfl hk hw hfin hd h1 hl hv h4
theorem t_putc (k : Nat) {z z' : Nat} (hC : q_cls ci C T N ty) (hk : k < N) (hw : q_fl (q_own M) ix T k) (hfin : (T k).2.2.2 = false) (hd : decode (q_cc M) pc = .ok (.putfield ix, 3)) (hok : q_ok Γ h) (hg : Γ i = (4, ci, ps)) (hp : ps[k]? = some (2, z)) (hv : q_fit (ty k) (.int (nI z'))) (kk : ∀ h', q_ok (fun j => if j = i then (4, ci, ps.set k (2, z')) else Γ j) h' → q_A Sc M (pc + 3) L st h' n kc ks Q) : q_A Sc M pc L (.int (nI z') :: .ref i :: st) h n kc ks Q := by
  obtain ⟨fs, h1, h2⟩ := hok.o hg
  have hl : k < fs.length := by rw [h2.len]; exact (List.getElem?_eq_some_iff.mp hp).1
  have h3 := h2.set (k := k) (p := (2, z')) (f := .int (nI z')) rfl
  have h4 := kk (q_up h i (.inl (ci, fs.set k (.int (nI z'))))) (fun j => by
    by_cases hj : j = i
    · subst hj
      rw [show q_up h j _ j = _ from if_pos rfl]
      show q_okc (if j = j then _ else _) _
      rw [if_pos rfl]
      exact ⟨_, rfl, h3⟩
    · rw [show q_up h i _ j = h j from if_neg hj]
      show q_okc (if j = i then _ else _) _
      rw [if_neg hj]
      exact hok j)
  rcases hw with hw | ⟨host, hw⟩
  · exact q_put hC k rfl hk hw hfin hd h1 hl hv h4
  · exact q_putN hC k rfl hk hw hfin hd h1 hl hv h4
theorem t_iald {j : Int32} (hd : decode (q_cc M) pc = .ok (.iaload, 1)) (hok : q_ok Γ h) (hg : Γ i = (1, N, ps)) (hj : vp_in j N) (kk : ∀ x, q_A Sc M (pc + 1) L (.int x :: st) h n kc ks Q) : q_A Sc M pc L (.int j :: .ref i :: st) h n kc ks Q := by
  obtain ⟨a, h1, h2⟩ := hok.i hg
  exact q_iald hd h1 rfl (by rw [h2]; exact hj) (kk _)
theorem t_zald {j : Int32} (hd : decode (q_cc M) pc = .ok (.baload, 1)) (hok : q_ok Γ h) (hg : Γ i = (2, N, ps)) (hj : vp_in j N) (kk : ∀ x, q_A Sc M (pc + 1) L (.int x :: st) h n kc ks Q) : q_A Sc M pc L (.int j :: .ref i :: st) h n kc ks Q := by
  obtain ⟨a, h1, h2⟩ := hok.z hg
  exact q_zald hd h1 rfl (by rw [h2]; exact hj) (kk _)
theorem t_iast {j x : Int32} (hd : decode (q_cc M) pc = .ok (.iastore, 1)) (hok : q_ok Γ h) (hg : Γ i = (1, N, ps)) (hj : vp_in j N) (kk : ∀ h', q_ok Γ h' → q_A Sc M (pc + 1) L st h' n kc ks Q) : q_A Sc M pc L (.int x :: .int j :: .ref i :: st) h n kc ks Q := by
  obtain ⟨a, h1, h2⟩ := hok.i hg
  exact q_iast hd h1 rfl (by rw [h2]; exact hj) (kk _ (hok.up (by rw [hg]; exact ⟨_, rfl, by rw [List.length_set]; exact h2⟩)))
theorem t_zast {j x : Int32} (hd : decode (q_cc M) pc = .ok (.bastore, 1)) (hok : q_ok Γ h) (hg : Γ i = (2, N, ps)) (hj : vp_in j N) (hx : vp_nar .boolean x = x) (kk : ∀ h', q_ok Γ h' → q_A Sc M (pc + 1) L st h' n kc ks Q) : q_A Sc M pc L (.int x :: .int j :: .ref i :: st) h n kc ks Q := by
  obtain ⟨a, h1, h2⟩ := hok.z hg
  exact q_zast hd h1 rfl (by rw [h2]; exact hj) hx (kk _ (hok.up (by rw [hg]; exact ⟨_, rfl, by rw [List.length_set]; exact h2⟩)))
theorem t_last {j : Int32} {x : Int64} (hd : decode (q_cc M) pc = .ok (.lastore, 1)) (hok : q_ok Γ h) (hg : Γ i = (5, N, ps)) (hj : vp_in j N) (kk : ∀ h', q_ok Γ h' → q_A Sc M (pc + 1) L st h' n kc ks Q) : q_A Sc M pc L (.long x :: .int j :: .ref i :: st) h n kc ks Q := by
  obtain ⟨a, h1, h2⟩ := hok.l hg
  exact q_last hd h1 rfl (by rw [h2]; exact hj) (kk _ (hok.up (by rw [hg]; exact ⟨_, rfl, by rw [List.length_set]; exact h2⟩)))
theorem t_aald {t : Nat} {j : Int32} (C2 : String) (hd : decode (q_cc M) pc = .ok (.aaload, 1)) (hok : q_ok Γ h) (hg : Γ i = (3, t, ps)) (ht : q_ty[t]? = some (.object C2)) (hj : vp_in j ps.length) (kk : ∀ p, ps[j.toNatClampNeg]? = some p → q_A Sc M (pc + 1) L (.ref p.2 :: st) h n kc ks Q) : q_A Sc M pc L (.int j :: .ref i :: st) h n kc ks Q := by
  have h1 := hok.r hg
  have hlt : j.toNatClampNeg < ps.length := Nat.not_le.mp fun q => hj (Or.inr q)
  have h2 : ps[j.toNatClampNeg]? = some ps[j.toNatClampNeg] := List.getElem?_eq_getElem hlt
  exact q_aald hd h1 ht (by rw [List.length_map]; exact hj) (by rw [List.getElem?_map, h2]; rfl) (kk _ h2)
theorem t_alen {t : Nat} {tt : FieldType} (hd : decode (q_cc M) pc = .ok (.arraylength, 1)) (hok : q_ok Γ h) (hg : Γ i = (3, t, ps)) (ht : q_ty[t]? = some tt) (kk : q_A Sc M (pc + 1) L (.int (nI ps.length) :: st) h n kc ks Q) : q_A Sc M pc L (.ref i :: st) h n kc ks Q := by
  have h1 := hok.r hg
  exact q_alen_r hd h1 ht (by rw [List.length_map]; rfl) kk
/-- a call of a safe method -/
theorem t_callV (vs rest : List Value) {R : q_O → Prop} (hC : q_cls ci C T N ty) (hd : decode (q_cc M) pc = .ok (.invokevirtual ix, 3)) (hw1 : q_in (Cond.methodLink (q_own M) ix (q_nm M'))) (hw2 : q_in (Cond.instanceMethod (q_nm M'))) (hw3 : q_in (Cond.selects C (q_nm M') (q_nm M'))) (hcd : q_inC M') (hmk : q_mok M' vs.length) (hst : st = vs.reverse ++ .ref i :: rest) (hok : q_ok Γ h) (hg : Γ i = (4, ci, ps))
    (hB : q_safe Sc Γ M' (.ref i :: vs) n kc1 ks1 R) (hk1 : kc1 ≤ kc) (hk2 : ks1 ≤ ks) (hfr : q_fr M' + 1 ≤ q_fr M) (hlo : (rest.map fun v => v.category).sum + (q_nL M' + 11) + q_lo M' ≤ q_lo M) (hnl : (Value.ref i :: vs).length ≤ q_nL M') (hone : q_one vs = true)
    (k1 : ∀ v h', R (.inl v) → q_ok Γ h' → q_A Sc M (pc + 3) L (v.toList ++ rest) h' n (kc - kc1) (ks - ks1) Q)
    (k2 : ∀ x h', R (.inr x) → q_ok Γ h' → q_Th Sc M pc L h' n (kc - kc1) (ks - ks1) Q x) : q_A Sc M pc L st h n kc ks Q := by
  obtain ⟨fs, h1, -⟩ := hok.o hg
  exact q_callV vs rest hC hd hw1 hw2 hw3 hcd hmk hst h1 (hB h hok) hk1 hk2 hfr hlo hnl hone (fun v h' n' hp => by obtain ⟨p1, p2, rfl⟩ := hp; exact k1 v h' p1 p2) (fun x h' n' hp => by obtain ⟨p1, p2, rfl⟩ := hp; exact k2 x h' p1 p2)
/-- a static entry, by either road -/
def q_sl2 (own : String) (ix : Nat) (y : MethodName) : Prop := q_in (Cond.methodLink own ix y) ∨ ∃ host, q_in (Cond.methodLinkNest own ix y host)
theorem t_callS (vs rest : List Value) {R : q_O → Prop} (hd : decode (q_cc M) pc = .ok (.invokestatic ix, 3)) (hw1 : q_sl2 (q_own M) ix (q_nm M')) (hw2 : q_in (Cond.static (q_nm M'))) (hw3 : q_in (Cond.initialized (q_nm M').cls)) (hcd : q_inC M') (hmk : q_mok M' vs.length) (hst : st = vs.reverse ++ rest) (hok : q_ok Γ h)
    (hB : q_safe Sc Γ M' vs n kc1 ks1 R) (hk1 : kc1 ≤ kc) (hk2 : ks1 ≤ ks) (hfr : q_fr M' + 1 ≤ q_fr M) (hlo : (rest.map fun v => v.category).sum + (q_nL M' + 11) + q_lo M' ≤ q_lo M) (hnl : vs.length ≤ q_nL M') (hone : q_one vs = true)
    (k1 : ∀ v h', R (.inl v) → q_ok Γ h' → q_A Sc M (pc + 3) L (v.toList ++ rest) h' n (kc - kc1) (ks - ks1) Q)
    (k2 : ∀ x h', R (.inr x) → q_ok Γ h' → q_Th Sc M pc L h' n (kc - kc1) (ks - ks1) Q x) : q_A Sc M pc L st h n kc ks Q := by
  rcases hw1 with hw1 | ⟨host, hw1⟩
  · exact q_callS vs rest hd hw1 hw2 hw3 hcd hmk hst (hB h hok) hk1 hk2 hfr hlo hnl hone (fun v h' n' hp => by obtain ⟨p1, p2, rfl⟩ := hp; exact k1 v h' p1 p2) (fun x h' n' hp => by obtain ⟨p1, p2, rfl⟩ := hp; exact k2 x h' p1 p2)
  · exact q_callSN vs rest hd hw1 hw2 hw3 hcd hmk hst (hB h hok) hk1 hk2 hfr hlo hnl hone (fun v h' n' hp => by obtain ⟨p1, p2, rfl⟩ := hp; exact k1 v h' p1 p2) (fun x h' n' hp => by obtain ⟨p1, p2, rfl⟩ := hp; exact k2 x h' p1 p2)
theorem t_istore {j : Nat} {x : Int32} {ln : Nat} (L' : List Value) (hd : (∃ q : Fin 4, (q : Nat) = j ∧ ln = 1 ∧ decode (q_cc M) pc = .ok (.istore_n q, 1)) ∨ (ln = 2 ∧ decode (q_cc M) pc = .ok (.istore j, 2))) (hn : j < q_nL M) (hs : L.set j (.int x) = L') (k : q_A Sc M (pc + ln) L' st h n kc ks Q) : q_A Sc M pc L (.int x :: st) h n kc ks Q := by
  subst hs
  rcases hd with ⟨q, rfl, rfl, hd⟩ | ⟨rfl, hd⟩
  · exact q_istore_n hd hn k
  · exact q_istore hd hn k
theorem t_iinc {j : Nat} {z : Int} {x y : Int32} (L' : List Value) (hd : decode (q_cc M) pc = .ok (.iinc j z, 3)) (hl : L[j]? = some (.int x)) (hy : x + Int32.ofInt z = y) (hn : j < q_nL M) (hs : L.set j (.int y) = L') (k : q_A Sc M (pc + 3) L' st h n kc ks Q) : q_A Sc M pc L st h n kc ks Q := by
  subst hs
  subst hy
  exact q_iinc hd hl hn k
end QT
section QN
variable {Sc : q_S} {M : q_M} {pc : Nat} {L st : List Value} {h : q_H} {n kc ks : Nat} {Q : q_O → q_H → Nat → Prop}
theorem t_iadd_n {a b : Nat} (hd : decode (q_cc M) pc = .ok (.iadd, 1)) (k : q_A Sc M (pc + 1) L (.int (nI (a + b)) :: st) h n kc ks Q) : q_A Sc M pc L (.int (nI b) :: .int (nI a) :: st) h n kc ks Q := q_iadd hd (by rw [nI_add]; exact k)
theorem t_imul_n {a b : Nat} (hd : decode (q_cc M) pc = .ok (.imul, 1)) (k : q_A Sc M (pc + 1) L (.int (nI (a * b)) :: st) h n kc ks Q) : q_A Sc M pc L (.int (nI b) :: .int (nI a) :: st) h n kc ks Q := q_imul hd (by rw [pk_mul]; exact k)
theorem t_iinc_n {j a : Nat} (L' : List Value) (hd : decode (q_cc M) pc = .ok (.iinc j 1, 3)) (hl : L[j]? = some (.int (nI a))) (hn : j < q_nL M) (hs : L.set j (.int (nI (a + 1))) = L') (k : q_A Sc M (pc + 3) L' st h n kc ks Q) : q_A Sc M pc L st h n kc ks Q := t_iinc L' hd hl (by rw [← nI_1]; rfl) hn hs k
theorem t_icmp_ge_n {a b : Nat} {off : Int} {tgt : Nat} (ha : a < 2 ^ 31) (hb : b < 2 ^ 31) (hd : decode (q_cc M) pc = .ok (.if_icmp .ge off, 3)) (ht : (pc : Int) + off = (tgt : Int)) (kt : b ≤ a → q_A Sc M tgt L st h n kc ks Q) (kf : a < b → q_A Sc M (pc + 3) L st h n kc ks Q) : q_A Sc M pc L (.int (nI b) :: .int (nI a) :: st) h n kc ks Q :=
  q_icmp_ge hd ht (fun q => kt ((nI_leI hb ha).mp q)) (fun q => kf (Nat.lt_of_not_le fun z => q ((nI_leI hb ha).mpr z)))
end QN
/-! what the class's cells are -/
def kF (Γ : Nat → q_K) (i : Nat) : Prop := ∃ t, Γ i = (4, 0, [(1, t), (0, 0), (0, 0), (0, 0), (0, 0)]) ∧ Γ t = (1, 16, [])
def kMb (Γ : Nat → q_K) (i : Nat) : Prop := ∃ a b, Γ i = (4, 2, [(1, a), (1, b)]) ∧ Γ a = (1, 8, []) ∧ Γ b = (2, 8, [])
def kLg (Γ : Nat → q_K) (i : Nat) : Prop := ∃ a b c d, Γ i = (4, 3, [(1, a), (1, b), (1, c), (1, d), (0, 0), (0, 0)]) ∧ Γ a = (1, 40, []) ∧ Γ b = (1, 40, []) ∧ Γ c = (1, 40, []) ∧ Γ d = (1, 40, [])
def kLk (Γ : Nat → q_K) (i : Nat) : Prop := ∃ fa ma fl ml, Γ i = (4, 1, [(0, 0), (1, fa), (1, ma), (0, 0), (0, 0), (0, 0), (0, 0), (0, 0)]) ∧ Γ fa = (3, 3, fl) ∧ fl.length = 8 ∧ (∀ (k : Nat) (p : Nat × Nat), fl[k]? = some p → kF Γ p.2) ∧ Γ ma = (3, 4, ml) ∧ ml.length = 6 ∧ ∀ (k : Nat) (p : Nat × Nat), ml[k]? = some p → True
def kGF (Γ : Nat → q_K) (i many : Nat) : Prop := ∃ la lg ll, Γ i = (4, 4, [(1, la), (1, lg)]) ∧ Γ la = (3, 2, ll) ∧ ll.length = many ∧ (∀ (k : Nat) (p : Nat × Nat), ll[k]? = some p → kLk Γ p.2) ∧ kLg Γ lg
