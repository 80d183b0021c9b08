/-- a class of the worlds: its number, its name, its fields, their types -/
def q_cls (ci : Nat) (C : String) (T : u_T) (N : Nat) (ty : Nat → FieldType) : Prop := vwCl[ci]? = some (C, T, N) ∧ (∀ w ∈ u_ws C T N, q_in w) ∧ (∀ k, k < N → parseFieldDescriptor (T k).2.2.1 = some (ty k)) ∧ ∀ a, a < N → ∀ b, b < N → a ≠ b → (T a).2.1 ≠ (T b).2.1
theorem q_cls.hts {ci : Nat} {C : String} {T : u_T} {N : Nat} {ty : Nat → FieldType} (hC : q_cls ci C T N ty) {s : State} (h : q_T s) (args : Array Value) : ∀ w ∈ u_ws C T N, w.before args s = true := fun w hw => h.at (hC.2.1 w hw) args
theorem q_W.look {D : va_G} {dT : Nat → ClassId} {H0 : Heap} {s : State} {h : q_H} {n sb : Nat} {ws : va_W} {H : Heap} {locs : List Loc} (hW : q_W D dT H0 s h n sb ws H locs) {i a : Nat} (ha : (q_ads sb ws)[i + 1]? = some a) : i < n ∧ ∃ e, ws[i]? = some (a, e) ∧ q_E dT (q_ads sb ws) (h i) e := by
  rw [List.getElem?_cons_succ, List.getElem?_map] at ha
  cases hi : ws[i]? with
  | none => rw [hi] at ha; cases ha
  | some x =>
    rw [hi] at ha
    obtain ⟨a', e⟩ := x
    cases ha
    have hl : i < n := by rw [← hW.1]; exact (List.getElem?_eq_some_iff.mp hi).1
    obtain ⟨a2, e2, h1, h2⟩ := hW.2.1 i hl
    rw [hi] at h1
    cases h1
    exact ⟨hl, e, rfl, h2⟩
theorem q_W.upd {D : va_G} {dT : Nat → ClassId} {H0 : Heap} {s : State} {h : q_H} {n sb : Nat} {ws : va_W} {H : Heap} {locs : List Loc} (hW : q_W D dT H0 s h n sb ws H locs) {i a : Nat} {e e' : va_E} (hi : ws[i]? = some (a, e)) {c : q_C} (he : q_E dT (q_ads sb ws) c e') {H1 : Heap} {locs1 : List Loc} (h1 : va_P D vwCl (ws.set i (a, e')) H1) (h2 : va_D (q_Z H0 s) (ws.set i (a, e'))) (h3 : va_S (q_Z H0 s) s.heap H1 locs1) : q_W D dT H0 s (q_up h i c) n sb (ws.set i (a, e')) H1 locs1 := by
  refine ⟨by rw [List.length_set]; exact hW.1, fun j hj => ?_, h1, h2, h3⟩
  rw [q_ads_set hi]
  by_cases hji : j = i
  · subst hji
    refine ⟨a, e', List.getElem?_set_self (List.getElem?_eq_some_iff.mp hi).1, ?_⟩
    rw [show q_up h j c j = c from if_pos rfl]
    exact he
  · obtain ⟨a2, e2, k1, k2⟩ := hW.2.1 j hj
    refine ⟨a2, e2, by rw [List.getElem?_set_ne (Ne.symm hji)]; exact k1, ?_⟩
    rw [show q_up h i c j = h j from if_neg hji]
    exact k2
theorem q_W.push {D : va_G} {dT : Nat → ClassId} {H0 : Heap} {s : State} {h : q_H} {n sb : Nat} {ws : va_W} {H : Heap} {locs : List Loc} (hW : q_W D dT H0 s h n sb ws H locs) {a : Nat} {e' : va_E} {c : q_C} (he : q_E dT (q_ads sb ws) c e') {H1 : Heap} {locs1 : List Loc} (h1 : va_P D vwCl (ws ++ [(a, e')]) H1) (h2 : va_D (q_Z H0 s) (ws ++ [(a, e')])) (h3 : va_S (q_Z H0 s) s.heap H1 locs1) : q_W D dT H0 s (q_up h n c) (n + 1) sb (ws ++ [(a, e')]) H1 locs1 := by
  refine ⟨by rw [List.length_append, hW.1]; rfl, fun j hj => ?_, h1, h2, h3⟩
  by_cases hji : j = n
  · rw [hji]
    refine ⟨a, e', by rw [List.getElem?_append_right (by rw [hW.1]; exact Nat.le_refl _), hW.1, Nat.sub_self]; rfl, ?_⟩
    rw [show q_up h n c n = c from if_pos rfl]
    exact he.mono q_ads_push
  · obtain ⟨a2, e2, k1, k2⟩ := hW.2.1 j (by omega)
    refine ⟨a2, e2, by rw [List.getElem?_append_left (List.getElem?_eq_some_iff.mp k1).1]; exact k1, ?_⟩
    rw [show q_up h n c j = h j from if_neg hji]
    exact k2.mono q_ads_push
theorem q_Z_new {H0 : Heap} {s : State} (h : H0.size ≤ s.heap.size) : ∀ q : Nat, s.heap.size ≤ q → q_Z H0 s q := fun q hq => Nat.le_trans h hq
/-- a value fits a field or an array's element -/
def q_fit (ty : FieldType) (v : Value) : Prop := match v with
  | .int x => narrow ty (.int x) = .int x ∧ fits ty (.int x) = true
  | .ref _ => ∀ a, narrow ty (.ref a) = .ref a ∧ fits ty (.ref a) = true
  | .null => narrow ty .null = .null ∧ fits ty .null = true
  | _ => False
theorem q_fit.use {ty : FieldType} {v w : Value} {ads : List Nat} (h : q_fit ty v) (hv : q_v ads v w) : narrow ty w = w ∧ fits ty w = true := by
  cases v with
  | int x => rw [show w = .int x from hv]; exact h
  | null => rw [show w = .null from hv]; exact h
  | ref i =>
    obtain ⟨a, -, h2⟩ := hv
    rw [h2]
    exact h a
  | _ => exact h.elim
section QH
variable {Sc : q_S} {M : q_M} {pc : Nat} {L st : List Value} {h : q_H} {n kc ks : Nat} {Q : q_O → q_H → Nat → Prop}
theorem q_get {C : String} {T : u_T} {N ci i k ix : Nat} {ty : Nat → FieldType} {fs : List Value} {v : Value} (hC : q_cls ci C T N ty) (k0 : Nat) (hk0 : k0 = k) (hk : k < N) (hw : q_in (Cond.fieldLink (q_own M) ix (T k).1 (T k).2.1 (T k).2.2.1)) (hd : decode (q_cc M) pc = .ok (.getfield ix, 3)) (hh : h i = .inl (ci, fs)) (hv : fs[k]? = some v) (kk : q_A Sc M (pc + 3) L (v :: st) h n kc ks Q) : q_A Sc M pc L (.ref i :: st) h n kc ks Q := by
  intro D dT H0 p l e R s m args below meth c H locs cells slots ls st' sb ws ads0 kc' ks' g
  obtain ⟨hF, hW, hL, ⟨_, _, rfl, ⟨a, ha, rfl⟩, hS⟩, hr⟩ := g
  obtain ⟨hi, e0, h1, h2⟩ := hW.look ha
  rw [hh] at h2
  obtain ⟨gs, rfl, h3⟩ := h2
  obtain ⟨w, h4, h5⟩ := h3.at hv
  have hT := hF.2.2.2.2.2.2.1
  exact va_get hF.1 hF.2.1 (hC.hts hT args) (fun _ q => q) hF.2.2.2.2.2.1 hF.2.2.2.2.2.2.2.1 hW.2.2.1 i h1 hC.1 k hk (hT.at hw args) (fun _ q => q) h4 hd
    (kk D dT H0 p l e R s m args below meth c H locs cells slots ls _ sb ws ads0 kc' ks' ⟨hF, hW, hL, ⟨_, _, rfl, h5, hS⟩, hr⟩)
theorem q_getN {C host : String} {T : u_T} {N ci i k ix : Nat} {ty : Nat → FieldType} {fs : List Value} {v : Value} (hC : q_cls ci C T N ty) (k0 : Nat) (hk0 : k0 = k) (hk : k < N) (hw : q_in (Cond.fieldLinkNest (q_own M) ix (T k).1 (T k).2.1 (T k).2.2.1 host)) (hd : decode (q_cc M) pc = .ok (.getfield ix, 3)) (hh : h i = .inl (ci, fs)) (hv : fs[k]? = some v) (kk : q_A Sc M (pc + 3) L (v :: st) h n kc ks Q) : q_A Sc M pc L (.ref i :: st) h n kc ks Q := by
  intro D dT H0 p l e R s m args below meth c H locs cells slots ls st' sb ws ads0 kc' ks' g
  obtain ⟨hF, hW, hL, ⟨_, _, rfl, ⟨a, ha, rfl⟩, hS⟩, hr⟩ := g
  obtain ⟨hi, e0, h1, h2⟩ := hW.look ha
  rw [hh] at h2
  obtain ⟨gs, rfl, h3⟩ := h2
  obtain ⟨w, h4, h5⟩ := h3.at hv
  have hT := hF.2.2.2.2.2.2.1
  exact va_getN hF.1 hF.2.1 (hC.hts hT args) (fun _ q => q) hF.2.2.2.2.2.1 hF.2.2.2.2.2.2.2.1 hW.2.2.1 i h1 hC.1 k hk (hT.at hw args) (fun _ q => q) h4 hd
    (kk D dT H0 p l e R s m args below meth c H locs cells slots ls _ sb ws ads0 kc' ks' ⟨hF, hW, hL, ⟨_, _, rfl, h5, hS⟩, hr⟩)
theorem q_put {C : String} {T : u_T} {N ci i k ix : Nat} {ty : Nat → FieldType} {fs : List Value} {v : Value} (hC : q_cls ci C T N ty) (k0 : Nat) (hk0 : k0 = k) (hk : k < N) (hw : q_in (Cond.fieldLink (q_own M) ix (T k).1 (T k).2.1 (T k).2.2.1)) (hfin : (T k).2.2.2 = false) (hd : decode (q_cc M) pc = .ok (.putfield ix, 3)) (hh : h i = .inl (ci, fs)) (hl : k < fs.length) (hv : q_fit (ty k) v) (kk : q_A Sc M (pc + 3) L st (q_up h i (.inl (ci, fs.set k v))) n kc ks Q) : q_A Sc M pc L (v :: .ref i :: st) h n kc ks Q := by
  intro D dT H0 p l e R s m args below meth c H locs cells slots ls st' sb ws ads0 kc' ks' g
  obtain ⟨hF, hW, hL, ⟨w, _, rfl, hvw, _, _, rfl, ⟨a, ha, rfl⟩, hS⟩, hr⟩ := g
  obtain ⟨hi, e0, h1, h2⟩ := hW.look ha
  rw [hh] at h2
  obtain ⟨gs, rfl, h3⟩ := h2
  have hT := hF.2.2.2.2.2.2.1
  have hf := hv.use hvw
  refine va_put hF.1 hF.2.1 (hC.hts hT args) (fun _ q => q) ty hC.2.2.1 hC.2.2.2 hF.2.2.2.2.2.1 hF.2.2.2.2.2.2.2.1 hW.2.2.1 hW.2.2.2.1 hW.2.2.2.2 i h1 hC.1 k hk (hT.at hw args) (fun _ q => q) hfin (hC.2.2.1 k hk) hf.1 hf.2 (by rw [h3.len]; exact hl) hd (fun H1 locs1 p1 p2 p3 => ?_)
  have hW1 := hW.upd h1 (c := .inl (ci, fs.set k v)) ⟨_, rfl, h3.set hvw⟩ p1 p2 p3
  have he : q_ads sb (ws.set i (a, .inr (ci, gs.set k w))) = q_ads sb ws := q_ads_set h1
  exact kk D dT H0 p l e R s m args below meth c H1 locs1 cells slots ls _ sb _ ads0 kc' ks' ⟨hF, hW1, by rw [he]; exact hL, by rw [he]; exact hS, by rw [he]; exact hr⟩
theorem q_putN {C host : String} {T : u_T} {N ci i k ix : Nat} {ty : Nat → FieldType} {fs : List Value} {v : Value} (hC : q_cls ci C T N ty) (k0 : Nat) (hk0 : k0 = k) (hk : k < N) (hw : q_in (Cond.fieldLinkNest (q_own M) ix (T k).1 (T k).2.1 (T k).2.2.1 host)) (hfin : (T k).2.2.2 = false) (hd : decode (q_cc M) pc = .ok (.putfield ix, 3)) (hh : h i = .inl (ci, fs)) (hl : k < fs.length) (hv : q_fit (ty k) v) (kk : q_A Sc M (pc + 3) L st (q_up h i (.inl (ci, fs.set k v))) n kc ks Q) : q_A Sc M pc L (v :: .ref i :: st) h n kc ks Q := by
  intro D dT H0 p l e R s m args below meth c H locs cells slots ls st' sb ws ads0 kc' ks' g
  obtain ⟨hF, hW, hL, ⟨w, _, rfl, hvw, _, _, rfl, ⟨a, ha, rfl⟩, hS⟩, hr⟩ := g
  obtain ⟨hi, e0, h1, h2⟩ := hW.look ha
  rw [hh] at h2
  obtain ⟨gs, rfl, h3⟩ := h2
  have hT := hF.2.2.2.2.2.2.1
  have hf := hv.use hvw
  refine va_putN hF.1 hF.2.1 (hC.hts hT args) (fun _ q => q) ty hC.2.2.1 hC.2.2.2 hF.2.2.2.2.2.1 hF.2.2.2.2.2.2.2.1 hW.2.2.1 hW.2.2.2.1 hW.2.2.2.2 i h1 hC.1 k hk (hT.at hw args) (fun _ q => q) hfin (hC.2.2.1 k hk) hf.1 hf.2 (by rw [h3.len]; exact hl) hd (fun H1 locs1 p1 p2 p3 => ?_)
  have hW1 := hW.upd h1 (c := .inl (ci, fs.set k v)) ⟨_, rfl, h3.set hvw⟩ p1 p2 p3
  have he : q_ads sb (ws.set i (a, .inr (ci, gs.set k w))) = q_ads sb ws := q_ads_set h1
  exact kk D dT H0 p l e R s m args below meth c H1 locs1 cells slots ls _ sb _ ads0 kc' ks' ⟨hF, hW1, by rw [he]; exact hL, by rw [he]; exact hS, by rw [he]; exact hr⟩
theorem q_putF {C : String} {T : u_T} {N ci i k ix : Nat} {ty : Nat → FieldType} {fs : List Value} {v : Value} (hC : q_cls ci C T N ty) (k0 : Nat) (hk0 : k0 = k) (hk : k < N) (hw : q_in (Cond.fieldLink (q_own M) ix (T k).1 (T k).2.1 (T k).2.2.1)) (hfin : (T k).2.2.2 = true) (hin : (q_nm M).name = "<init>") (hdc : (T k).1 = q_own M) (hd : decode (q_cc M) pc = .ok (.putfield ix, 3)) (hh : h i = .inl (ci, fs)) (hl : k < fs.length) (hv : q_fit (ty k) v) (kk : q_A Sc M (pc + 3) L st (q_up h i (.inl (ci, fs.set k v))) n kc ks Q) : q_A Sc M pc L (v :: .ref i :: st) h n kc ks Q := by
  intro D dT H0 p l e R s m args below meth c H locs cells slots ls st' sb ws ads0 kc' ks' g
  obtain ⟨hF, hW, hL, ⟨w, _, rfl, hvw, _, _, rfl, ⟨a, ha, rfl⟩, hS⟩, hr⟩ := g
  obtain ⟨hi, e0, h1, h2⟩ := hW.look ha
  rw [hh] at h2
  obtain ⟨gs, rfl, h3⟩ := h2
  have hT := hF.2.2.2.2.2.2.1
  have hf := hv.use hvw
  refine va_putF hF.1 hF.2.1 (hC.hts hT args) (fun _ q => q) ty hC.2.2.1 hC.2.2.2 hF.2.2.2.2.2.1 hF.2.2.2.2.2.2.2.1 hW.2.2.1 hW.2.2.2.1 hW.2.2.2.2 i h1 hC.1 k hk (hT.at hw args) (fun _ q => q) hfin (hF.2.2.2.2.2.2.2.2.2.2.2.1.trans hin) hdc (hC.2.2.1 k hk) hf.1 hf.2 (by rw [h3.len]; exact hl) hd (fun H1 locs1 p1 p2 p3 => ?_)
  have hW1 := hW.upd h1 (c := .inl (ci, fs.set k v)) ⟨_, rfl, h3.set hvw⟩ p1 p2 p3
  have he : q_ads sb (ws.set i (a, .inr (ci, gs.set k w))) = q_ads sb ws := q_ads_set h1
  exact kk D dT H0 p l e R s m args below meth c H1 locs1 cells slots ls _ sb _ ads0 kc' ks' ⟨hF, hW1, by rw [he]; exact hL, by rw [he]; exact hS, by rw [he]; exact hr⟩
theorem q_iald {i t : Nat} {j : Int32} {a : List Int32} (hd : decode (q_cc M) pc = .ok (.iaload, 1)) (hh : h i = .inr (.inl (t, a))) (ht : q_ty[t]? = some .int) (hj : vp_in j a.length) (kk : q_A Sc M (pc + 1) L (.int (a.getD j.toNatClampNeg 0) :: st) h n kc ks Q) : q_A Sc M pc L (.int j :: .ref i :: st) h n kc ks Q := by
  intro D dT H0 p l e R s m args below meth c H locs cells slots ls st' sb ws ads0 kc' ks' g
  obtain ⟨hF, hW, hL, ⟨_, _, rfl, rfl, _, _, rfl, ⟨b, ha, rfl⟩, hS⟩, hr⟩ := g
  obtain ⟨hi, e0, h1, h2⟩ := hW.look ha
  rw [hh] at h2
  subst h2
  exact va_iald hF.1 hF.2.1 hF.2.2.2.2.2.2.2.1 hW.2.2.1 i t h1 (q_tys_at ht) hj hd (kk D dT H0 p l e R s m args below meth c H locs cells slots ls _ sb ws ads0 kc' ks' ⟨hF, hW, hL, ⟨_, _, rfl, rfl, hS⟩, hr⟩)
theorem q_zald {i t : Nat} {j : Int32} {a : List Int32} (hd : decode (q_cc M) pc = .ok (.baload, 1)) (hh : h i = .inr (.inl (t, a))) (ht : q_ty[t]? = some .boolean) (hj : vp_in j a.length) (kk : q_A Sc M (pc + 1) L (.int (a.getD j.toNatClampNeg 0) :: st) h n kc ks Q) : q_A Sc M pc L (.int j :: .ref i :: st) h n kc ks Q := by
  intro D dT H0 p l e R s m args below meth c H locs cells slots ls st' sb ws ads0 kc' ks' g
  obtain ⟨hF, hW, hL, ⟨_, _, rfl, rfl, _, _, rfl, ⟨b, ha, rfl⟩, hS⟩, hr⟩ := g
  obtain ⟨hi, e0, h1, h2⟩ := hW.look ha
  rw [hh] at h2
  subst h2
  exact va_zald hF.1 hF.2.1 hF.2.2.2.2.2.2.2.1 hW.2.2.1 i t h1 (q_tys_at ht) hj hd (kk D dT H0 p l e R s m args below meth c H locs cells slots ls _ sb ws ads0 kc' ks' ⟨hF, hW, hL, ⟨_, _, rfl, rfl, hS⟩, hr⟩)
theorem q_upd_list {a : List Int32} {j : Nat} (hj : j < a.length) (x : Int32) : upd (fun q => a.getD q 0) j x = fun q => (a.set j x).getD q 0 := by
  funext q
  unfold upd
  by_cases hq : q = j
  · subst hq
    rw [if_pos rfl, List.getD_eq_getElem?_getD, List.getElem?_set_self hj]
    rfl
  · rw [if_neg hq]
    show a.getD q 0 = (a.set j x).getD q 0
    rw [List.getD_eq_getElem?_getD, List.getD_eq_getElem?_getD, List.getElem?_set_ne (Ne.symm hq)]
theorem q_iast {i t : Nat} {j x : Int32} {a : List Int32} (hd : decode (q_cc M) pc = .ok (.iastore, 1)) (hh : h i = .inr (.inl (t, a))) (ht : q_ty[t]? = some .int) (hj : vp_in j a.length) (kk : q_A Sc M (pc + 1) L st (q_up h i (.inr (.inl (t, a.set j.toNatClampNeg x)))) n kc ks Q) : q_A Sc M pc L (.int x :: .int j :: .ref i :: st) h n kc ks Q := by
  intro D dT H0 p l e R s m args below meth c H locs cells slots ls st' sb ws ads0 kc' ks' g
  obtain ⟨hF, hW, hL, ⟨_, _, rfl, rfl, _, _, rfl, rfl, _, _, rfl, ⟨b, ha, rfl⟩, hS⟩, hr⟩ := g
  obtain ⟨hi, e0, h1, h2⟩ := hW.look ha
  rw [hh] at h2
  subst h2
  have hlt : j.toNatClampNeg < a.length := Nat.not_le.mp fun q => hj (Or.inr q)
  refine va_iast hF.1 hF.2.1 hF.2.2.2.2.2.2.2.1 hW.2.2.1 hW.2.2.2.1 hW.2.2.2.2 i t h1 (q_tys_at ht) hj hd (fun H1 locs1 p1 p2 p3 => ?_)
  rw [q_upd_list hlt] at p1 p2
  have hW1 := hW.upd h1 (c := .inr (.inl (t, a.set j.toNatClampNeg x))) (by show _ = _; rw [List.length_set]) p1 p2 p3
  have he := q_ads_set (sb := sb) (e' := (.inl (dT t, a.length, .inl (fun q => (a.set j.toNatClampNeg x).getD q 0)))) h1
  exact kk D dT H0 p l e R s m args below meth c H1 locs1 cells slots ls _ sb _ ads0 kc' ks' ⟨hF, hW1, by rw [he]; exact hL, by rw [he]; exact hS, by rw [he]; exact hr⟩
theorem q_zast {i t : Nat} {j x : Int32} {a : List Int32} (hd : decode (q_cc M) pc = .ok (.bastore, 1)) (hh : h i = .inr (.inl (t, a))) (ht : q_ty[t]? = some .boolean) (hj : vp_in j a.length) (hx : vp_nar .boolean x = x) (kk : q_A Sc M (pc + 1) L st (q_up h i (.inr (.inl (t, a.set j.toNatClampNeg x)))) n kc ks Q) : q_A Sc M pc L (.int x :: .int j :: .ref i :: st) h n kc ks Q := by
  intro D dT H0 p l e R s m args below meth c H locs cells slots ls st' sb ws ads0 kc' ks' g
  obtain ⟨hF, hW, hL, ⟨_, _, rfl, rfl, _, _, rfl, rfl, _, _, rfl, ⟨b, ha, rfl⟩, hS⟩, hr⟩ := g
  obtain ⟨hi, e0, h1, h2⟩ := hW.look ha
  rw [hh] at h2
  subst h2
  have hlt : j.toNatClampNeg < a.length := Nat.not_le.mp fun q => hj (Or.inr q)
  refine va_zast hF.1 hF.2.1 hF.2.2.2.2.2.2.2.1 hW.2.2.1 hW.2.2.2.1 hW.2.2.2.2 i t h1 (q_tys_at ht) hj hd (fun H1 locs1 p1 p2 p3 => ?_)
  rw [hx, q_upd_list hlt] at p1 p2
  have hW1 := hW.upd h1 (c := .inr (.inl (t, a.set j.toNatClampNeg x))) (by show _ = _; rw [List.length_set]) p1 p2 p3
  have he := q_ads_set (sb := sb) (e' := (.inl (dT t, a.length, .inl (fun q => (a.set j.toNatClampNeg x).getD q 0)))) h1
  exact kk D dT H0 p l e R s m args below meth c H1 locs1 cells slots ls _ sb _ ads0 kc' ks' ⟨hF, hW1, by rw [he]; exact hL, by rw [he]; exact hS, by rw [he]; exact hr⟩
theorem q_aald {i t : Nat} {C : String} {j : Int32} {a : List (Option Nat)} {v : Nat} (hd : decode (q_cc M) pc = .ok (.aaload, 1)) (hh : h i = .inr (.inr (.inl (t, a)))) (ht : q_ty[t]? = some (.object C)) (hj : vp_in j a.length) (hv : a[j.toNatClampNeg]? = some (some v)) (kk : q_A Sc M (pc + 1) L (.ref v :: st) h n kc ks Q) : q_A Sc M pc L (.int j :: .ref i :: st) h n kc ks Q := by
  intro D dT H0 p l e R s m args below meth c H locs cells slots ls st' sb ws ads0 kc' ks' g
  obtain ⟨hF, hW, hL, ⟨_, _, rfl, rfl, _, _, rfl, ⟨b, ha, rfl⟩, hS⟩, hr⟩ := g
  obtain ⟨hi, e0, h1, h2⟩ := hW.look ha
  rw [hh] at h2
  obtain ⟨f, rfl, h3⟩ := h2
  rcases h3 _ _ hv with ⟨q1, -⟩ | ⟨i2, a2, q1, q2, q3⟩
  · cases q1
  · cases q1
    refine va_aldq hF.1 hF.2.1 hF.2.2.2.2.2.2.2.1 hW.2.2.1 i t h1 (q_tys_at ht) hj hd ?_
    rw [q3]
    exact kk D dT H0 p l e R s m args below meth c H locs cells slots ls _ sb ws ads0 kc' ks' ⟨hF, hW, hL, ⟨_, _, rfl, ⟨a2, q2, rfl⟩, hS⟩, hr⟩
theorem q_alen_i {i t : Nat} {a : List Int32} {ty : FieldType} {v : Int32} (hd : decode (q_cc M) pc = .ok (.arraylength, 1)) (hh : h i = .inr (.inl (t, a))) (ht : q_ty[t]? = some ty) (hv : Int32.ofNat a.length = v) (kk : q_A Sc M (pc + 1) L (.int v :: st) h n kc ks Q) : q_A Sc M pc L (.ref i :: st) h n kc ks Q := by
  intro D dT H0 p l e R s m args below meth c H locs cells slots ls st' sb ws ads0 kc' ks' g
  obtain ⟨hF, hW, hL, ⟨_, _, rfl, ⟨b, ha, rfl⟩, hS⟩, hr⟩ := g
  obtain ⟨hi, e0, h1, h2⟩ := hW.look ha
  rw [hh] at h2
  subst h2
  exact va_alen hF.1 hF.2.1 hF.2.2.2.2.2.2.2.1 hW.2.2.1 i t h1 (q_tys_at ht) hv hd (kk D dT H0 p l e R s m args below meth c H locs cells slots ls _ sb ws ads0 kc' ks' ⟨hF, hW, hL, ⟨_, _, rfl, rfl, hS⟩, hr⟩)
theorem q_alen_r {i t : Nat} {a : List (Option Nat)} {ty : FieldType} {v : Int32} (hd : decode (q_cc M) pc = .ok (.arraylength, 1)) (hh : h i = .inr (.inr (.inl (t, a)))) (ht : q_ty[t]? = some ty) (hv : Int32.ofNat a.length = v) (kk : q_A Sc M (pc + 1) L (.int v :: st) h n kc ks Q) : q_A Sc M pc L (.ref i :: st) h n kc ks Q := by
  intro D dT H0 p l e R s m args below meth c H locs cells slots ls st' sb ws ads0 kc' ks' g
  obtain ⟨hF, hW, hL, ⟨_, _, rfl, ⟨b, ha, rfl⟩, hS⟩, hr⟩ := g
  obtain ⟨hi, e0, h1, h2⟩ := hW.look ha
  rw [hh] at h2
  obtain ⟨f, rfl, h3⟩ := h2
  exact va_alen hF.1 hF.2.1 hF.2.2.2.2.2.2.2.1 hW.2.2.1 i t h1 (q_tys_at ht) hv hd (kk D dT H0 p l e R s m args below meth c H locs cells slots ls _ sb ws ads0 kc' ks' ⟨hF, hW, hL, ⟨_, _, rfl, rfl, hS⟩, hr⟩)
theorem q_new {C : String} {T : u_T} {N ci ix : Nat} {ty : Nat → FieldType} {fs : List Value} (hC : q_cls ci C T N ty) (hw1 : q_in (Cond.classLink (q_own M) ix C)) (hw2 : q_in (Cond.instantiable C N)) (hw3 : q_in (Cond.initialized C)) (hd : decode (q_cc M) pc = .ok (.new ix, 3)) (hfs : ∀ j, j < N → defaultValue (ty j) = vp_V fs j) (hfv : ∀ ads, q_vs ads fs fs) (hk1 : 1 ≤ kc) (hk2 : N ≤ ks) (kk : q_A Sc M (pc + 3) L (.ref n :: st) (q_up h n (.inl (ci, fs))) (n + 1) (kc - 1) (ks - N) Q) : q_A Sc M pc L st h n kc ks Q := by
  intro D dT H0 p l e R s m args below meth c H locs cells slots ls st' sb ws ads0 kc' ks' g
  obtain ⟨hF, hW, hL, hS, ha, g6, g7, g8, g9⟩ := g
  have hT := hF.2.2.2.2.2.2.1
  refine va_new hF.1 hF.2.1 (hC.hts hT args) (fun _ q => q) ty hC.2.2.1 hF.2.2.2.2.2.1 (hT.at hw1 args) (hT.at hw2 args) (hT.at hw3 args) hF.2.2.2.2.2.2.2.1 hW.2.2.1 hW.2.2.2.1 hW.2.2.2.2 (q_Z_new hF.2.2.2.2.2.2.2.2.2.2.2.2.1) hC.1 hfs (by omega) (by omega) hd (fun q H1 p1 p2 p3 => ?_)
  have hW1 := hW.push (c := .inl (ci, fs)) ⟨fs, rfl, hfv _⟩ p1 p2 p3
  have hq : (q_ads sb (ws ++ [(q, (.inr (ci, fs) : va_E))]))[n + 1]? = some q := q_ads_at (e := .inr (ci, fs)) (by rw [List.getElem?_append_right (by rw [hW.1]; exact Nat.le_refl _), hW.1, Nat.sub_self]; rfl)
  exact kk D dT H0 p l e R s m args below meth c H1 locs (cells + 1) (slots + N) ls _ sb _ ads0 kc' ks' ⟨hF, hW1, hL.mono q_ads_push, ⟨_, _, rfl, ⟨q, hq, rfl⟩, hS.mono q_ads_push⟩, ha.tr q_ads_push, by omega, by omega, g8, g9⟩
end QH
