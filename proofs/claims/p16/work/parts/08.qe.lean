/-- the locals with which a method begins -/
def q_L0 (M : q_M) (vs : List Value) : List Value := vs ++ List.replicate (q_nL M - vs.length) (.retAddr 0)
def q_one : List Value → Bool
  | [] => true
  | v :: r => decide (v.category = 1) && q_one r
theorem q_one_c {v : Value} {r : List Value} (h : q_one (v :: r) = true) : v.category = 1 ∧ q_one r = true := by
  simpa [q_one] using h
theorem q_sl {ads : List Nat} : ∀ {vs ws : List Value}, q_one vs = true → q_vs ads vs ws → lg_sl ws = ws.map Slot.val
  | [], _, _, h => by rw [show _ = [] from h]; rfl
  | _ :: _, _, ho, ⟨w, r, e, h1, h2⟩ => by
    subst e
    have h3 := q_sl (q_one_c ho).2 h2
    have hc := h1.cat.trans (q_one_c ho).1
    show (w :: r).flatMap _ = _
    rw [List.flatMap_cons]
    have h4 : lg_sl r = r.map Slot.val := h3
    unfold lg_sl at h4
    rw [h4]
    simp [hc]
theorem q_args {ads : List Nat} : ∀ {vs ws : List Value} (k : Nat), q_one vs = true → q_vs ads vs ws → ∀ {i : Nat} {v : Value}, vs[i]? = some v → ∃ w, q_v ads v w ∧ w.category = 1 ∧ (k + i, w) ∈ lv_args k ws
  | [], _, _, _, _, _, _, h => by simp at h
  | _ :: _, _, k, ho, ⟨w, r, e, h1, h2⟩, i, v, h => by
    subst e
    have hc1 : w.category = 1 := h1.cat.trans (q_one_c ho).1
    have hc : ¬ w.category = 2 := by rw [hc1]; decide
    cases i with
    | zero =>
      rw [List.getElem?_cons_zero] at h
      cases h
      exact ⟨w, h1, hc1, by unfold lv_args; exact List.mem_cons_self⟩
    | succ i =>
      rw [List.getElem?_cons_succ] at h
      obtain ⟨w2, q1, q3, q2⟩ := q_args (k + 1) (q_one_c ho).2 h2 h
      refine ⟨w2, q1, q3, ?_⟩
      unfold lv_args
      rw [if_neg hc]
      rw [show k + (i + 1) = k + 1 + i by omega]
      exact List.mem_cons_of_mem _ q2
theorem q_L_entry {ads : List Nat} {M : q_M} {vs ws : List Value} (ho : q_one vs = true) (h : q_vs ads vs ws) (hn : vs.length ≤ q_nL M) : q_L ads (q_nL M) (q_L0 M vs) ((lg_sl ws ++ List.replicate (q_nL M - (lg_sl ws).length) Slot.unset).toArray) := by
  have hl : (lg_sl ws).length ≤ q_nL M := by rw [q_sl ho h, List.length_map, h.len]; exact hn
  have hh := lv_entry ws hl
  refine ⟨hh.1, hh.2.1, fun i v hv => ?_⟩
  unfold q_L0 at hv
  by_cases hi : i < vs.length
  · rw [List.getElem?_append_left hi] at hv
    obtain ⟨w, h1, h3, h2⟩ := q_args 0 ho h hv
    rw [Nat.zero_add] at h2
    exact Or.inr ⟨w, h1, h3, hh.2.2 (i, w) h2⟩
  · rw [List.getElem?_append_right (by omega), List.getElem?_replicate] at hv
    split at hv
    · exact Or.inl ⟨0, (Option.some.inj hv).symm⟩
    · cases hv
/-- the code of a method, as the tables have it -/
def q_code (M : q_M) (s : State) (mk : MethodId) : Prop := ∃ (methk : Method) (ck : Code), s.vm.method? mk = some methk ∧ methk.code = some ck ∧ ck.code = q_cc M ∧ ck.maxLocals = q_nL M ∧ methk.sig.returnType = q_rt M ∧ methk.locks = false ∧ ck.exceptionTable.toList.map (fun x => (x.startPc, x.endPc, x.handlerPc, x.catchType)) = q_hs M ∧ parseMethodDescriptor (q_nm M).desc = some methk.sig
theorem q_code_of {M : q_M} {s : State} {mk : MethodId} {a : Array Value} (hn : s.methodNamed? (q_nm M) = some mk) (hh : q_hs M = []) (h : (Cond.code (q_nm M) (q_cc M) (q_nL M) (q_rt M)).before a s = true) : q_code M s mk := by
  obtain ⟨methk, ck, h1, h2, h3, h4, h5, h6, h7, h8⟩ := Cond.code_spec hn h
  refine ⟨methk, ck, h1, h2, h3, h4, h5, h6, ?_, h8⟩
  rw [hh]
  have : ck.exceptionTable = #[] := by simpa using h7
  rw [this]
  rfl
/-- the class that a catch type of the law's pool names -/
def q_ct (t : Nat) : Option Nat := if t = 13 then some 0 else if t = 15 then some 1 else none
/-- the handler of a throw of the kind x at pc -/
def q_hfl (pc x : Nat) : List (Nat × Nat × Nat × Nat) → Option Nat
  | [] => none
  | r :: rs => if r.1 ≤ pc ∧ pc < r.2.1 then (if q_ct r.2.2.2 = some x then some r.2.2.1 else q_hfl pc x rs) else q_hfl pc x rs
def q_hf (M : q_M) (pc x : Nat) : Option Nat := q_hfl pc x (q_hs M)
/-- where a throw of the kind x at pc goes in the method M -/
def q_Th (Sc : q_S) (M : q_M) (pc : Nat) (L : List Value) (h : q_H) (n kc ks : Nat) (Q : q_O → q_H → Nat → Prop) (x : Nat) : Prop :=
  match q_hf M pc x with
  | none => (∀ r ∈ q_hs M, ¬ (r.1 ≤ pc ∧ pc < r.2.1)) ∧ Q (.inr x) h n
  | some hpc => (∀ r ∈ q_hs M, (q_ct r.2.2.2).isSome = true) ∧ q_own M = "GroupFiltersLaw" ∧ q_A Sc M hpc L [.float 0] h n kc ks Q
abbrev q_row (x : ExceptionTableEntry) : Nat × Nat × Nat × Nat := (x.startPc, x.endPc, x.handlerPc, x.catchType)
/-- one row of a table, its class cold or warm: taken or passed -/
theorem q_go_row {e : Env} {d : Bool} {acts : List Action} {S : State} {f : JFrame} {a : Addr} {Q : Handler → Pre} {E : CtlPost} {x : ExceptionTableEntry} {t : List ExceptionTableEntry} {c : ClassId} {cell : Cell} (hx : covers x f.pc = true) (h0 : x.catchType ≠ 0)
    (hl : S.vm.ClassLinks e.platform f.method.cls x.catchType c) (hcell : S.heap[a]? = some cell) (hobj : ∀ k, cell.vm ≠ .statics k) (hk : ∃ k, S.vm.classes[cell.cls]? = some k) (hc : ∃ k, S.vm.classes[c]? = some k) :
    wp (findHandler.go f a (x :: t)) Q E e d acts S ↔ (if S.vm.assignable cell.cls c = true then Q (.found x.handlerPc) d acts (S.setVm (S.vm.noted f.method.cls x.catchType (.cls c))) else wp (findHandler.go f a t) Q E e d acts (S.setVm (S.vm.noted f.method.cls x.catchType (.cls c)))) := by
  simp only [covers] at hx
  obtain ⟨ha, ht⟩ := (resolveClass_links e.toSetting hl).op (op := VmOp.resolveClass f.method.cls x.catchType) rfl
  have hal : S.vm.Alike (S.vm.noted f.method.cls x.catchType (.cls c)) := (Vm.Alike.refl S.vm).noted _ _ _
  obtain ⟨k1, hk1⟩ := hk
  obtain ⟨k2, hk2⟩ := hc
  obtain ⟨k1', hk1', -⟩ := hal.2.2 _ _ hk1
  obtain ⟨k2', hk2', -⟩ := hal.2.2 _ _ hk2
  have hfe := hal.assignable cell.cls c
  cases hfit : S.vm.assignable cell.cls c <;> rw [hfit] at hfe <;>
    simp [findHandler.go, hx, h0, ha, ht, hcell, hobj, hk1', hk2', hfe, VmOp.dirties, VmOp.acts]
/-- the whole search, rows with cold or warm classes -/
theorem q_go {e : Env} {s : State} {f : JFrame} {a : Addr} {cell : Cell} (hobj : ∀ k, cell.vm ≠ .statics k) {k0 : Class} (hk0 : s.vm.classes[cell.cls]? = some k0) {x : Nat}
    (hcs : ∀ t y, q_ct t = some y → ∃ c, s.vm.ClassLinks e.platform f.method.cls t c ∧ s.vm.assignable cell.cls c = decide (y = x)) :
    ∀ (es : List ExceptionTableEntry) (S : State), s.WarmedH S.vm → S.heap[a]? = some cell → (∀ z ∈ es, (q_ct z.catchType).isSome = true) →
      ∃ vm', s.WarmedH vm' ∧ ∀ (Q : Handler → Pre) (E : CtlPost) (d : Bool) (acts : List Action), wp (findHandler.go f a es) Q E e d acts S ↔ Q (match q_hfl f.pc x (es.map q_row) with | none => .none | some hp => .found hp) d acts (S.setVm vm') := by
  intro es
  induction es with
  | nil =>
    intro S hW hcell _
    exact ⟨S.vm, hW, fun Q E d acts => by rw [W.findHandler_go_nil]; rfl⟩
  | cons z zs ih =>
    intro S hW hcell hall
    have hrest : ∀ y ∈ zs, (q_ct y.catchType).isSome = true := fun y hy => hall y (List.mem_cons_of_mem _ hy)
    by_cases hcov : covers z f.pc = true
    · have hcov2 : z.startPc ≤ f.pc ∧ f.pc < z.endPc := by simpa [covers] using hcov
      obtain ⟨y, hy⟩ := Option.isSome_iff_exists.mp (hall z List.mem_cons_self)
      have h0 : z.catchType ≠ 0 := fun q => by rw [q] at hy; simp [q_ct] at hy
      obtain ⟨c, hl, hfit⟩ := hcs _ _ hy
      obtain ⟨dk, _, _, kt, hd, _, _, _, _, hkt, _, hopen⟩ := hl.here
      obtain ⟨kt', hkt', -⟩ := hW.alike.2.2 _ _ hkt
      obtain ⟨k0', hk0', -⟩ := hW.alike.2.2 _ _ hk0
      have hW2 : s.WarmedH (S.vm.noted f.method.cls z.catchType (.cls c)) := hW.noted hd hopen (State.rightAt_cls hl)
      have hfit2 : S.vm.assignable cell.cls c = decide (y = x) := by rw [hW.alike.assignable]; exact hfit
      by_cases hyx : y = x
      · refine ⟨_, hW2, fun Q E d acts => ?_⟩
        rw [q_go_row hcov h0 (hW.classLinks hl) hcell hobj ⟨k0', hk0'⟩ ⟨kt', hkt'⟩, hfit2, decide_eq_true hyx, if_pos rfl]
        have he : q_hfl f.pc x ((z :: zs).map q_row) = some z.handlerPc := by
          rw [List.map_cons, q_hfl, if_pos hcov2, if_pos (by rw [hy, hyx])]
        rw [he]
      · obtain ⟨vm', hW', hq⟩ := ih (S.setVm (S.vm.noted f.method.cls z.catchType (.cls c))) hW2 hcell hrest
        refine ⟨vm', hW', fun Q E d acts => ?_⟩
        rw [q_go_row hcov h0 (hW.classLinks hl) hcell hobj ⟨k0', hk0'⟩ ⟨kt', hkt'⟩, hfit2, decide_eq_false hyx, if_neg (by decide), hq]
        have he : q_hfl f.pc x ((z :: zs).map q_row) = q_hfl f.pc x (zs.map q_row) := by
          rw [List.map_cons, q_hfl, if_pos hcov2, if_neg (by rw [hy]; exact fun q => hyx (Option.some.inj q))]
        rw [he]
        exact Iff.rfl
    · obtain ⟨vm', hW', hq⟩ := ih S hW hcell hrest
      refine ⟨vm', hW', fun Q E d acts => ?_⟩
      rw [W.findHandler_go_skip (by simpa using hcov), hq]
      have he : q_hfl f.pc x ((z :: zs).map q_row) = q_hfl f.pc x (zs.map q_row) := by
        rw [List.map_cons, q_hfl, if_neg (by simpa [covers] using hcov)]
      rw [he]
