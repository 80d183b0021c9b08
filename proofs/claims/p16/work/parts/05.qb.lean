/-! ===== THE ENGINE, second: the words, the world, the judgement ===== -/
def q_okw (w : Cond) : Bool := match w with
  | .fieldLinkNest .. => true
  | .methodLinkNest .. => true
  | .castable .. => true
  | .declares .. => true
  | .arrayOver (.object _) => true
  | w => goodWord w
def q_in (w : Cond) : Prop := w ∈ lw_tbl ∧ q_okw w = true
theorem q_in_at {w : Cond} (i : Nat) (h : lw_tbl[i]? = some w) (h2 : q_okw w = true) : q_in w := ⟨List.mem_of_getElem? h, h2⟩
def q_T (s : State) : Prop := ∀ w, q_in w → va_Nw w s
theorem q_okw_moved {w : Cond} (h : q_okw w = true) {s U : State} (hW : s.WarmedH U.vm) (hn : va_Nw w s) : va_Nw w U := by
  by_cases hg : goodWord w = true
  · exact word_at hW (good_of_word hg) hn
  · unfold q_okw at h
    split at h
    · exact va_Nw.warmF hW hn
    · exact va_Nw.warmM hW hn
    · exact va_Nw.warmC hW hn
    · exact va_Nw.warmD hW hn
    · exact va_AO.moved hW.alike hn
    · exact absurd h hg
theorem q_T.moved {s U : State} (hW : s.WarmedH U.vm) (h : q_T s) : q_T U := fun w hw => q_okw_moved hw.2 hW (h w hw)
theorem q_use {w : Cond} (hw : q_okw w = true) {args : Array Value} {s : State} (h : va_Nw w s) : w.before args s = true := by
  by_cases hg : goodWord w = true
  · exact word_at (State.WarmedH.refl s) (good_of_word hg) h
  · unfold q_okw at hw
    split at hw
    · exact va_Nw.use rfl h
    · exact va_Nw.use rfl h
    · exact va_Nw.use rfl h
    · exact va_Nw.use rfl h
    · exact h
    · exact absurd hw hg
theorem q_T.at {s : State} (h : q_T s) {w : Cond} (hw : q_in w) (args : Array Value) : w.before args s = true := q_use hw.2 (h w hw)
def q_ty : List FieldType := [.int, .boolean, .object "GroupFilters$Link", .object "GroupFilters$Filter", .object "GroupFilters$Member", .long]
def q_ex : List String := ["java/lang/IndexOutOfBoundsException", "java/lang/IllegalArgumentException"]
abbrev q_tx0 : String := "there is no such link, group, source, member or query"
abbrev q_tx1 : String := "a number is none that is told"
def q_X (H0 : Heap) (l : Launch) (s : State) : Prop := l.stackTraces = false ∧ vx_Zq Bundle.tN "UNASSIGNED_STACK" Bundle.steD (fun q => H0.size ≤ q) s H0 ∧ vx_Zq Bundle.tN "SUPPRESSED_SENTINEL" Bundle.listD (fun q => H0.size ≤ q) s H0 ∧
  (∃ sa, vk_R "GroupFilters" 147 q_tx0 sa s) ∧ (∃ sa, vk_R "GroupFilters" 154 q_tx1 sa s) ∧ va_Nc "java/lang/IllegalArgumentException" "java/lang/IndexOutOfBoundsException" s ∧ va_Nc "java/lang/IndexOutOfBoundsException" "java/lang/IllegalArgumentException" s
theorem q_Nc_moved {C T : String} {u U : State} (hvm : u.vm.Alike U.vm) (h : va_Nc C T u) : va_Nc C T U := by
  obtain ⟨c, t, h1, h2, h3⟩ := h
  exact ⟨c, t, by rw [hvm.findClass]; exact h1, by rw [hvm.findClass]; exact h2, by rw [hvm.assignable]; exact h3⟩
theorem q_X.moved {H0 : Heap} {l : Launch} {s U : State} (hW : s.WarmedH U.vm) (h : q_X H0 l s) : q_X H0 l U := by
  obtain ⟨h1, h2, h3, ⟨a, h4⟩, ⟨b, h5⟩, h6, h7⟩ := h
  exact ⟨h1, vx_Zq.moved hW.alike h2, vx_Zq.moved hW.alike h3, ⟨a, vk_R.warm hW h4⟩, ⟨b, vk_R.warm hW h5⟩, q_Nc_moved hW.alike h6, q_Nc_moved hW.alike h7⟩
abbrev q_tys (dT : Nat → ClassId) : List (ClassId × FieldType) := (List.range q_ty.length).map (fun t => (dT t, q_ty.getD t .int))
theorem q_tys_at {dT : Nat → ClassId} {t : Nat} {ty : FieldType} (h : q_ty[t]? = some ty) : (q_tys dT)[t]? = some (dT t, ty) := by
  have hl := (List.getElem?_eq_some_iff.mp h).1
  rw [List.getElem?_map, List.getElem?_range hl]
  simp [List.getD_eq_getElem?_getD, h]
/-- what may be touched: cells of this run -/
def q_Z (H0 : Heap) (s : State) : Nat → Prop := fun q => H0.size ≤ q
def q_W (D : va_G) (dT : Nat → ClassId) (H0 : Heap) (s : State) (h : q_H) (n sb : Nat) (ws : va_W) (H : Heap) (locs : List Loc) : Prop :=
  ws.length = n ∧ (∀ i, i < n → ∃ a e, ws[i]? = some (a, e) ∧ q_E dT (q_ads sb ws) (h i) e) ∧ va_P D vwCl ws H ∧ va_D (q_Z H0 s) ws ∧ va_S (q_Z H0 s) s.heap H locs
def q_F (Sc : q_S) (M : q_M) (D : va_G) (dT : Nat → ClassId) (H0 : Heap) (sb : Nat) (p : Program) (l : Launch) (R : Room) (s : State) (m : MethodId) (meth : Method) (c : Code) : Prop :=
  p.tables.exec = Jvm.exec ∧ c.code = q_cc M ∧ c.maxLocals = q_nL M ∧ meth.sig.returnType = q_rt M ∧ meth.locks = false ∧ s.vm.findClass (q_own M) = some m.cls ∧ q_T s ∧ va_K D vwCl (q_tys dT) s ∧ q_fr M ≤ R.frames ∧ q_lo M ≤ R.locals ∧
  c.exceptionTable.toList.map (fun x => (x.startPc, x.endPc, x.handlerPc, x.catchType)) = q_hs M ∧ meth.name = (q_nm M).name ∧ H0.size ≤ s.heap.size ∧ (∀ q : Nat, q < H0.size → s.heap[q]? = H0[q]?) ∧ q_X H0 l s ∧ sb < H0.size ∧ va_X sb Sc.1 Sc.2 s H0
def q_R (ads : List Nat) (O : q_O) (o : Outcome) (t : State) : Prop := match O with
  | .inl none => o = .returned none
  | .inl (some v) => ∃ w, o = .returned (some w) ∧ q_v ads v w
  | .inr k => ∃ (x : Addr) (cell : Cell) (X : String), q_ex[k]? = some X ∧ o = .threw x ∧ t.heap[x]? = some cell ∧ t.vm.findClass X = some cell.cls ∧ cell.vm = .none
def q_End (D : va_G) (dT : Nat → ClassId) (H0 : Heap) (s : State) (below : List Frame) (sb : Nat) (ads0 : List Nat) (kc ks : Nat) (Q : q_O → q_H → Nat → Prop) : State → Prop := fun t =>
  ∃ (o : Outcome) (L : List Loc) (h : q_H) (n : Nat) (ws : va_W) (O : q_O), t.status = .running ∧ Ended t below o ∧ s.WarmedH t.vm ∧ s.sameButNew ({ t with vm := s.vm } : State) L kc ks ∧ Q O h n ∧ q_W D dT H0 s h n sb ws t.heap L ∧ q_le ads0 (q_ads sb ws) ∧ q_R (q_ads sb ws) O o t
def q_G (Sc : q_S) (M : q_M) (L st : List Value) (h : q_H) (n kc ks : Nat) (D : va_G) (dT : Nat → ClassId) (H0 : Heap) (p : Program) (l : Launch) (R : Room) (s : State) (m : MethodId) (meth : Method) (c : Code) (H : Heap) (locs : List Loc) (cells slots : Nat) (ls : Array Slot) (st' : List Value) (sb : Nat) (ws : va_W) (ads0 : List Nat) (kc' ks' : Nat) : Prop :=
  q_F Sc M D dT H0 sb p l R s m meth c ∧ q_W D dT H0 s h n sb ws H locs ∧ q_L (q_ads sb ws) (q_nL M) L ls ∧ q_vs (q_ads sb ws) st st' ∧ q_le ads0 (q_ads sb ws) ∧ cells + kc ≤ kc' ∧ slots + ks ≤ ks' ∧ kc' ≤ R.cells ∧ ks' ≤ R.slots
def q_A (Sc : q_S) (M : q_M) (pc : Nat) (L st : List Value) (h : q_H) (n kc ks : Nat) (Q : q_O → q_H → Nat → Prop) : Prop :=
  ∀ (D : va_G) (dT : Nat → ClassId) (H0 : Heap) (p : Program) (l : Launch) (e : Env) (R : Room) (s : State) (m : MethodId) (args : Array Value) (below : List Frame) (meth : Method) (c : Code) (H : Heap) (locs : List Loc) (cells slots : Nat) (ls : Array Slot) (st' : List Value) (sb : Nat) (ws : va_W) (ads0 : List Nat) (kc' ks' : Nat),
    q_G Sc M L st h n kc ks D dT H0 p l R s m meth c H locs cells slots ls st' sb ws ads0 kc' ks' →
    W p l e R s m args below meth c H locs cells slots (q_End D dT H0 s below sb ads0 kc' ks' Q) (F0 m pc ls st')
theorem q_mono {Sc : q_S} {M : q_M} {pc : Nat} {L st : List Value} {h : q_H} {n kc ks : Nat} {Q Q' : q_O → q_H → Nat → Prop} (hq : ∀ O h n, Q O h n → Q' O h n) (k : q_A Sc M pc L st h n kc ks Q) : q_A Sc M pc L st h n kc ks Q' := by
  intro D dT H0 p l e R s m args below meth c H locs cells slots ls st' sb ws ads0 kc' ks' g T hT X
  obtain ⟨t, a, o, L', h', n', ws', O, b1, b2, b3, b4, b5, b6⟩ := k D dT H0 p l e R s m args below meth c H locs cells slots ls st' sb ws ads0 kc' ks' g T hT X
  exact ⟨t, a, o, L', h', n', ws', O, b1, b2, b3, b4, hq _ _ _ b5, b6⟩
theorem q_less {Sc : q_S} {M : q_M} {pc : Nat} {L st : List Value} {h : q_H} {n kc ks kc1 ks1 : Nat} {Q : q_O → q_H → Nat → Prop} (h1 : kc1 ≤ kc) (h2 : ks1 ≤ ks) (k : q_A Sc M pc L st h n kc1 ks1 Q) : q_A Sc M pc L st h n kc ks Q := by
  intro D dT H0 p l e R s m args below meth c H locs cells slots ls st' sb ws ads0 kc' ks' g
  obtain ⟨g1, g2, g3, g4, g5, g6, g7, g8, g9⟩ := g
  exact k D dT H0 p l e R s m args below meth c H locs cells slots ls st' sb ws ads0 kc' ks' ⟨g1, g2, g3, g4, g5, by omega, by omega, g8, g9⟩
section QR
variable {Sc : q_S} {M : q_M} {pc : Nat} {L st : List Value} {h : q_H} {n kc ks : Nat} {Q : q_O → q_H → Nat → Prop}

theorem q_iadd {x y : Int32} (hd : decode (q_cc M) pc = .ok (.iadd, 1)) (k : q_A Sc M (pc + 1) L (.int (x + y) :: st) h n kc ks Q) : q_A Sc M pc L (.int y :: .int x :: st) h n kc ks Q := by
  intro D dT H0 p l e R s m args below meth c H locs cells slots ls st' sb ws ads0 kc' ks' g
  obtain ⟨hF, hW, hL, ⟨_, _, rfl, rfl, _, _, rfl, rfl, hS⟩, hr⟩ := g
  exact lv_iadd hF.1 hF.2.1 hd (k D dT H0 p l e R s m args below meth c H locs cells slots ls _ sb ws ads0 kc' ks' ⟨hF, hW, hL, ⟨_, _, rfl, rfl, hS⟩, hr⟩)
theorem q_isub {x y : Int32} (hd : decode (q_cc M) pc = .ok (.isub, 1)) (k : q_A Sc M (pc + 1) L (.int (x - y) :: st) h n kc ks Q) : q_A Sc M pc L (.int y :: .int x :: st) h n kc ks Q := by
  intro D dT H0 p l e R s m args below meth c H locs cells slots ls st' sb ws ads0 kc' ks' g
  obtain ⟨hF, hW, hL, ⟨_, _, rfl, rfl, _, _, rfl, rfl, hS⟩, hr⟩ := g
  exact lv_isub hF.1 hF.2.1 hd (k D dT H0 p l e R s m args below meth c H locs cells slots ls _ sb ws ads0 kc' ks' ⟨hF, hW, hL, ⟨_, _, rfl, rfl, hS⟩, hr⟩)
theorem q_imul {x y : Int32} (hd : decode (q_cc M) pc = .ok (.imul, 1)) (k : q_A Sc M (pc + 1) L (.int (x * y) :: st) h n kc ks Q) : q_A Sc M pc L (.int y :: .int x :: st) h n kc ks Q := by
  intro D dT H0 p l e R s m args below meth c H locs cells slots ls st' sb ws ads0 kc' ks' g
  obtain ⟨hF, hW, hL, ⟨_, _, rfl, rfl, _, _, rfl, rfl, hS⟩, hr⟩ := g
  exact lv_imul hF.1 hF.2.1 hd (k D dT H0 p l e R s m args below meth c H locs cells slots ls _ sb ws ads0 kc' ks' ⟨hF, hW, hL, ⟨_, _, rfl, rfl, hS⟩, hr⟩)
theorem q_iand {x y : Int32} (hd : decode (q_cc M) pc = .ok (.iand, 1)) (k : q_A Sc M (pc + 1) L (.int (x &&& y) :: st) h n kc ks Q) : q_A Sc M pc L (.int y :: .int x :: st) h n kc ks Q := by
  intro D dT H0 p l e R s m args below meth c H locs cells slots ls st' sb ws ads0 kc' ks' g
  obtain ⟨hF, hW, hL, ⟨_, _, rfl, rfl, _, _, rfl, rfl, hS⟩, hr⟩ := g
  exact lv_iand hF.1 hF.2.1 hd (k D dT H0 p l e R s m args below meth c H locs cells slots ls _ sb ws ads0 kc' ks' ⟨hF, hW, hL, ⟨_, _, rfl, rfl, hS⟩, hr⟩)
theorem q_ior {x y : Int32} (hd : decode (q_cc M) pc = .ok (.ior, 1)) (k : q_A Sc M (pc + 1) L (.int (x ||| y) :: st) h n kc ks Q) : q_A Sc M pc L (.int y :: .int x :: st) h n kc ks Q := by
  intro D dT H0 p l e R s m args below meth c H locs cells slots ls st' sb ws ads0 kc' ks' g
  obtain ⟨hF, hW, hL, ⟨_, _, rfl, rfl, _, _, rfl, rfl, hS⟩, hr⟩ := g
  exact lv_ior hF.1 hF.2.1 hd (k D dT H0 p l e R s m args below meth c H locs cells slots ls _ sb ws ads0 kc' ks' ⟨hF, hW, hL, ⟨_, _, rfl, rfl, hS⟩, hr⟩)
theorem q_ixor {x y : Int32} (hd : decode (q_cc M) pc = .ok (.ixor, 1)) (k : q_A Sc M (pc + 1) L (.int (x ^^^ y) :: st) h n kc ks Q) : q_A Sc M pc L (.int y :: .int x :: st) h n kc ks Q := by
  intro D dT H0 p l e R s m args below meth c H locs cells slots ls st' sb ws ads0 kc' ks' g
  obtain ⟨hF, hW, hL, ⟨_, _, rfl, rfl, _, _, rfl, rfl, hS⟩, hr⟩ := g
  exact lv_ixor hF.1 hF.2.1 hd (k D dT H0 p l e R s m args below meth c H locs cells slots ls _ sb ws ads0 kc' ks' ⟨hF, hW, hL, ⟨_, _, rfl, rfl, hS⟩, hr⟩)
theorem q_ishl {x y : Int32} (hd : decode (q_cc M) pc = .ok (.ishl, 1)) (k : q_A Sc M (pc + 1) L (.int (x <<< (y &&& 31)) :: st) h n kc ks Q) : q_A Sc M pc L (.int y :: .int x :: st) h n kc ks Q := by
  intro D dT H0 p l e R s m args below meth c H locs cells slots ls st' sb ws ads0 kc' ks' g
  obtain ⟨hF, hW, hL, ⟨_, _, rfl, rfl, _, _, rfl, rfl, hS⟩, hr⟩ := g
  exact lv_ishl hF.1 hF.2.1 hd (k D dT H0 p l e R s m args below meth c H locs cells slots ls _ sb ws ads0 kc' ks' ⟨hF, hW, hL, ⟨_, _, rfl, rfl, hS⟩, hr⟩)
theorem q_ishr {x y : Int32} (hd : decode (q_cc M) pc = .ok (.ishr, 1)) (k : q_A Sc M (pc + 1) L (.int (x >>> (y &&& 31)) :: st) h n kc ks Q) : q_A Sc M pc L (.int y :: .int x :: st) h n kc ks Q := by
  intro D dT H0 p l e R s m args below meth c H locs cells slots ls st' sb ws ads0 kc' ks' g
  obtain ⟨hF, hW, hL, ⟨_, _, rfl, rfl, _, _, rfl, rfl, hS⟩, hr⟩ := g
  exact lv_ishr hF.1 hF.2.1 hd (k D dT H0 p l e R s m args below meth c H locs cells slots ls _ sb ws ads0 kc' ks' ⟨hF, hW, hL, ⟨_, _, rfl, rfl, hS⟩, hr⟩)
theorem q_idiv {x y : Int32} (hd : decode (q_cc M) pc = .ok (.idiv, 1)) (hy : ¬ y = 0) (k : q_A Sc M (pc + 1) L (.int (x / y) :: st) h n kc ks Q) : q_A Sc M pc L (.int y :: .int x :: st) h n kc ks Q := by
  intro D dT H0 p l e R s m args below meth c H locs cells slots ls st' sb ws ads0 kc' ks' g
  obtain ⟨hF, hW, hL, ⟨_, _, rfl, rfl, _, _, rfl, rfl, hS⟩, hr⟩ := g
  exact lv_idiv hF.1 hF.2.1 hd hy (k D dT H0 p l e R s m args below meth c H locs cells slots ls _ sb ws ads0 kc' ks' ⟨hF, hW, hL, ⟨_, _, rfl, rfl, hS⟩, hr⟩)
theorem q_irem {x y : Int32} (hd : decode (q_cc M) pc = .ok (.irem, 1)) (hy : ¬ y = 0) (k : q_A Sc M (pc + 1) L (.int (x - x / y * y) :: st) h n kc ks Q) : q_A Sc M pc L (.int y :: .int x :: st) h n kc ks Q := by
  intro D dT H0 p l e R s m args below meth c H locs cells slots ls st' sb ws ads0 kc' ks' g
  obtain ⟨hF, hW, hL, ⟨_, _, rfl, rfl, _, _, rfl, rfl, hS⟩, hr⟩ := g
  exact lv_irem hF.1 hF.2.1 hd hy (k D dT H0 p l e R s m args below meth c H locs cells slots ls _ sb ws ads0 kc' ks' ⟨hF, hW, hL, ⟨_, _, rfl, rfl, hS⟩, hr⟩)
theorem q_ineg {x : Int32} (hd : decode (q_cc M) pc = .ok (.ineg, 1)) (k : q_A Sc M (pc + 1) L (.int (-x) :: st) h n kc ks Q) : q_A Sc M pc L (.int x :: st) h n kc ks Q := by
  intro D dT H0 p l e R s m args below meth c H locs cells slots ls st' sb ws ads0 kc' ks' g
  obtain ⟨hF, hW, hL, ⟨_, _, rfl, rfl, hS⟩, hr⟩ := g
  exact lv_ineg hF.1 hF.2.1 hd (k D dT H0 p l e R s m args below meth c H locs cells slots ls _ sb ws ads0 kc' ks' ⟨hF, hW, hL, ⟨_, _, rfl, rfl, hS⟩, hr⟩)
theorem q_iconst {z : Int} {v : Int32} (hd : decode (q_cc M) pc = .ok (.iconst z, 1)) (hv : Int32.ofInt z = v) (k : q_A Sc M (pc + 1) L (.int v :: st) h n kc ks Q) : q_A Sc M pc L (st) h n kc ks Q := by
  intro D dT H0 p l e R s m args below meth c H locs cells slots ls st' sb ws ads0 kc' ks' g
  obtain ⟨hF, hW, hL, hS, hr⟩ := g
  exact lv_iconst hF.1 hF.2.1 hd hv (k D dT H0 p l e R s m args below meth c H locs cells slots ls _ sb ws ads0 kc' ks' ⟨hF, hW, hL, ⟨_, _, rfl, rfl, hS⟩, hr⟩)
theorem q_bipush {z : Int} {v : Int32} (hd : decode (q_cc M) pc = .ok (.bipush z, 2)) (hv : (Int8.ofInt z).toInt32 = v) (k : q_A Sc M (pc + 2) L (.int v :: st) h n kc ks Q) : q_A Sc M pc L (st) h n kc ks Q := by
  intro D dT H0 p l e R s m args below meth c H locs cells slots ls st' sb ws ads0 kc' ks' g
  obtain ⟨hF, hW, hL, hS, hr⟩ := g
  exact lv_bipush hF.1 hF.2.1 hd hv (k D dT H0 p l e R s m args below meth c H locs cells slots ls _ sb ws ads0 kc' ks' ⟨hF, hW, hL, ⟨_, _, rfl, rfl, hS⟩, hr⟩)
theorem q_sipush {z : Int} {v : Int32} (hd : decode (q_cc M) pc = .ok (.sipush z, 3)) (hv : (Int16.ofInt z).toInt32 = v) (k : q_A Sc M (pc + 3) L (.int v :: st) h n kc ks Q) : q_A Sc M pc L (st) h n kc ks Q := by
  intro D dT H0 p l e R s m args below meth c H locs cells slots ls st' sb ws ads0 kc' ks' g
  obtain ⟨hF, hW, hL, hS, hr⟩ := g
  exact lv_sipush hF.1 hF.2.1 hd hv (k D dT H0 p l e R s m args below meth c H locs cells slots ls _ sb ws ads0 kc' ks' ⟨hF, hW, hL, ⟨_, _, rfl, rfl, hS⟩, hr⟩)
theorem q_ldc {ix : Nat} {v : Int32} (hd : decode (q_cc M) pc = .ok (.ldc ix, 2)) (hw : q_in (Cond.constant (q_own M) ix v)) (k : q_A Sc M (pc + 2) L (.int v :: st) h n kc ks Q) : q_A Sc M pc L (st) h n kc ks Q := by
  intro D dT H0 p l e R s m args below meth c H locs cells slots ls st' sb ws ads0 kc' ks' g
  obtain ⟨hF, hW, hL, hS, hr⟩ := g
  exact lv_ldc hF.1 hF.2.1 hF.2.2.2.2.2.1 (hF.2.2.2.2.2.2.1.at hw args) hd (k D dT H0 p l e R s m args below meth c H locs cells slots ls _ sb ws ads0 kc' ks' ⟨hF, hW, hL, ⟨_, _, rfl, rfl, hS⟩, hr⟩)
theorem q_iload_n {j : Fin 4} {x : Int32} (hd : decode (q_cc M) pc = .ok (.iload_n j, 1)) (hl : L[(j : Nat)]? = some (.int x)) (k : q_A Sc M (pc + 1) L (.int x :: st) h n kc ks Q) : q_A Sc M pc L (st) h n kc ks Q := by
  intro D dT H0 p l e R s m args below meth c H locs cells slots ls st' sb ws ads0 kc' ks' g
  obtain ⟨hF, hW, hL, hS, hr⟩ := g
  exact lv_iload_n hF.1 hF.2.1 hd rfl (hL.int hl) (k D dT H0 p l e R s m args below meth c H locs cells slots ls _ sb ws ads0 kc' ks' ⟨hF, hW, hL, ⟨_, _, rfl, rfl, hS⟩, hr⟩)
theorem q_iload {j : Nat} {x : Int32} (hd : decode (q_cc M) pc = .ok (.iload j, 2)) (hl : L[j]? = some (.int x)) (k : q_A Sc M (pc + 2) L (.int x :: st) h n kc ks Q) : q_A Sc M pc L (st) h n kc ks Q := by
  intro D dT H0 p l e R s m args below meth c H locs cells slots ls st' sb ws ads0 kc' ks' g
  obtain ⟨hF, hW, hL, hS, hr⟩ := g
  exact lv_iload hF.1 hF.2.1 hd (hL.int hl) (k D dT H0 p l e R s m args below meth c H locs cells slots ls _ sb ws ads0 kc' ks' ⟨hF, hW, hL, ⟨_, _, rfl, rfl, hS⟩, hr⟩)
theorem q_aload_n {j : Fin 4} {i : Nat} (hd : decode (q_cc M) pc = .ok (.aload_n j, 1)) (hl : L[(j : Nat)]? = some (.ref i)) (k : q_A Sc M (pc + 1) L (.ref i :: st) h n kc ks Q) : q_A Sc M pc L st h n kc ks Q := by
  intro D dT H0 p l e R s m args below meth c H locs cells slots ls st' sb ws ads0 kc' ks' g
  obtain ⟨hF, hW, hL, hS, hr⟩ := g
  obtain ⟨a, h1, h2⟩ := hL.ref hl
  exact lv_aload_n hF.1 hF.2.1 hd rfl h2 (k D dT H0 p l e R s m args below meth c H locs cells slots ls _ sb ws ads0 kc' ks' ⟨hF, hW, hL, ⟨_, _, rfl, ⟨a, h1, rfl⟩, hS⟩, hr⟩)
theorem q_aload {j : Nat} {i : Nat} (hd : decode (q_cc M) pc = .ok (.aload j, 2)) (hl : L[j]? = some (.ref i)) (k : q_A Sc M (pc + 2) L (.ref i :: st) h n kc ks Q) : q_A Sc M pc L st h n kc ks Q := by
  intro D dT H0 p l e R s m args below meth c H locs cells slots ls st' sb ws ads0 kc' ks' g
  obtain ⟨hF, hW, hL, hS, hr⟩ := g
  obtain ⟨a, h1, h2⟩ := hL.ref hl
  exact lv_aload hF.1 hF.2.1 hd h2 (k D dT H0 p l e R s m args below meth c H locs cells slots ls _ sb ws ads0 kc' ks' ⟨hF, hW, hL, ⟨_, _, rfl, ⟨a, h1, rfl⟩, hS⟩, hr⟩)
theorem q_istore_n {j : Fin 4} {x : Int32} (hd : decode (q_cc M) pc = .ok (.istore_n j, 1)) (hn : (j : Nat) < q_nL M) (k : q_A Sc M (pc + 1) (L.set (j : Nat) (.int x)) st h n kc ks Q) : q_A Sc M pc L (.int x :: st) h n kc ks Q := by
  intro D dT H0 p l e R s m args below meth c H locs cells slots ls st' sb ws ads0 kc' ks' g
  obtain ⟨hF, hW, hL, ⟨_, _, rfl, rfl, hS⟩, hr⟩ := g
  exact lv_istore_n hF.1 hF.2.1 hd rfl (q_all_has hL.1 hL.2.1) hn rfl (fun ls' h' => k D dT H0 p l e R s m args below meth c H locs cells slots ls' _ sb ws ads0 kc' ks' ⟨hF, hW, hL.put (v := .int _) rfl rfl h', hS, hr⟩)
theorem q_istore {j : Nat} {x : Int32} (hd : decode (q_cc M) pc = .ok (.istore j, 2)) (hn : j < q_nL M) (k : q_A Sc M (pc + 2) (L.set j (.int x)) st h n kc ks Q) : q_A Sc M pc L (.int x :: st) h n kc ks Q := by
  intro D dT H0 p l e R s m args below meth c H locs cells slots ls st' sb ws ads0 kc' ks' g
  obtain ⟨hF, hW, hL, ⟨_, _, rfl, rfl, hS⟩, hr⟩ := g
  exact lv_istore hF.1 hF.2.1 hd (q_all_has hL.1 hL.2.1) hn rfl (fun ls' h' => k D dT H0 p l e R s m args below meth c H locs cells slots ls' _ sb ws ads0 kc' ks' ⟨hF, hW, hL.put (v := .int _) rfl rfl h', hS, hr⟩)
theorem q_astore_n {j : Fin 4} {i : Nat} (hd : decode (q_cc M) pc = .ok (.astore_n j, 1)) (hn : (j : Nat) < q_nL M) (k : q_A Sc M (pc + 1) (L.set (j : Nat) (.ref i)) st h n kc ks Q) : q_A Sc M pc L (.ref i :: st) h n kc ks Q := by
  intro D dT H0 p l e R s m args below meth c H locs cells slots ls st' sb ws ads0 kc' ks' g
  obtain ⟨hF, hW, hL, ⟨_, _, rfl, ⟨a, h1, rfl⟩, hS⟩, hr⟩ := g
  exact lv_astore_n hF.1 hF.2.1 hd rfl (q_all_has hL.1 hL.2.1) hn rfl (fun ls' h' => k D dT H0 p l e R s m args below meth c H locs cells slots ls' _ sb ws ads0 kc' ks' ⟨hF, hW, hL.put (v := .ref i) ⟨a, h1, rfl⟩ rfl h', hS, hr⟩)
theorem q_astore_n_x {j : Fin 4} {b : UInt32} (hd : decode (q_cc M) pc = .ok (.astore_n j, 1)) (hn : (j : Nat) < q_nL M) (k : q_A Sc M (pc + 1) (L.set (j : Nat) (.float b)) st h n kc ks Q) : q_A Sc M pc L (.float b :: st) h n kc ks Q := by
  intro D dT H0 p l e R s m args below meth c H locs cells slots ls st' sb ws ads0 kc' ks' g
  obtain ⟨hF, hW, hL, ⟨_, _, rfl, ⟨a, rfl, hx9⟩, hS⟩, hr⟩ := g
  exact lv_astore_n hF.1 hF.2.1 hd rfl (q_all_has hL.1 hL.2.1) hn rfl (fun ls' h' => k D dT H0 p l e R s m args below meth c H locs cells slots ls' _ sb ws ads0 kc' ks' ⟨hF, hW, hL.put (v := .float b) ⟨a, rfl, hx9⟩ rfl h', hS, hr⟩)
theorem q_astore {j : Nat} {i : Nat} (hd : decode (q_cc M) pc = .ok (.astore j, 2)) (hn : j < q_nL M) (k : q_A Sc M (pc + 2) (L.set j (.ref i)) st h n kc ks Q) : q_A Sc M pc L (.ref i :: st) h n kc ks Q := by
  intro D dT H0 p l e R s m args below meth c H locs cells slots ls st' sb ws ads0 kc' ks' g
  obtain ⟨hF, hW, hL, ⟨_, _, rfl, ⟨a, h1, rfl⟩, hS⟩, hr⟩ := g
  exact lv_astore hF.1 hF.2.1 hd (q_all_has hL.1 hL.2.1) hn rfl (fun ls' h' => k D dT H0 p l e R s m args below meth c H locs cells slots ls' _ sb ws ads0 kc' ks' ⟨hF, hW, hL.put (v := .ref i) ⟨a, h1, rfl⟩ rfl h', hS, hr⟩)
theorem q_astore_x {j : Nat} {b : UInt32} (hd : decode (q_cc M) pc = .ok (.astore j, 2)) (hn : j < q_nL M) (k : q_A Sc M (pc + 2) (L.set j (.float b)) st h n kc ks Q) : q_A Sc M pc L (.float b :: st) h n kc ks Q := by
  intro D dT H0 p l e R s m args below meth c H locs cells slots ls st' sb ws ads0 kc' ks' g
  obtain ⟨hF, hW, hL, ⟨_, _, rfl, ⟨a, rfl, hx9⟩, hS⟩, hr⟩ := g
  exact lv_astore hF.1 hF.2.1 hd (q_all_has hL.1 hL.2.1) hn rfl (fun ls' h' => k D dT H0 p l e R s m args below meth c H locs cells slots ls' _ sb ws ads0 kc' ks' ⟨hF, hW, hL.put (v := .float b) ⟨a, rfl, hx9⟩ rfl h', hS, hr⟩)
theorem q_iinc {j : Nat} {z : Int} {x : Int32} (hd : decode (q_cc M) pc = .ok (.iinc j z, 3)) (hl : L[j]? = some (.int x)) (hn : j < q_nL M) (k : q_A Sc M (pc + 3) (L.set j (.int (x + Int32.ofInt z))) st h n kc ks Q) : q_A Sc M pc L st h n kc ks Q := by
  intro D dT H0 p l e R s m args below meth c H locs cells slots ls st' sb ws ads0 kc' ks' g
  obtain ⟨hF, hW, hL, hS, hr⟩ := g
  obtain ⟨kk, hk⟩ := List.getElem?_of_mem (q_all_mem (hL.int hl))
  exact lv_iinc hF.1 hF.2.1 hd (q_all_has hL.1 hL.2.1) hk rfl hn rfl (fun ls' h' => k D dT H0 p l e R s m args below meth c H locs cells slots ls' _ sb ws ads0 kc' ks' ⟨hF, hW, hL.put (v := .int _) rfl rfl h', hS, hr⟩)
theorem q_dup {v : Value} (hd : decode (q_cc M) pc = .ok (.dup, 1)) (hv : v.category = 1) (k : q_A Sc M (pc + 1) L (v :: v :: st) h n kc ks Q) : q_A Sc M pc L (v :: st) h n kc ks Q := by
  intro D dT H0 p l e R s m args below meth c H locs cells slots ls st' sb ws ads0 kc' ks' g
  obtain ⟨hF, hW, hL, ⟨u, _, rfl, hu, hS⟩, hr⟩ := g
  exact lv_dup hF.1 hF.2.1 hd (hu.cat.trans hv) (k D dT H0 p l e R s m args below meth c H locs cells slots ls _ sb ws ads0 kc' ks' ⟨hF, hW, hL, ⟨_, _, rfl, hu, _, _, rfl, hu, hS⟩, hr⟩)
theorem q_dup2 {v v2 : Value} (hd : decode (q_cc M) pc = .ok (.dup2, 1)) (hv : v.category = 1) (hv2 : v2.category = 1) (k : q_A Sc M (pc + 1) L (v :: v2 :: v :: v2 :: st) h n kc ks Q) : q_A Sc M pc L (v :: v2 :: st) h n kc ks Q := by
  intro D dT H0 p l e R s m args below meth c H locs cells slots ls st' sb ws ads0 kc' ks' g
  obtain ⟨hF, hW, hL, ⟨u, _, rfl, hu, u2, _, rfl, hu2, hS⟩, hr⟩ := g
  exact lv_dup2_11 hF.1 hF.2.1 hd (hu.cat.trans hv) (hu2.cat.trans hv2) (k D dT H0 p l e R s m args below meth c H locs cells slots ls _ sb ws ads0 kc' ks' ⟨hF, hW, hL, ⟨_, _, rfl, hu, _, _, rfl, hu2, _, _, rfl, hu, _, _, rfl, hu2, hS⟩, hr⟩)
theorem q_dup_x1 {v v2 : Value} (hd : decode (q_cc M) pc = .ok (.dup_x1, 1)) (hv : v.category = 1) (hv2 : v2.category = 1) (k : q_A Sc M (pc + 1) L (v :: v2 :: v :: st) h n kc ks Q) : q_A Sc M pc L (v :: v2 :: st) h n kc ks Q := by
  intro D dT H0 p l e R s m args below meth c H locs cells slots ls st' sb ws ads0 kc' ks' g
  obtain ⟨hF, hW, hL, ⟨u, _, rfl, hu, u2, _, rfl, hu2, hS⟩, hr⟩ := g
  exact lv_dup_x1 hF.1 hF.2.1 hd (hu.cat.trans hv) (hu2.cat.trans hv2) (k D dT H0 p l e R s m args below meth c H locs cells slots ls _ sb ws ads0 kc' ks' ⟨hF, hW, hL, ⟨_, _, rfl, hu, _, _, rfl, hu2, _, _, rfl, hu, hS⟩, hr⟩)
theorem q_pop {v : Value} (hd : decode (q_cc M) pc = .ok (.pop, 1)) (hv : v.category = 1) (k : q_A Sc M (pc + 1) L st h n kc ks Q) : q_A Sc M pc L (v :: st) h n kc ks Q := by
  intro D dT H0 p l e R s m args below meth c H locs cells slots ls st' sb ws ads0 kc' ks' g
  obtain ⟨hF, hW, hL, ⟨u, _, rfl, hu, hS⟩, hr⟩ := g
  exact lv_pop hF.1 hF.2.1 hd (hu.cat.trans hv) (k D dT H0 p l e R s m args below meth c H locs cells slots ls _ sb ws ads0 kc' ks' ⟨hF, hW, hL, hS, hr⟩)
theorem q_goto {off : Int} {tgt : Nat} (hd : decode (q_cc M) pc = .ok (.goto off, 3)) (ht : (pc : Int) + off = (tgt : Int)) (k : q_A Sc M tgt L st h n kc ks Q) : q_A Sc M pc L st h n kc ks Q := by
  intro D dT H0 p l e R s m args below meth c H locs cells slots ls st' sb ws ads0 kc' ks' g
  exact lv_goto g.1.1 g.1.2.1 hd ht (k D dT H0 p l e R s m args below meth c H locs cells slots ls _ sb ws ads0 kc' ks' g)
theorem q_if_eq {x : Int32} {off : Int} {tgt : Nat} (hd : decode (q_cc M) pc = .ok (.ifCond .eq off, 3)) (ht : (pc : Int) + off = (tgt : Int)) (kt : x = 0 → q_A Sc M tgt L st h n kc ks Q) (kf : ¬ (x = 0) → q_A Sc M (pc + 3) L st h n kc ks Q) : q_A Sc M pc L (.int x :: st) h n kc ks Q := by
  intro D dT H0 p l e R s m args below meth c H locs cells slots ls st' sb ws ads0 kc' ks' g
  obtain ⟨hF, hW, hL, ⟨_, _, rfl, rfl, hS⟩, hr⟩ := g
  exact lv_if_eq hF.1 hF.2.1 hd ht (fun q => (kt q) D dT H0 p l e R s m args below meth c H locs cells slots ls _ sb ws ads0 kc' ks' ⟨hF, hW, hL, hS, hr⟩) (fun q => (kf q) D dT H0 p l e R s m args below meth c H locs cells slots ls _ sb ws ads0 kc' ks' ⟨hF, hW, hL, hS, hr⟩)
theorem q_icmp_eq {x y : Int32} {off : Int} {tgt : Nat} (hd : decode (q_cc M) pc = .ok (.if_icmp .eq off, 3)) (ht : (pc : Int) + off = (tgt : Int)) (kt : x = y → q_A Sc M tgt L st h n kc ks Q) (kf : ¬ (x = y) → q_A Sc M (pc + 3) L st h n kc ks Q) : q_A Sc M pc L (.int y :: .int x :: st) h n kc ks Q := by
  intro D dT H0 p l e R s m args below meth c H locs cells slots ls st' sb ws ads0 kc' ks' g
  obtain ⟨hF, hW, hL, ⟨_, _, rfl, rfl, _, _, rfl, rfl, hS⟩, hr⟩ := g
  exact lv_icmp_eq hF.1 hF.2.1 hd ht (fun q => (kt q) D dT H0 p l e R s m args below meth c H locs cells slots ls _ sb ws ads0 kc' ks' ⟨hF, hW, hL, hS, hr⟩) (fun q => (kf q) D dT H0 p l e R s m args below meth c H locs cells slots ls _ sb ws ads0 kc' ks' ⟨hF, hW, hL, hS, hr⟩)
theorem q_if_ne {x : Int32} {off : Int} {tgt : Nat} (hd : decode (q_cc M) pc = .ok (.ifCond .ne off, 3)) (ht : (pc : Int) + off = (tgt : Int)) (kt : ¬ x = 0 → q_A Sc M tgt L st h n kc ks Q) (kf : x = 0 → q_A Sc M (pc + 3) L st h n kc ks Q) : q_A Sc M pc L (.int x :: st) h n kc ks Q := by
  intro D dT H0 p l e R s m args below meth c H locs cells slots ls st' sb ws ads0 kc' ks' g
  obtain ⟨hF, hW, hL, ⟨_, _, rfl, rfl, hS⟩, hr⟩ := g
  exact lv_if_ne hF.1 hF.2.1 hd ht (fun q => (kt q) D dT H0 p l e R s m args below meth c H locs cells slots ls _ sb ws ads0 kc' ks' ⟨hF, hW, hL, hS, hr⟩) (fun q => (kf q) D dT H0 p l e R s m args below meth c H locs cells slots ls _ sb ws ads0 kc' ks' ⟨hF, hW, hL, hS, hr⟩)
theorem q_icmp_ne {x y : Int32} {off : Int} {tgt : Nat} (hd : decode (q_cc M) pc = .ok (.if_icmp .ne off, 3)) (ht : (pc : Int) + off = (tgt : Int)) (kt : ¬ x = y → q_A Sc M tgt L st h n kc ks Q) (kf : x = y → q_A Sc M (pc + 3) L st h n kc ks Q) : q_A Sc M pc L (.int y :: .int x :: st) h n kc ks Q := by
  intro D dT H0 p l e R s m args below meth c H locs cells slots ls st' sb ws ads0 kc' ks' g
  obtain ⟨hF, hW, hL, ⟨_, _, rfl, rfl, _, _, rfl, rfl, hS⟩, hr⟩ := g
  exact lv_icmp_ne hF.1 hF.2.1 hd ht (fun q => (kt q) D dT H0 p l e R s m args below meth c H locs cells slots ls _ sb ws ads0 kc' ks' ⟨hF, hW, hL, hS, hr⟩) (fun q => (kf q) D dT H0 p l e R s m args below meth c H locs cells slots ls _ sb ws ads0 kc' ks' ⟨hF, hW, hL, hS, hr⟩)
theorem q_if_lt {x : Int32} {off : Int} {tgt : Nat} (hd : decode (q_cc M) pc = .ok (.ifCond .lt off, 3)) (ht : (pc : Int) + off = (tgt : Int)) (kt : x < 0 → q_A Sc M tgt L st h n kc ks Q) (kf : ¬ (x < 0) → q_A Sc M (pc + 3) L st h n kc ks Q) : q_A Sc M pc L (.int x :: st) h n kc ks Q := by
  intro D dT H0 p l e R s m args below meth c H locs cells slots ls st' sb ws ads0 kc' ks' g
  obtain ⟨hF, hW, hL, ⟨_, _, rfl, rfl, hS⟩, hr⟩ := g
  exact lv_if_lt hF.1 hF.2.1 hd ht (fun q => (kt q) D dT H0 p l e R s m args below meth c H locs cells slots ls _ sb ws ads0 kc' ks' ⟨hF, hW, hL, hS, hr⟩) (fun q => (kf q) D dT H0 p l e R s m args below meth c H locs cells slots ls _ sb ws ads0 kc' ks' ⟨hF, hW, hL, hS, hr⟩)
theorem q_icmp_lt {x y : Int32} {off : Int} {tgt : Nat} (hd : decode (q_cc M) pc = .ok (.if_icmp .lt off, 3)) (ht : (pc : Int) + off = (tgt : Int)) (kt : x < y → q_A Sc M tgt L st h n kc ks Q) (kf : ¬ (x < y) → q_A Sc M (pc + 3) L st h n kc ks Q) : q_A Sc M pc L (.int y :: .int x :: st) h n kc ks Q := by
  intro D dT H0 p l e R s m args below meth c H locs cells slots ls st' sb ws ads0 kc' ks' g
  obtain ⟨hF, hW, hL, ⟨_, _, rfl, rfl, _, _, rfl, rfl, hS⟩, hr⟩ := g
  exact lv_icmp_lt hF.1 hF.2.1 hd ht (fun q => (kt q) D dT H0 p l e R s m args below meth c H locs cells slots ls _ sb ws ads0 kc' ks' ⟨hF, hW, hL, hS, hr⟩) (fun q => (kf q) D dT H0 p l e R s m args below meth c H locs cells slots ls _ sb ws ads0 kc' ks' ⟨hF, hW, hL, hS, hr⟩)
theorem q_if_ge {x : Int32} {off : Int} {tgt : Nat} (hd : decode (q_cc M) pc = .ok (.ifCond .ge off, 3)) (ht : (pc : Int) + off = (tgt : Int)) (kt : 0 ≤ x → q_A Sc M tgt L st h n kc ks Q) (kf : ¬ (0 ≤ x) → q_A Sc M (pc + 3) L st h n kc ks Q) : q_A Sc M pc L (.int x :: st) h n kc ks Q := by
  intro D dT H0 p l e R s m args below meth c H locs cells slots ls st' sb ws ads0 kc' ks' g
  obtain ⟨hF, hW, hL, ⟨_, _, rfl, rfl, hS⟩, hr⟩ := g
  exact lv_if_ge hF.1 hF.2.1 hd ht (fun q => (kt q) D dT H0 p l e R s m args below meth c H locs cells slots ls _ sb ws ads0 kc' ks' ⟨hF, hW, hL, hS, hr⟩) (fun q => (kf q) D dT H0 p l e R s m args below meth c H locs cells slots ls _ sb ws ads0 kc' ks' ⟨hF, hW, hL, hS, hr⟩)
theorem q_icmp_ge {x y : Int32} {off : Int} {tgt : Nat} (hd : decode (q_cc M) pc = .ok (.if_icmp .ge off, 3)) (ht : (pc : Int) + off = (tgt : Int)) (kt : y ≤ x → q_A Sc M tgt L st h n kc ks Q) (kf : ¬ (y ≤ x) → q_A Sc M (pc + 3) L st h n kc ks Q) : q_A Sc M pc L (.int y :: .int x :: st) h n kc ks Q := by
  intro D dT H0 p l e R s m args below meth c H locs cells slots ls st' sb ws ads0 kc' ks' g
  obtain ⟨hF, hW, hL, ⟨_, _, rfl, rfl, _, _, rfl, rfl, hS⟩, hr⟩ := g
  exact lv_icmp_ge hF.1 hF.2.1 hd ht (fun q => (kt q) D dT H0 p l e R s m args below meth c H locs cells slots ls _ sb ws ads0 kc' ks' ⟨hF, hW, hL, hS, hr⟩) (fun q => (kf q) D dT H0 p l e R s m args below meth c H locs cells slots ls _ sb ws ads0 kc' ks' ⟨hF, hW, hL, hS, hr⟩)
theorem q_if_gt {x : Int32} {off : Int} {tgt : Nat} (hd : decode (q_cc M) pc = .ok (.ifCond .gt off, 3)) (ht : (pc : Int) + off = (tgt : Int)) (kt : 0 < x → q_A Sc M tgt L st h n kc ks Q) (kf : ¬ (0 < x) → q_A Sc M (pc + 3) L st h n kc ks Q) : q_A Sc M pc L (.int x :: st) h n kc ks Q := by
  intro D dT H0 p l e R s m args below meth c H locs cells slots ls st' sb ws ads0 kc' ks' g
  obtain ⟨hF, hW, hL, ⟨_, _, rfl, rfl, hS⟩, hr⟩ := g
  exact lv_if_gt hF.1 hF.2.1 hd ht (fun q => (kt q) D dT H0 p l e R s m args below meth c H locs cells slots ls _ sb ws ads0 kc' ks' ⟨hF, hW, hL, hS, hr⟩) (fun q => (kf q) D dT H0 p l e R s m args below meth c H locs cells slots ls _ sb ws ads0 kc' ks' ⟨hF, hW, hL, hS, hr⟩)
theorem q_icmp_gt {x y : Int32} {off : Int} {tgt : Nat} (hd : decode (q_cc M) pc = .ok (.if_icmp .gt off, 3)) (ht : (pc : Int) + off = (tgt : Int)) (kt : y < x → q_A Sc M tgt L st h n kc ks Q) (kf : ¬ (y < x) → q_A Sc M (pc + 3) L st h n kc ks Q) : q_A Sc M pc L (.int y :: .int x :: st) h n kc ks Q := by
  intro D dT H0 p l e R s m args below meth c H locs cells slots ls st' sb ws ads0 kc' ks' g
  obtain ⟨hF, hW, hL, ⟨_, _, rfl, rfl, _, _, rfl, rfl, hS⟩, hr⟩ := g
  exact lv_icmp_gt hF.1 hF.2.1 hd ht (fun q => (kt q) D dT H0 p l e R s m args below meth c H locs cells slots ls _ sb ws ads0 kc' ks' ⟨hF, hW, hL, hS, hr⟩) (fun q => (kf q) D dT H0 p l e R s m args below meth c H locs cells slots ls _ sb ws ads0 kc' ks' ⟨hF, hW, hL, hS, hr⟩)
theorem q_if_le {x : Int32} {off : Int} {tgt : Nat} (hd : decode (q_cc M) pc = .ok (.ifCond .le off, 3)) (ht : (pc : Int) + off = (tgt : Int)) (kt : x ≤ 0 → q_A Sc M tgt L st h n kc ks Q) (kf : ¬ (x ≤ 0) → q_A Sc M (pc + 3) L st h n kc ks Q) : q_A Sc M pc L (.int x :: st) h n kc ks Q := by
  intro D dT H0 p l e R s m args below meth c H locs cells slots ls st' sb ws ads0 kc' ks' g
  obtain ⟨hF, hW, hL, ⟨_, _, rfl, rfl, hS⟩, hr⟩ := g
  exact lv_if_le hF.1 hF.2.1 hd ht (fun q => (kt q) D dT H0 p l e R s m args below meth c H locs cells slots ls _ sb ws ads0 kc' ks' ⟨hF, hW, hL, hS, hr⟩) (fun q => (kf q) D dT H0 p l e R s m args below meth c H locs cells slots ls _ sb ws ads0 kc' ks' ⟨hF, hW, hL, hS, hr⟩)
theorem q_icmp_le {x y : Int32} {off : Int} {tgt : Nat} (hd : decode (q_cc M) pc = .ok (.if_icmp .le off, 3)) (ht : (pc : Int) + off = (tgt : Int)) (kt : x ≤ y → q_A Sc M tgt L st h n kc ks Q) (kf : ¬ (x ≤ y) → q_A Sc M (pc + 3) L st h n kc ks Q) : q_A Sc M pc L (.int y :: .int x :: st) h n kc ks Q := by
  intro D dT H0 p l e R s m args below meth c H locs cells slots ls st' sb ws ads0 kc' ks' g
  obtain ⟨hF, hW, hL, ⟨_, _, rfl, rfl, _, _, rfl, rfl, hS⟩, hr⟩ := g
  exact lv_icmp_le hF.1 hF.2.1 hd ht (fun q => (kt q) D dT H0 p l e R s m args below meth c H locs cells slots ls _ sb ws ads0 kc' ks' ⟨hF, hW, hL, hS, hr⟩) (fun q => (kf q) D dT H0 p l e R s m args below meth c H locs cells slots ls _ sb ws ads0 kc' ks' ⟨hF, hW, hL, hS, hr⟩)
theorem q_lookup {dflt : Int} {ps : Array (Int × Int)} {len : Nat} {x : Int32} {off : Int} {tgt : Nat} (hd : decode (q_cc M) pc = .ok (.lookupswitch dflt ps, len)) (hp : (ps.toList.zip (ps.toList.drop 1)).all (fun (a, next) => a.1 < next.1) = true) (ho : Op.lookupswitch.offset ps.toList dflt x.toInt = off) (ht : (pc : Int) + off = (tgt : Int)) (k : q_A Sc M tgt L st h n kc ks Q) : q_A Sc M pc L (.int x :: st) h n kc ks Q := by
  intro D dT H0 p l e R s m args below meth c H locs cells slots ls st' sb ws ads0 kc' ks' g
  obtain ⟨hF, hW, hL, ⟨_, _, rfl, rfl, hS⟩, hr⟩ := g
  exact lv_lookup hF.1 hF.2.1 hd hp ho ht (k D dT H0 p l e R s m args below meth c H locs cells slots ls _ sb ws ads0 kc' ks' ⟨hF, hW, hL, hS, hr⟩)
theorem q_tableOut {dflt lo hi : Int} {offs : Array Int} {len : Nat} {x : Int32} {tgt : Nat} (hd : decode (q_cc M) pc = .ok (.tableswitch dflt lo hi offs, len)) (hx : x.toInt < lo ∨ hi < x.toInt) (ht : (pc : Int) + dflt = (tgt : Int)) (k : q_A Sc M tgt L st h n kc ks Q) : q_A Sc M pc L (.int x :: st) h n kc ks Q := by
  intro D dT H0 p l e R s m args below meth c H locs cells slots ls st' sb ws ads0 kc' ks' g
  obtain ⟨hF, hW, hL, ⟨_, _, rfl, rfl, hS⟩, hr⟩ := g
  exact lv_tableOut hF.1 hF.2.1 hd hx ht (k D dT H0 p l e R s m args below meth c H locs cells slots ls _ sb ws ads0 kc' ks' ⟨hF, hW, hL, hS, hr⟩)
theorem q_tableIn {dflt lo hi : Int} {offs : Array Int} {len : Nat} {x : Int32} {off : Int} {tgt : Nat} (hd : decode (q_cc M) pc = .ok (.tableswitch dflt lo hi offs, len)) (h1 : ¬ x.toInt < lo) (h2 : ¬ hi < x.toInt) (ho : offs[(x.toInt - lo).toNat]? = some off) (ht : (pc : Int) + off = (tgt : Int)) (k : q_A Sc M tgt L st h n kc ks Q) : q_A Sc M pc L (.int x :: st) h n kc ks Q := by
  intro D dT H0 p l e R s m args below meth c H locs cells slots ls st' sb ws ads0 kc' ks' g
  obtain ⟨hF, hW, hL, ⟨_, _, rfl, rfl, hS⟩, hr⟩ := g
  exact lv_tableIn hF.1 hF.2.1 hd h1 h2 ho ht (k D dT H0 p l e R s m args below meth c H locs cells slots ls _ sb ws ads0 kc' ks' ⟨hF, hW, hL, hS, hr⟩)
theorem q_i2l {x : Int32} (hd : decode (q_cc M) pc = .ok (.i2l, 1)) (k : q_A Sc M (pc + 1) L (.long x.toInt64 :: st) h n kc ks Q) : q_A Sc M pc L (.int x :: st) h n kc ks Q := by
  intro D dT H0 p l e R s m args below meth c H locs cells slots ls st' sb ws ads0 kc' ks' g
  obtain ⟨hF, hW, hL, ⟨_, _, rfl, rfl, hS⟩, hr⟩ := g
  exact lv_i2l hF.1 hF.2.1 hd rfl (k D dT H0 p l e R s m args below meth c H locs cells slots ls _ sb ws ads0 kc' ks' ⟨hF, hW, hL, ⟨_, _, rfl, rfl, hS⟩, hr⟩)
end QR
