/-! THE CLAIM OUT OF ONE WALK OF THE LAW'S BODY. Your part is whole_start (and what it stands on); all else here is the same for every law, but numbers. -/
def R_law : String := "GroupFiltersLaw"
def lw_P (b : Addr) (xs : List Int32) (args : Array Value) (s : State) : Prop := args = #[.ref b] ∧ s.IntsAt b xs ∧ xs.length ≤ 3073 ∧ (Jvm.Cond.and given_1 narrow_1).before args s = true
def lw_Q (_ : Array Value) (s : State) (o : Outcome) (t : State) : Prop := o = .returned (some (.int 1)) ∧ Framed s o t [] 601024 7293000
def lw_Z (below : List Frame) (a : Array Value) (s : State) : State → Prop := fun t => ∃ o, t.status = .running ∧ Ended t below o ∧ lw_Q a s o t
/-- the law's own end, with 1 on the stack, nothing written that was there before, its room as the claim has it -/
theorem lw_ret {p : Program} {l : Launch} {e : Env} {s : State} {m : MethodId} {below : List Frame} {meth : Method} {c : Code} {b : Nat} (hx : p.tables.exec = Jvm.exec) (hb : c.code = code) (hr : meth.sig.returnType = ret) (hlocks : meth.locks = false) {pc : Nat} {H : Heap} {ls : Array Slot} (hdg : decode code pc = .ok (.ireturn, 1)) : W p l e room_1 s m #[Value.ref b] below meth c H [] 601024 7293000 (lw_Z below #[Value.ref b] s) (F0 m pc ls [.int 1]) := by
  intro T hT X
  obtain ⟨fs, hret, hrun, hended, hW, hframe⟩ := X.leave (v := some (.int 1)) (hlocks := hlocks) (fun h => by rw [hr] at h; cases h)
  have hmeth' : T.vm.method? m = some meth := X.method'
  refine ⟨T.setFrames fs, ?_, .returned (some (.int 1)), hrun, hended, rfl, ⟨_, rfl⟩, hW, hframe⟩
  jvm_step X.here [X.here.top, hx, hb, hdg, hmeth', hr, ret, narrow_b1]
  (try refine ⟨rfl, ?_⟩); (try refine ⟨rfl, ?_⟩)
  first | (intro acts; rw [hret _ acts rfl rfl rfl]) | rw [hret _ _ rfl rfl rfl]
  exact Steps.refl _
/-- what holds at the law's entry -/
def lw_At (p : Program) (l : Launch) (s : State) (m : MethodId) (meth : Method) (c : Code) (b L : Nat) (xs : Nat → Int32) : Prop :=
  p.tables.exec = Jvm.exec ∧ c.code = code ∧ meth.sig.returnType = ret ∧ c.maxLocals = 7 ∧ s.vm.findClass R_law = some m.cls ∧ (∀ w ∈ lw_tbl, w.before #[Value.ref b] s = true) ∧ va_X b L xs s s.heap ∧ b < s.heap.size ∧ meth.locks = false ∧ (Jvm.Cond.and given_1 narrow_1).before #[Value.ref b] s = true ∧ l.flags = flags0 ∧ c.exceptionTable = #[] ∧ meth.name = "law"
theorem q_of {w : Cond} (hw : q_okw w = true) {args : Array Value} {s : State} (h : w.before args s = true) : va_Nw w s := by
  by_cases hg : goodWord w = true
  · exact word_at (State.WarmedH.refl s) (good_of_word hg) h
  · unfold q_okw at hw
    split at hw
    · exact va_Nw.of rfl h
    · exact va_Nw.of rfl h
    · exact va_Nw.of rfl h
    · exact va_Nw.of rfl h
    · exact h
    · exact absurd hw hg
theorem q_drop {s s' : State} {L : List Loc} {k n : Nat} (h : s.sameButNew s' L k n) (hJ : ∀ x ∈ L, s.heap.size ≤ x.base) : s.sameButNew s' [] k n := by
  obtain ⟨h1, h2, h3, h4, h5, h6⟩ := h
  refine ⟨h1, h2, h3, h4, h5, fun a c hc => ?_⟩
  obtain ⟨c', g1, g2, g3, g4⟩ := h6 a c hc
  exact ⟨c', g1, g2, g3, fun i _ => g4 i (fun hm => absurd (hJ _ hm) (Nat.not_le.mpr (Array.getElem?_eq_some_iff.mp hc).1))⟩
theorem q_arr {s : State} {args : Array Value} {ty : FieldType} (h : (Cond.arrayClass ty).before args s = true) (hn : ∀ C, ty ≠ .object C) : ∃ cA, ArrOfT s cA ty ∧ va_RA s cA ty := by
  obtain ⟨cA, kA, comp, h1, h2, h3⟩ := Cond.arrayClass_spec h
  refine ⟨cA, fun n z => ⟨fun k h => (by cases h), kA, h2, comp, h3⟩, ?_⟩
  cases ty with
  | object C => exact absurd rfl (hn C)
  | _ => exact h1
theorem q_aro {s : State} {args : Array Value} {C : String} (h : (Cond.arrayOver (.object C)).before args s = true) : ∃ cA, ArrOfT s cA (.object C) ∧ va_RA s cA (.object C) := by
  obtain ⟨comp, cA, kA, f1, f2, f3, f4, f5⟩ := Cond.arrayOver_spec h
  exact ⟨cA, fun n z => ⟨fun k h => (by cases h), kA, f3, comp, f4⟩, kA, comp, f3, f4, f1, f5⟩
theorem q_known {s : State} {args : Array Value} (hts : ∀ w ∈ lw_tbl, w.before args s = true) : ∃ (D : va_G) (dT : Nat → ClassId), va_K D vwCl (q_tys dT) s := by
  obtain ⟨c0, i0, k0⟩ := u_known hts kaX0 (hts _ wZX0.1)
  obtain ⟨c1, i1, k1⟩ := u_known hts kaX1 (hts _ wZX1.1)
  obtain ⟨c2, i2, k2⟩ := u_known hts kaX2 (hts _ wZX2.1)
  obtain ⟨c3, i3, k3⟩ := u_known hts kaX3 (hts _ wZX3.1)
  obtain ⟨c4, i4, k4⟩ := u_known hts kaX4 (hts _ wZX4.1)
  obtain ⟨c5, i5, k5⟩ := u_known hts kaX5 (hts _ wZX5.1)
  obtain ⟨a0, p0⟩ := q_arr (hts _ wAint.1) (fun C h => by cases h)
  obtain ⟨a1, p1⟩ := q_arr (hts _ wAboolean.1) (fun C h => by cases h)
  obtain ⟨a2, p2⟩ := q_aro (hts _ wYX1.1)
  obtain ⟨a3, p3⟩ := q_aro (hts _ wYX0.1)
  obtain ⟨a4, p4⟩ := q_aro (hts _ wYX2.1)
  obtain ⟨a5, p5⟩ := q_arr (hts _ wAlong.1) (fun C h => by cases h)
  refine ⟨(fun c => match c with | 0 => c0 | 1 => c1 | 2 => c2 | 3 => c3 | 4 => c4 | _ => c5, fun c => match c with | 0 => i0 | 1 => i1 | 2 => i2 | 3 => i3 | 4 => i4 | _ => i5), (fun t => match t with | 0 => a0 | 1 => a1 | 2 => a2 | 3 => a3 | 4 => a4 | _ => a5), fun c q hq => ?_, fun t q hq => ?_⟩
  · match c, hq with
    | 0, hq => cases hq; exact k0
    | 1, hq => cases hq; exact k1
    | 2, hq => cases hq; exact k2
    | 3, hq => cases hq; exact k3
    | 4, hq => cases hq; exact k4
    | 5, hq => cases hq; exact k5
    | c + 6, hq => cases hq
  · match t, hq with
    | 0, hq => cases hq; exact p0
    | 1, hq => cases hq; exact p1
    | 2, hq => cases hq; exact p2
    | 3, hq => cases hq; exact p3
    | 4, hq => cases hq; exact p4
    | 5, hq => cases hq; exact p5
    | t + 6, hq => cases hq
theorem q_s147 : Cond.stringRef "GroupFilters" 147 q_tx0 ∈ lw_tbl := List.mem_of_getElem? (i := 274) (by decide +kernel)
theorem q_s154 : Cond.stringRef "GroupFilters" 154 q_tx1 ∈ lw_tbl := List.mem_of_getElem? (i := 313) (by decide +kernel)
theorem q_ls1 : Cond.laysStatic "java/lang/Throwable" "UNASSIGNED_STACK" "[Ljava/lang/StackTraceElement;" ∈ lw_tbl := List.mem_of_getElem? (i := 261) (by decide +kernel)
theorem q_ls2 : Cond.laysStatic "java/lang/Throwable" "SUPPRESSED_SENTINEL" "Ljava/util/List;" ∈ lw_tbl := List.mem_of_getElem? (i := 263) (by decide +kernel)
theorem q_lsi : Cond.initialized "java/lang/Throwable" ∈ lw_tbl := List.mem_of_getElem? (i := 38) (by decide +kernel)
theorem q_str {s : State} {args : Array Value} {own tx : String} {k cur : Nat} (hcur : s.vm.findClass own = some cur) (h : (Cond.stringRef own k tx).before args s = true) : ∃ sa, vk_R own k tx sa s := by
  obtain ⟨_, _, _, a, _, _, _, _, _, ev⟩ := Cond.stringRef_spec hcur h
  exact ⟨a, vk_R.of h ev⟩
theorem q_X0 {l : Launch} {s : State} {args : Array Value} (hf : l.flags = flags0) (hts : ∀ w ∈ lw_tbl, w.before args s = true) (hg : (Jvm.Cond.and given_1 narrow_1).before args s = true) : q_X s.heap l s := by
  have hs := flat_of_before _ hg
  obtain ⟨c4, i4, k4⟩ := u_known hts kaX4 (hts _ wZX4.1)
  refine ⟨by unfold Launch.stackTraces; rw [hf]; decide, ?_, ?_, q_str k4.2.1 (hts _ q_s147), q_str k4.2.1 (hts _ q_s154), va_Nc.of (hs _ (by decide +kernel)), va_Nc.of (hs _ (by decide +kernel))⟩
  · exact vx_Zqof (hts _ q_ls1) (hts _ q_lsi) (hs (.isRef (.static "java/lang/Throwable" "UNASSIGNED_STACK" "[Ljava/lang/StackTraceElement;")) (by decide +kernel)) (fun a h1 h2 => absurd h1 (Nat.not_lt.mpr h2))
  · exact vx_Zqof (hts _ q_ls2) (hts _ q_lsi) (hs (.isRef (.static "java/lang/Throwable" "SUPPRESSED_SENTINEL" "Ljava/util/List;")) (by decide +kernel)) (fun a h1 h2 => absurd h1 (Nat.not_lt.mpr h2))
theorem whole_start {p : Program} {e : Env} {s : State} {m : MethodId} {below : List Frame} {meth : Method} {c : Code} (l : Launch) {b L : Nat} {xs : Nat → Int32} (hL : L ≤ 3073) (C0 : lw_At p l s m meth c b L xs) : W p l e room_1 s m #[Value.ref b] below meth c s.heap [] 0 0 (lw_Z below #[Value.ref b] s) (entryFrame m ([Value.ref b] : List Value).toArray 7) := by
  obtain ⟨f1, f2, f3, f4, f5, f6, f7, f8, f9, f10, f11, f12, f13⟩ := C0
  obtain ⟨D, dT, hK⟩ := q_known f6
  have hF : q_F (L, xs) mL_law D dT s.heap b p l room_1 s m meth c := by
    refine ⟨f1, f2, f4, f3, f9, f5, fun w hw => q_of hw.2 (f6 w hw.1), hK, by decide, by decide, by rw [f12]; rfl, f13, Nat.le_refl _, fun _ _ => rfl, q_X0 f11 f6 f10, f8, f7⟩
  have hW : q_W D dT s.heap s (fun _ => .inl (0, [])) 0 b [] s.heap [] := ⟨rfl, fun i hi => absurd hi (Nat.not_lt_zero _), fun k q hk => by simp at hk, ⟨fun i j x y hx => by simp at hx, fun k q hk => by simp at hk⟩, va_S.rf⟩
  have hvs : q_vs (q_ads b []) [.float 1] [.ref b] := ⟨_, _, rfl, ⟨b, rfl, fun _ => rfl⟩, rfl⟩
  rw [lg_entry_eq m [Value.ref b] 7]
  intro T hT X
  obtain ⟨t, a, o, L1, h1, n1, ws1, O, b1, b2, b3, b4, b5, b6, b7, b8⟩ := law_all (L, xs) hL (fun _ => .inl (0, [])) D dT s.heap p l e room_1 s m #[Value.ref b] below meth c s.heap [] 0 0 _ [] b [] (q_ads b []) 3000 20000 ⟨hF, hW, q_L_entry (M := mL_law) rfl hvs (by decide), rfl, q_le.rf, by omega, by omega, by decide, by decide⟩ T hT X
  obtain rfl := b5
  obtain ⟨w, rfl, hw⟩ := b8
  have hw2 : w = .int (nI 1) := hw
  subst hw2
  exact ⟨t, a, _, b1, b2, rfl, ⟨_, rfl⟩, b3, (q_drop b4 (fun x hx => b6.2.2.2.2.2.2 x hx)).mono (by decide) (by decide)⟩
set_option maxHeartbeats 4000000 in
theorem lw_walk (l : Launch) (hf : l.flags = flags0) (b : Addr) (xs : List Int32) : MetFree l x (headSpec (Jvm.Cond.code x code maxLocals ret :: tables_1) room_1) (lw_P b xs) (fun _ _ _ _ _ => True) lw_Q := by
  refine MetFree.of_bodyS (code := code) (maxLocals := maxLocals) (ret := ret) (by decide) ?_ ?_
  · intro args s m h hn
    obtain ⟨meth, c, h1, h2, h3, h4, h5, h6, -, -⟩ := Cond.code_spec hn (atoms_spec (ws := Jvm.Cond.code x code maxLocals ret :: tables_1) h _ List.mem_cons_self)
    exact ⟨meth, c, h1, h2, h3, h4, h5, h6⟩
  · intro p e s m args below meth c s₁ B hml0 hP _
    obtain ⟨rfl, hx, hbd, hgv⟩ := hP
    obtain ⟨scr, harrAt, hlist, hof, hsmall⟩ := hx
    obtain ⟨hcb, hkn, -, -⟩ := State.arrayAt?_spec harrAt
    have hown : s.vm.findClass R_law = some m.cls := findClass_of_methodNamed B.named
    have hts0 : ∀ c ∈ (Jvm.Cond.code x code maxLocals ret :: tables_1), c.before #[Value.ref b] s = true := atoms_spec (ws := Jvm.Cond.code x code maxLocals ret :: tables_1) B.pre
    have hts : ∀ w ∈ lw_tbl, w.before #[Value.ref b] s = true := k2_hts_sels lw_privs (fun w hw => hts0 w (List.mem_cons_of_mem _ hw)) lw_privs_ok
    have hml : c.maxLocals = 7 := B.maxLocals_eq (hts0 _ List.mem_cons_self)
    have X₀ : Stand p l e room_1 s m #[Value.ref b] below meth c s₁ [] 0 0 := Stand.of_body B
    have hh0 : s₁.heap = s.heap := by rw [B.state]; rfl
    have hsz : scr.slots.size = xs.length := by rw [← Array.length_toList, hlist, List.length_map]
    have hval : ∀ j : Nat, j < xs.length → scr.slots[j]? = some (.int (xs.getD j 0)) := fun j hj => by
      rw [← Array.getElem?_toList, hlist]
      simp [hj]
    have hbl : b < s.heap.size := (Array.getElem?_eq_some_iff.mp hcb).1
    have hX : va_X b xs.length (fun j => xs.getD j 0) s s.heap := ⟨scr, hcb, hof, hkn, hsz, hval⟩
    have K : W p l e room_1 s m #[Value.ref b] below meth c s₁.heap [] 0 0 (lw_Z below #[Value.ref b] s) (entryFrame m ([Value.ref b] : List Value).toArray 7) := by
      rw [hh0]
      obtain ⟨meth', c', g1, g2, -, -, -, -, g7, -⟩ := Cond.code_spec B.named (hts0 _ List.mem_cons_self)
      cases X₀.method.symm.trans g1
      cases X₀.code.symm.trans g2
      have hxt : c.exceptionTable = #[] := by simpa using g7
      exact whole_start l hbd ⟨B.exec, B.bytes, B.returns, hml, hown, hts, hX, hbl, B.notSynchronized, hgv, hf, hxt, (name_of_methodNamed B.named X₀.method).1⟩
    obtain ⟨t, a1, o, b1, b2, b3⟩ := K s₁ rfl X₀
    exact ⟨t, o, a1, b1, b2, b3⟩
theorem lw_pre_spec {args : Array Value} {s : State} (h : (Jvm.Cond.and given_1 narrow_1).before args s = true) (hr : rest_1_c.before args s = true) : ∃ (b : Addr) (xs : List Int32), lw_P b xs args s := by
  have hs := flat_of_before _ h
  have hq := flat_of_before _ hr
  have hc : (Cond.count 1).before args s = true := hs _ (by decide +kernel)
  have harr : (Cond.arrayOf (.arg 0) .int).before args s = true := hs _ (by decide +kernel)
  have hle : (Cond.le (.length (.arg 0)) (.int 3073)).before args s = true := hs _ (by decide +kernel)
  have hlen : (Cond.isInt (.length (.arg 0))).before args s = true := hq _ (by decide +kernel)
  have hall : (Cond.all (.arg 0) (.isInt (.elem (.arg 0) (.index 0)))).before args s = true := hq _ (by decide +kernel)
  obtain ⟨b, xs, hb, hx⟩ := State.ints_of_pre rfl harr hlen hall
  have hsm : xs.length < 2 ^ 31 := hx.choose_spec.2.2.2
  have hev : (Term.length (.arg 0)).eval args s none [] s = some (.int xs.length.toInt32) := hx.length_eval hb
  have hv := Cond.le_ints hev (show (Term.int 3073).eval args s none [] s = some (.int 3073) from rfl)
  have hd : xs.length.toInt32 ≤ 3073 := by
    simpa [Cond.before, Cond.holds, hv] using hle
  have hN : xs.length ≤ 3073 := (Int32.ofNat_le_ofNat hsm (by decide)).mp (show Int32.ofNat xs.length ≤ Int32.ofNat 3073 from hd)
  exact ⟨b, xs, Cond.one_arg hc (show args[0]? = some (.ref b) from hb), hx, hN, h⟩
theorem lw_comes (l : Launch) (hf : l.flags = flags0) : Comes l x (Jvm.Cond.code x code maxLocals ret :: tables_1) room_1 (fun tb e args s => Calls_1 tb e args s ∧ rest_1 tb e args s ∧ Pre_1 tb e args s)
    (fun _ _ args s o t => lw_Q args s o t) := by
  intro p e ha hc hk s m args below hfr hfit hheap happ hpre
  obtain ⟨b, xs, hP⟩ := lw_pre_spec hpre.2.2 hpre.2.1
  obtain ⟨k, o, h1, h2, h3, hQ⟩ := lw_walk l hf b xs p e ha hc hk s m args below hfr ((Spec.applies_iff_loose hfr).mp happ).1 hP trivial
  exact ⟨k, o, h1, h2, h3, hQ⟩
theorem lw_frame {s t : State} {o : Outcome} {args : Array Value} (h : Framed s o t [] 601024 7293000) :
    Framed s o t (fieldLocs frame_1_writes args s ++ arrayLocs frame_1_arrays args s ++ staticLocs frame_1_statics s) 601024 7293000 := h
theorem lw_limb (L : Cond) (hL : ∀ (args : Array Value) (s t : State), L.after args s (.returned (some (.int 1))) t = true) :
    ArmFor flags0 classFile x code maxLocals ret World_1 tables_1 room_1 Calls_1 rest_1 Pre_1
      (fun tb e a s o t => postC L tb e a s o t ∧ Framed s o t (fieldLocs frame_1_writes a s ++ arrayLocs frame_1_arrays a s ++ staticLocs frame_1_statics s) 601024 7293000) := by
  intro l hf _ _ p e ha hc hk s m args below hfr hfit hheap happ hpre
  obtain ⟨k, o, h1, h2, h3, rfl, hF⟩ := lw_comes l hf p e ha hc hk s m args below hfr hfit hheap happ hpre
  exact ⟨k, _, h1, h2, h3, hL args s _, lw_frame hF⟩
theorem i_vc : Claimed_1_1 ∧ Claimed_1_2 := ⟨lw_limb limb_1_1 (fun args s t => by simp [limb_1_1, Cond.after, Cond.holds, Cond.value]), lw_limb limb_1_2 (fun args s t => Cond.after_iff.mpr (by
  first | (rw [show limb_1_2 = Cond.eq .result (.int 1) from rfl, Cond.eq_ints (x := 1) (y := 1) rfl rfl]; simp; done) | (simp [limb_1_2, Cond.value, Term.eval]; done)))⟩
