theorem q_w13 : q_in (Cond.classLink "GroupFiltersLaw" 13 "java/lang/IndexOutOfBoundsException") := q_in_at 225 (by decide +kernel) rfl
theorem q_w15 : q_in (Cond.classLink "GroupFiltersLaw" 15 "java/lang/IllegalArgumentException") := q_in_at 226 (by decide +kernel) rfl
theorem q_wc0 : q_in (Cond.castable "java/lang/IndexOutOfBoundsException" "java/lang/IndexOutOfBoundsException") := q_in_at 236 (by decide +kernel) rfl
theorem q_wc1 : q_in (Cond.castable "java/lang/IllegalArgumentException" "java/lang/IllegalArgumentException") := q_in_at 306 (by decide +kernel) rfl
theorem q_caught {tb : Tables} {e : Env} {s target : State} {g : JFrame} {c : Code} {below : List Frame} {a : Addr} (h : At s g.method c below) {pc : Nat} {vm' : Vm}
    (hfind : ∀ (Q : Handler → Pre) (E : CtlPost) (d : Bool) (acts : List Action), wp (findHandler g a) Q E e d acts ((s.setTop g).pushFrame (.throwing a)) ↔ Q (.found pc) d acts (((s.setTop g).pushFrame (.throwing a)).setVm vm'))
    (hrest : Steps tb e below ((s.setVm vm').setTop { g with pc := pc, stack := [.ref a] }) target) : Steps tb e below ((s.setTop g).pushFrame (.throwing a)) target := by
  obtain ⟨hgo, hw⟩ := h.throwing a
  refine Steps.head hgo hw ?_
  have hst : ∀ r : List Frame, (stepThrowing e ((s.setTop g).pushFrame (.throwing a)) a (.java g :: r)).Is ((((s.setTop g).pushFrame (.throwing a)).setVm vm').setFrames (.java { g with pc := pc, stack := [.ref a] } :: r)) [] := by
    intro r
    simp only [stepThrowing, searchFrame, vmDo]
    generalize hr : Sem.go _ e false [] ((s.setTop g).pushFrame (.throwing a)) = res
    obtain ⟨as, rfl, ha⟩ := Sem.eq_ok_of hr (a := Handler.found pc) (s' := ((s.setTop g).pushFrame (.throwing a)).setVm vm') (acts' := []) (by simp [hfind _ _ _ _])
    exact ⟨rfl, ha⟩
  rw [stepThread_throwing (frames_entered h.top _), (hst _).1]
  obtain ⟨g₀, hg⟩ := Option.isSome_iff_exists.mp h.top
  obtain ⟨r, hr⟩ := State.topJava?_eq_some.mp hg
  have hr' : (s.setVm vm').frames = .java g₀ :: r := hr
  rw [State.setTop_of_frames _ hr'] at hrest
  have hc : ∀ (u : State) (F G : List Frame), ((u.setFrames F).setVm vm').setFrames G = (u.setVm vm').setFrames G := fun u F G => by
    show (((u.setVm vm').setFrames F)).setFrames G = _
    rw [State.setFrames_setFrames]
  rw [hr, List.tail_cons, State.pushFrame, hc, State.setTop_of_frames _ hr, hc]
  exact hrest
section QTH
variable {Sc : q_S} {sb : Nat} {M : q_M} {pc : Nat} {L : List Value} {h : q_H} {n kc ks : Nat} {Q : q_O → q_H → Nat → Prop}
variable {D : va_G} {dT : Nat → ClassId} {H0 : Heap} {p : Program} {l : Launch} {e : Env} {R : Room} {s : State} {m : MethodId} {args : Array Value} {below : List Frame} {meth : Method} {c : Code} {locs : List Loc} {cells slots : Nat} {ls : Array Slot} {ws : va_W} {ads0 : List Nat} {kc' ks' : Nat} {T : State}
theorem q_thrown (hF : q_F Sc M D dT H0 sb p l R s m meth c) (hW : q_W D dT H0 s h n sb ws T.heap locs) (hL : q_L (q_ads sb ws) (q_nL M) L ls) (ha : q_le ads0 (q_ads sb ws)) (g6 : cells + kc ≤ kc') (g7 : slots + ks ≤ ks') (g8 : kc' ≤ R.cells) (g9 : ks' ≤ R.slots)
    (X : Stand p l e R s m args below meth c T locs cells slots) {st : List Value} {x : Nat} {xa : Addr} {cell : Cell} {Xn : String} (e1 : q_ex[x]? = some Xn) (e3 : T.heap[xa]? = some cell) (e4 : T.vm.findClass Xn = some cell.cls) (e5 : cell.vm = .none)
    (k : q_Th Sc M pc L h n kc ks Q x) : ∃ t, Steps p.tables e below ((T.setTop (F0 m pc ls st)).pushFrame (.throwing xa)) t ∧ q_End D dT H0 s below sb ads0 kc' ks' Q t := by
  have hF0 := hF
  obtain ⟨f1, f2, f3, f4, f5, f6, f7, f8, f9, f10, f11, f12, f13, f14, f15, f16, f17⟩ := hF
  unfold q_Th at k
  split at k
  · obtain ⟨hout, hQ⟩ := k
    have hout' : ∀ y ∈ c.exceptionTable.toList, covers y pc = false := fun y hy => by
      have h1 : q_row y ∈ q_hs M := by rw [← f11]; exact List.mem_map.mpr ⟨y, hy, rfl⟩
      have h2 := hout _ h1
      simpa [covers] using h2
    obtain ⟨st1, hrun, hend, hWm, hsm⟩ := X.leaveThrown xa (g := F0 m pc ls st) rfl rfl rfl hout' f5
    exact ⟨_, st1, .threw xa, locs, h, n, ws, .inr x, hrun, hend, hWm, hsm.mono (by omega) (by omega), hQ, hW, ha, ⟨xa, cell, Xn, e1, rfl, e3, e4, e5⟩⟩
  · rename_i hpc hq
    obtain ⟨hall, hown, kA⟩ := k
    have hpl : e.platform.magicAccessors = ({} : Platform).magicAccessors := by rw [X.admits.platform]
    have hown' : s.vm.findClass "GroupFiltersLaw" = some m.cls := by rw [← hown]; exact f6
    obtain ⟨c0, hc0, hl0⟩ := Cond.classLink_spec hown' (f7.at q_w13 args) e.platform hpl
    obtain ⟨c1, hc1, hl1⟩ := Cond.classLink_spec hown' (f7.at q_w15 args) e.platform hpl
    obtain ⟨u1, u2, hu1, hu2, hu3⟩ := Cond.castable_spec (f7.at q_wc0 args)
    obtain ⟨v1, v2, hv1, hv2, hv3⟩ := Cond.castable_spec (f7.at q_wc1 args)
    obtain ⟨-, -, -, -, -, ⟨a1, a2, ha1, ha2, ha3⟩, ⟨b1, b2, hb1, hb2, hb3⟩⟩ := f15
    have e4' : s.vm.findClass Xn = some cell.cls := by rw [← X.warmed.alike.findClass]; exact e4
    obtain ⟨k0, hk0, -⟩ := Vm.findClass_spec e4'
    have hx2 : (x = 0 ∧ Xn = "java/lang/IndexOutOfBoundsException") ∨ (x = 1 ∧ Xn = "java/lang/IllegalArgumentException") := by
      match x, e1 with
      | 0, e1 => exact Or.inl ⟨rfl, (Option.some.inj e1).symm⟩
      | 1, e1 => exact Or.inr ⟨rfl, (Option.some.inj e1).symm⟩
      | k + 2, e1 => simp [q_ex] at e1
    have hcs : ∀ t y, q_ct t = some y → ∃ c, s.vm.ClassLinks e.platform (F0 m pc ls st).method.cls t c ∧ s.vm.assignable cell.cls c = decide (y = x) := by
      intro t y hty
      unfold q_ct at hty
      split at hty
      · rename_i ht
        subst ht
        cases hty
        refine ⟨c0, hl0, ?_⟩
        rcases hx2 with ⟨rfl, rfl⟩ | ⟨rfl, rfl⟩
        · cases hu1.symm.trans e4'
          cases hu2.symm.trans hc0
          exact hu3
        · cases ha1.symm.trans e4'
          cases ha2.symm.trans hc0
          exact ha3
      · split at hty
        · rename_i ht
          subst ht
          cases hty
          refine ⟨c1, hl1, ?_⟩
          rcases hx2 with ⟨rfl, rfl⟩ | ⟨rfl, rfl⟩
          · cases hb1.symm.trans e4'
            cases hb2.symm.trans hc1
            exact hb3
          · cases hv1.symm.trans e4'
            cases hv2.symm.trans hc1
            exact hv3
        · cases hty
    obtain ⟨vm', hWv, hgo⟩ := q_go (e := e) (s := s) (f := F0 m pc ls st) (a := xa) (cell := cell) (fun k q => by rw [e5] at q; cases q) hk0 (x := x) hcs c.exceptionTable.toList ((T.setTop (F0 m pc ls st)).pushFrame (.throwing xa)) X.warmed e3
      (fun z hz => hall (q_row z) (by rw [← f11]; exact List.mem_map.mpr ⟨z, hz, rfl⟩))
    have hq' : q_hfl pc x (c.exceptionTable.toList.map q_row) = some hpc := by
      rw [show c.exceptionTable.toList.map q_row = q_hs M from f11]
      exact hq
    obtain ⟨t, a1', a2'⟩ := kA D dT H0 p l e R s m args below meth c T.heap locs cells slots ls [.ref xa] sb ws ads0 kc' ks' ⟨hF0, hW, hL, ⟨_, _, rfl, ⟨xa, rfl, fun q => absurd q (by decide)⟩, rfl⟩, ha, g6, g7, g8, g9⟩ (T.setVm vm') rfl (X.noted hWv)
    refine ⟨t, q_caught (g := F0 m pc ls st) (pc := hpc) (vm' := vm') X.here (fun Q' E d acts => ?_) a1', a2'⟩
    rw [W.findHandler_eq (s := (T.setTop (F0 m pc ls st)).pushFrame (.throwing xa)) (f := F0 m pc ls st) (meth := meth) (code := c) X.method' X.code, hgo]
    show Q' (match q_hfl pc x (c.exceptionTable.toList.map q_row) with | none => .none | some hp => .found hp) d acts _ ↔ _
    rw [hq']
end QTH
section QCORE
variable {Sc : q_S} {sb : Nat} {M M' : q_M} {pc : Nat} {L rest vs : List Value} {h : q_H} {n kc ks kc1 ks1 : Nat} {Q P : q_O → q_H → Nat → Prop}
variable {D : va_G} {dT : Nat → ClassId} {H0 : Heap} {p : Program} {l : Launch} {e : Env} {R : Room} {s : State} {m : MethodId} {args : Array Value} {below : List Frame} {meth : Method} {c : Code} {H : Heap} {locs : List Loc} {cells slots : Nat} {ls : Array Slot} {rest' as' st' : List Value} {ws : va_W} {ads0 : List Nat} {kc' ks' : Nat}
theorem q_core (hG : q_G Sc M L rest h n kc ks D dT H0 p l R s m meth c H locs cells slots ls rest' sb ws ads0 kc' ks') (hvs : q_vs (q_ads sb ws) vs as')
    (hB : q_A Sc M' 0 (q_L0 M' vs) [] h n kc1 ks1 P) (hk1 : kc1 ≤ kc) (hk2 : ks1 ≤ ks) (hfr : q_fr M' + 1 ≤ q_fr M) (hlo : (rest.map fun v => v.category).sum + (q_nL M' + 11) + q_lo M' ≤ q_lo M) (hnl : vs.length ≤ q_nL M') (hone : q_one vs = true)
    {ig : Instr} (hdg : decode (q_cc M) pc = .ok (ig, 3)) {T : State} (hT : T.heap = H) {mk : MethodId} {vm₁ : Vm} (X : Stand p l e R s m args below meth c T locs cells slots) (X₁ : Stand p l e R s m args below meth c (T.setVm vm₁) locs cells slots)
    (hstep : ∀ target, (∀ acts, Steps p.tables e below (doInvoke e ((T.setVm vm₁).setTop (F0 m pc ls rest')) acts mk as'.toArray).1 target) → Steps p.tables e below (T.setTop (F0 m pc ls st')) target)
    (hnamed : s.methodNamed? (q_nm M') = some mk) (hcd : q_code M' s mk) (hpl : plainFor (q_nm M') = true) (hownM : (q_nm M').cls = q_own M')
    (k1 : ∀ v h' n', P (.inl v) h' n' → q_A Sc M (pc + 3) L (v.toList ++ rest) h' n' (kc - kc1) (ks - ks1) Q)
    (k2 : ∀ x h' n', P (.inr x) h' n' → q_Th Sc M pc L h' n' (kc - kc1) (ks - ks1) Q x) :
    ∃ t, Steps p.tables e below (T.setTop (F0 m pc ls st')) t ∧ q_End D dT H0 s below sb ads0 kc' ks' Q t := by
  obtain ⟨hF, hW, hL, hS, ha, g6, g7, g8, g9⟩ := hG
  obtain ⟨methk, ck, hmk, hck, hcb, hml, hrt, hlk, hex, hsg⟩ := hcd
  obtain ⟨f1, f2, f3, f4, f5, f6, f7, f8, f9, f10, f11, f12, f13, f14, f15, f16, f17⟩ := hF
  have hmk1 : (T.setVm vm₁).vm.method? mk = some methk := by rw [X₁.warmed.alike.method?]; exact hmk
  have hnm1 : (T.setVm vm₁).methodNamed? (q_nm M') = some mk := X₁.named hnamed
  have hpk : (T.setVm vm₁).plainMethod mk := State.plainMethod.of_named hpl hnm1 hmk1
  have hsum : (rest'.map fun v => v.category).sum = (rest.map fun v => v.category).sum := hS.sum
  obtain ⟨Y₀, hin⟩ := X₁.into (g := F0 m pc ls rest') rfl (by show ls.size = _; rw [hL.1, f3]) (by rw [f2]; exact hdg) as'.toArray (R' := { frames := q_fr M', cells := kc1, slots := ks1, locals := q_lo M' }) hmk1 hck hlk hpk
    (by show q_fr M' + 1 ≤ R.frames; omega) (by show 2 * 0 + (rest'.map fun v => v.category).sum + (ck.maxLocals + 11) + q_lo M' ≤ R.locals; rw [hsum, hml]; omega) (by show cells + kc1 ≤ R.cells; omega) (by show slots + ks1 ≤ R.slots; omega)
  rw [hml] at Y₀ hin
  generalize hU : ((T.setVm vm₁).setTop (F0 m pc ls rest')).pushFrame (.java (entryFrame mk as'.toArray (q_nL M'))) = U at Y₀ hin
  have hUh : U.heap = H := by rw [← hU, ← hT]; simp [State.pushFrame, State.setFrames, State.setTop, State.modifyTopJava]
  generalize hs' : (T.setVm vm₁).calling (F0 m pc ls rest') mk as'.toArray = s' at Y₀
  have hs'h : s'.heap = H := by rw [← hs', ← hT]; rfl
  have hs'v : s'.vm = vm₁ := by rw [← hs']; rfl
  have hsW : s.WarmedH s'.vm := by rw [hs'v]; exact X₁.warmed
  have hF' : q_F Sc M' D dT H0 sb p l { frames := q_fr M', cells := kc1, slots := ks1, locals := q_lo M' } s' mk methk ck := by
    refine ⟨f1, hcb, hml, hrt, hlk, ?_, q_T.moved hsW f7, va_K.moved hsW.alike f8, Nat.le_refl _, Nat.le_refl _, hex, ?_, ?_, ?_, q_X.moved hsW f15, f16, va_X.moved hsW.alike f17⟩
    · rw [hsW.alike.findClass, ← hownM]
      exact findClass_of_methodNamed hnamed
    · exact (name_of_methodNamed hnamed hmk).1
    · rw [hs'h]; exact Nat.le_trans f13 hW.2.2.2.2.1
    · intro q hq
      rw [hs'h, hW.2.2.2.2.2.1 q (Nat.lt_of_lt_of_le hq f13) (fun z => absurd z (Nat.not_le.mpr hq))]
      exact f14 q hq
  have hZ : ∀ (k : Nat) (q : Nat × va_E), ws[k]? = some q → q_Z H0 s' q.1 := fun k q hk => hW.2.2.2.1.2 k q hk
  have hW' : q_W D dT H0 s' h n sb ws H [] := ⟨hW.1, hW.2.1, hW.2.2.1, ⟨hW.2.2.2.1.1, hZ⟩, by rw [hs'h]; exact va_S.rf⟩
  have hent := lg_entry_eq mk as' (q_nL M')
  obtain ⟨t, hsteps, o, L1, h1, n1, ws1, O, b1, b2, b3, b4, b5, b6, b7, b8⟩ := hB D dT H0 p l e _ s' mk as'.toArray (.java (F0 m pc ls rest') :: below) methk ck H [] 0 0 _ [] sb ws (q_ads sb ws) kc1 ks1 ⟨hF', hW', q_L_entry hone hvs hnl, rfl, q_le.rf, by omega, by omega, Nat.le_refl _, Nat.le_refl _⟩ U hUh Y₀
  have hsteps2 : ∀ acts, Steps p.tables e below (doInvoke e ((T.setVm vm₁).setTop (F0 m pc ls rest')) acts mk as'.toArray).1 t := fun acts => by
    rw [hin acts, hent]
    exact Steps.weaken (mid := [.java (F0 m pc ls rest')]) hsteps
  have hZ2 : ∀ q, q_Z H0 s' q → q_Z H0 s q := fun q hq => hq
  have hW1 : q_W D dT H0 s h1 n1 sb ws1 t.heap (locs ++ L1) := by
    refine ⟨b6.1, b6.2.1, b6.2.2.1, ⟨b6.2.2.2.1.1, fun k q hk => hZ2 _ (b6.2.2.2.1.2 k q hk)⟩, ?_, fun q hq hn => ?_, fun q hq => ?_⟩
    · exact Nat.le_trans hW.2.2.2.2.1 (by rw [← hs'h]; exact b6.2.2.2.2.1)
    · rw [b6.2.2.2.2.2.1 q (by rw [hs'h]; exact Nat.lt_of_lt_of_le hq hW.2.2.2.2.1) (fun z => hn (hZ2 q z)), hs'h]
      exact hW.2.2.2.2.2.1 q hq hn
    · rcases List.mem_append.mp hq with z | z
      · exact hW.2.2.2.2.2.2 q z
      · exact hZ2 _ (b6.2.2.2.2.2.2 q z)
  subst hs'
  rcases O with v | x
  · have hv : ∃ v', o = .returned v' ∧ q_vs (q_ads sb ws1) v.toList v'.toList := by
      cases v with
      | none => exact ⟨none, b8, rfl⟩
      | some v =>
        obtain ⟨w, q1, q2⟩ := b8
        exact ⟨some w, q1, ⟨w, [], rfl, q2, rfl⟩⟩
    obtain ⟨v', rfl, hv'⟩ := hv
    obtain ⟨T', X', -, -, ht⟩ := X₁.outOf (g := F0 m pc ls rest') rfl (by rw [f2]; exact hdg) b2 b3 b4
    have hT' : T'.heap = t.heap := by rw [ht]; rfl
    obtain ⟨t2, a1, a2⟩ := k1 v h1 n1 b5 D dT H0 p l e R s m args below meth c t.heap (locs ++ L1) (cells + kc1) (slots + ks1) ls (v'.toList ++ rest') sb ws1 ads0 kc' ks'
      ⟨⟨f1, f2, f3, f4, f5, f6, f7, f8, f9, f10, f11, f12, f13, f14, f15, f16, f17⟩, hW1, hL.mono b7, hv'.app (hS.mono b7), ha.tr b7, by omega, by omega, g8, g9⟩ T' hT' X'
    refine ⟨t2, (hstep t hsteps2).trans ?_, a2⟩
    rw [ht]
    exact a1
  · obtain ⟨xa, cell, Xn, e1, rfl, e3, e4, e5⟩ := b8
    obtain ⟨T', X', -, -, ht⟩ := X₁.outOfThrown (g := F0 m pc ls rest') rfl b2 b3 b4
    have hT' : T'.heap = t.heap := by rw [ht]; simp [State.pushFrame, State.setFrames, State.setTop, State.modifyTopJava]
    have hTv : T'.vm = t.vm := by rw [ht]; simp [State.pushFrame, State.setFrames, State.setTop, State.modifyTopJava]
    obtain ⟨t2, a1, a2⟩ := q_thrown ⟨f1, f2, f3, f4, f5, f6, f7, f8, f9, f10, f11, f12, f13, f14, f15, f16, f17⟩ (hT' ▸ hW1) (hL.mono b7) (ha.tr b7) (by omega) (by omega) g8 g9 X' (st := rest') e1 (by rw [hT']; exact e3) (by rw [hTv]; exact e4) e5 (k2 x h1 n1 b5)
    refine ⟨t2, (hstep t hsteps2).trans ?_, a2⟩
    rw [ht]
    exact a1
end QCORE
