/-- a method's code word -/
def q_inC (M : q_M) : Prop := (q_hs M = [] ∧ q_in (Cond.code (q_nm M) (q_cc M) (q_nL M) (q_rt M))) ∨ q_in (Cond.codeWith (q_nm M) (q_cc M) (q_nL M) (q_rt M) (q_hs M))
def q_mok (M : q_M) (k : Nat) : Prop := plainFor (q_nm M) = true ∧ (q_nm M).cls = q_own M ∧ ((q_nm M).cls ≠ "java/lang/invoke/MethodHandle" ∧ (q_nm M).cls ≠ "java/lang/invoke/VarHandle") ∧ (parseMethodDescriptor (q_nm M).desc).map (fun d => d.parameters.length) = some k
theorem q_code_at {M : q_M} {s : State} (hT : q_T s) (h : q_inC M) : ∃ mk, s.methodNamed? (q_nm M) = some mk ∧ q_code M s mk := by
  rcases h with ⟨hh, h⟩ | h
  · have hc := hT.at h #[]
    obtain ⟨mk, hn⟩ := Cond.code_named hc
    exact ⟨mk, hn, q_code_of hn hh hc⟩
  · obtain ⟨mk, meth, c, hn, h1, h2, h3, h4, h5, h6, h7, h8⟩ := Cond.codeWith_spec (hT.at h #[])
    exact ⟨mk, hn, meth, c, h1, h2, h3, h4, h6, h7, h5, h8⟩
theorem q_plen {M : q_M} {k : Nat} (h : q_mok M k) {sig : MethodDescriptor} (hs : parseMethodDescriptor (q_nm M).desc = some sig) : k = sig.parameters.length := by
  have h2 := h.2.2.2
  rw [hs] at h2
  exact (Option.some.inj h2).symm
section QCALL
variable {Sc : q_S} {M M' : q_M} {pc : Nat} {L st : List Value} {h : q_H} {n kc ks kc1 ks1 : Nat} {Q P : q_O → q_H → Nat → Prop}
theorem q_callS {ix : Nat} (vs rest : List Value) (hd : decode (q_cc M) pc = .ok (.invokestatic ix, 3)) (hw1 : q_in (Cond.methodLink (q_own M) ix (q_nm M'))) (hw2 : q_in (Cond.static (q_nm M'))) (hw3 : q_in (Cond.initialized (q_nm M').cls)) (hcd : q_inC M') (hok : q_mok M' vs.length) (hst : st = vs.reverse ++ rest)
    (hB : q_A Sc M' 0 (q_L0 M' vs) [] h n kc1 ks1 P) (hk1 : kc1 ≤ kc) (hk2 : ks1 ≤ ks) (hfr : q_fr M' + 1 ≤ q_fr M) (hlo : (rest.map fun v => v.category).sum + (q_nL M' + 11) + q_lo M' ≤ q_lo M) (hnl : vs.length ≤ q_nL M') (hone : q_one vs = true)
    (k1 : ∀ v h' n', P (.inl v) h' n' → q_A Sc M (pc + 3) L (v.toList ++ rest) h' n' (kc - kc1) (ks - ks1) Q)
    (k2 : ∀ x h' n', P (.inr x) h' n' → q_Th Sc M pc L h' n' (kc - kc1) (ks - ks1) Q x) : q_A Sc M pc L st h n kc ks Q := by
  intro D dT H0 p l e R s m args below meth c H locs cells slots ls st' sb ws ads0 kc' ks' g T hT X
  obtain ⟨hF, hW, hL, hS, hr⟩ := g
  subst hst
  obtain ⟨as', rest', rfl, h1, h2⟩ := hS.split
  have hvs : q_vs (q_ads sb ws) vs as'.reverse := by
    have := h1.rev
    rwa [List.reverse_reverse] at this
  have hTb := hF.2.2.2.2.2.2.1
  obtain ⟨mk, hn, hcode⟩ := q_code_at hTb hcd
  obtain ⟨methM, cM, hmM, q2, q3, q4, q5, q6, q7, hsig⟩ := id hcode
  have hstatic : methM.isStatic = true := Cond.static_spec hn hmM (hTb.at hw2 args)
  obtain ⟨kP, hkP, -⟩ := className_of_methodNamed hn
  have hinitP : kP.init = .initialized := Cond.initialized_spec (findClass_of_methodNamed hn) hkP (hTb.at hw3 args)
  obtain ⟨vm₁, X₁, hstep₁⟩ := X.invokestatic hF.1 hF.2.2.2.2.2.1 (hTb.at hw1 args) hn hmM hstatic hkP hinitP hok.2.2.1 (g := F0 m pc ls (as' ++ rest')) rfl (argsL := as'.reverse) (rest := rest') (by rw [hvs.len]; exact q_plen hok hsig) (by rw [List.reverse_reverse]) (by rw [hF.2.1]; exact hd)
  exact q_core ⟨hF, hW, hL, h2, hr⟩ hvs hB hk1 hk2 hfr hlo hnl hone hd hT X X₁ hstep₁ hn hcode hok.1 hok.2.1 k1 k2
theorem q_callSN {ix : Nat} {host : String} (vs rest : List Value) (hd : decode (q_cc M) pc = .ok (.invokestatic ix, 3)) (hw1 : q_in (Cond.methodLinkNest (q_own M) ix (q_nm M') host)) (hw2 : q_in (Cond.static (q_nm M'))) (hw3 : q_in (Cond.initialized (q_nm M').cls)) (hcd : q_inC M') (hok : q_mok M' vs.length) (hst : st = vs.reverse ++ rest)
    (hB : q_A Sc M' 0 (q_L0 M' vs) [] h n kc1 ks1 P) (hk1 : kc1 ≤ kc) (hk2 : ks1 ≤ ks) (hfr : q_fr M' + 1 ≤ q_fr M) (hlo : (rest.map fun v => v.category).sum + (q_nL M' + 11) + q_lo M' ≤ q_lo M) (hnl : vs.length ≤ q_nL M') (hone : q_one vs = true)
    (k1 : ∀ v h' n', P (.inl v) h' n' → q_A Sc M (pc + 3) L (v.toList ++ rest) h' n' (kc - kc1) (ks - ks1) Q)
    (k2 : ∀ x h' n', P (.inr x) h' n' → q_Th Sc M pc L h' n' (kc - kc1) (ks - ks1) Q x) : q_A Sc M pc L st h n kc ks Q := by
  intro D dT H0 p l e R s m args below meth c H locs cells slots ls st' sb ws ads0 kc' ks' g T hT X
  obtain ⟨hF, hW, hL, hS, hr⟩ := g
  subst hst
  obtain ⟨as', rest', rfl, h1, h2⟩ := hS.split
  have hvs : q_vs (q_ads sb ws) vs as'.reverse := by
    have := h1.rev
    rwa [List.reverse_reverse] at this
  have hTb := hF.2.2.2.2.2.2.1
  obtain ⟨mk, hn, hcode⟩ := q_code_at hTb hcd
  obtain ⟨methM, cM, hmM, q2, q3, q4, q5, q6, q7, hsig⟩ := id hcode
  have hstatic : methM.isStatic = true := Cond.static_spec hn hmM (hTb.at hw2 args)
  obtain ⟨kP, hkP, -⟩ := className_of_methodNamed hn
  have hinitP : kP.init = .initialized := Cond.initialized_spec (findClass_of_methodNamed hn) hkP (hTb.at hw3 args)
  obtain ⟨vm₁, X₁, hstep₁⟩ := X.invokestaticNest hF.1 hF.2.2.2.2.2.1 (hTb.at hw1 args) hn hmM hstatic hkP hinitP hok.2.2.1 (g := F0 m pc ls (as' ++ rest')) rfl (argsL := as'.reverse) (rest := rest') (by rw [hvs.len]; exact q_plen hok hsig) (by rw [List.reverse_reverse]) (by rw [hF.2.1]; exact hd)
  exact q_core ⟨hF, hW, hL, h2, hr⟩ hvs hB hk1 hk2 hfr hlo hnl hone hd hT X X₁ hstep₁ hn hcode hok.1 hok.2.1 k1 k2
theorem q_callV {ix i ci N : Nat} {C : String} {T0 : u_T} {ty : Nat → FieldType} {fs : List Value} (vs rest : List Value) (hC : q_cls ci C T0 N ty) (hd : decode (q_cc M) pc = .ok (.invokevirtual ix, 3)) (hw1 : q_in (Cond.methodLink (q_own M) ix (q_nm M'))) (hw2 : q_in (Cond.instanceMethod (q_nm M'))) (hw3 : q_in (Cond.selects C (q_nm M') (q_nm M'))) (hcd : q_inC M') (hok : q_mok M' vs.length) (hst : st = vs.reverse ++ .ref i :: rest) (hh : h i = .inl (ci, fs))
    (hB : q_A Sc M' 0 (q_L0 M' (.ref i :: vs)) [] h n kc1 ks1 P) (hk1 : kc1 ≤ kc) (hk2 : ks1 ≤ ks) (hfr : q_fr M' + 1 ≤ q_fr M) (hlo : (rest.map fun v => v.category).sum + (q_nL M' + 11) + q_lo M' ≤ q_lo M) (hnl : (Value.ref i :: vs).length ≤ q_nL M') (hone : q_one vs = true)
    (k1 : ∀ v h' n', P (.inl v) h' n' → q_A Sc M (pc + 3) L (v.toList ++ rest) h' n' (kc - kc1) (ks - ks1) Q)
    (k2 : ∀ x h' n', P (.inr x) h' n' → q_Th Sc M pc L h' n' (kc - kc1) (ks - ks1) Q x) : q_A Sc M pc L st h n kc ks Q := by
  intro D dT H0 p l e R s m args below meth c H locs cells slots ls st' sb ws ads0 kc' ks' g T hT X
  obtain ⟨hF, hW, hL, hS, hr⟩ := g
  subst hst
  obtain ⟨as', r9, rfl, h1, _, rest', rfl, ⟨b, hb, rfl⟩, h2⟩ := hS.split
  have hvs : q_vs (q_ads sb ws) vs as'.reverse := by
    have := h1.rev
    rwa [List.reverse_reverse] at this
  have hvs2 : q_vs (q_ads sb ws) (.ref i :: vs) (.ref b :: as'.reverse) := ⟨_, _, rfl, ⟨b, hb, rfl⟩, hvs⟩
  have hTb := hF.2.2.2.2.2.2.1
  obtain ⟨mk, hn, hcode⟩ := q_code_at hTb hcd
  obtain ⟨methM, cM, hmM, q2, q3, q4, q5, q6, q7, hsig⟩ := id hcode
  obtain ⟨mk2, meth2, hn2, hm2, hstM, habM⟩ := Cond.instanceMethod_spec (hTb.at hw2 args)
  cases hn.symm.trans hn2
  cases hmM.symm.trans hm2
  obtain ⟨hi, e0, h3, h4⟩ := hW.look hb
  rw [hh] at h4
  obtain ⟨gs, rfl, -⟩ := h4
  obtain ⟨cellB, hcB, hoB, hclB⟩ := va_recv hF.2.2.2.2.2.2.2.1 hW.2.2.1 hC.1 h3
  obtain ⟨c2, r2, m2, z1, z2, z3, z4, kP, hkP, hkPi⟩ := Cond.selects_spec (hTb.at hw3 args)
  cases hclB.symm.trans z1
  cases (State.methodFound?_of_named hn hok.2.2.1).symm.trans z2
  cases hn.symm.trans z3
  have hselP : selectMethod e.platform s.vm cellB.cls mk = .method mk := by rw [Launch.admits_selectMethod X.admits]; exact z4
  obtain ⟨vm₁, X₁, hstep₁⟩ := X.invokevirtual hF.1 hF.2.2.2.2.2.1 (hTb.at hw1 args) hn hmM hstM hkP hkPi hok.2.2.1 (a := b) (cell := cellB) (by rw [hT]; exact hcB)
    (fun z h => by rw [h] at hoB; cases hoB) hselP hmM habM hkP hkPi (g := F0 m pc ls (as' ++ .ref b :: rest')) rfl (argsL := as'.reverse) (rest := rest') (by rw [hvs.len]; exact q_plen hok hsig) (by rw [List.reverse_reverse]) (by rw [hF.2.1]; exact hd)
  have hone2 : q_one (.ref i :: vs) = true := by
    show (decide _ && q_one vs) = true
    rw [hone]; rfl
  exact q_core ⟨hF, hW, hL, h2, hr⟩ hvs2 hB hk1 hk2 hfr hlo hnl hone2 hd hT X X₁ hstep₁ hn hcode hok.1 hok.2.1 k1 k2
theorem q_callI {ix i : Nat} (vs rest : List Value) (hd : decode (q_cc M) pc = .ok (.invokespecial ix, 3)) (hw1 : q_in (Cond.methodLink (q_own M) ix (q_nm M'))) (hw2 : q_in (Cond.instanceMethod (q_nm M'))) (hcw : q_in (Cond.code (q_nm M') (q_cc M') (q_nL M') none)) (hrt : q_rt M' = none) (hhs : q_hs M' = []) (hname : (q_nm M').name = "<init>") (hok : q_mok M' vs.length) (hst : st = vs.reverse ++ .ref i :: rest)
    (hB : q_A Sc M' 0 (q_L0 M' (.ref i :: vs)) [] h n kc1 ks1 P) (hk1 : kc1 ≤ kc) (hk2 : ks1 ≤ ks) (hfr : q_fr M' + 1 ≤ q_fr M) (hlo : (rest.map fun v => v.category).sum + (q_nL M' + 11) + q_lo M' ≤ q_lo M) (hnl : (Value.ref i :: vs).length ≤ q_nL M') (hone : q_one vs = true)
    (k1 : ∀ v h' n', P (.inl v) h' n' → q_A Sc M (pc + 3) L (v.toList ++ rest) h' n' (kc - kc1) (ks - ks1) Q)
    (k2 : ∀ x h' n', P (.inr x) h' n' → q_Th Sc M pc L h' n' (kc - kc1) (ks - ks1) Q x) : q_A Sc M pc L st h n kc ks Q := by
  intro D dT H0 p l e R s m args below meth c H locs cells slots ls st' sb ws ads0 kc' ks' g T hT X
  obtain ⟨hF, hW, hL, hS, hr⟩ := g
  subst hst
  obtain ⟨as', r9, rfl, h1, _, rest', rfl, ⟨b, hb, rfl⟩, h2⟩ := hS.split
  have hvs : q_vs (q_ads sb ws) vs as'.reverse := by
    have := h1.rev
    rwa [List.reverse_reverse] at this
  have hvs2 : q_vs (q_ads sb ws) (.ref i :: vs) (.ref b :: as'.reverse) := ⟨_, _, rfl, ⟨b, hb, rfl⟩, hvs⟩
  have hTb := hF.2.2.2.2.2.2.1
  obtain ⟨mk, hn, hcode⟩ := q_code_at hTb (Or.inl ⟨hhs, by rw [hrt]; exact hcw⟩)
  have hpl : e.platform.magicAccessors = ({} : Platform).magicAccessors := by rw [X.admits.platform]
  obtain ⟨mk2, methM, cM, kP, vm₁, hn2, -, -, -, -, -, -, -, hW₁, hstep₁⟩ := Steps.initColdArgs (e := e) (args := args) (s := s) (U := T) X.here hF.1 X.warmed hpl hF.2.2.2.2.2.1 hname hok.2.2.1 (hTb.at hw1 args) (hTb.at hw2 args) (hTb.at hcw args) (f := F0 m pc ls (as' ++ .ref b :: rest')) rfl (argsL := as'.reverse) (rest := rest')
    (fun sig hs => by rw [hvs.len]; exact q_plen hok hs) (by rw [List.reverse_reverse]) (by rw [hF.2.1]; exact hd)
  cases hn.symm.trans hn2
  have hone2 : q_one (.ref i :: vs) = true := by
    show (decide _ && q_one vs) = true
    rw [hone]; rfl
  exact q_core ⟨hF, hW, hL, h2, hr⟩ hvs2 hB hk1 hk2 hfr hlo hnl hone2 hd hT X (X.noted hW₁) hstep₁ hn hcode hok.1 hok.2.1 k1 k2
theorem q_callIN {ix i : Nat} {host : String} (vs rest : List Value) (hd : decode (q_cc M) pc = .ok (.invokespecial ix, 3)) (hw1 : q_in (Cond.methodLinkNest (q_own M) ix (q_nm M') host)) (hw2 : q_in (Cond.instanceMethod (q_nm M'))) (hcw : q_in (Cond.code (q_nm M') (q_cc M') (q_nL M') none)) (hrt : q_rt M' = none) (hhs : q_hs M' = []) (hname : (q_nm M').name = "<init>") (hok : q_mok M' vs.length) (hst : st = vs.reverse ++ .ref i :: rest)
    (hB : q_A Sc M' 0 (q_L0 M' (.ref i :: vs)) [] h n kc1 ks1 P) (hk1 : kc1 ≤ kc) (hk2 : ks1 ≤ ks) (hfr : q_fr M' + 1 ≤ q_fr M) (hlo : (rest.map fun v => v.category).sum + (q_nL M' + 11) + q_lo M' ≤ q_lo M) (hnl : (Value.ref i :: vs).length ≤ q_nL M') (hone : q_one vs = true)
    (k1 : ∀ v h' n', P (.inl v) h' n' → q_A Sc M (pc + 3) L (v.toList ++ rest) h' n' (kc - kc1) (ks - ks1) Q)
    (k2 : ∀ x h' n', P (.inr x) h' n' → q_Th Sc M pc L h' n' (kc - kc1) (ks - ks1) Q x) : q_A Sc M pc L st h n kc ks Q := by
  intro D dT H0 p l e R s m args below meth c H locs cells slots ls st' sb ws ads0 kc' ks' g T hT X
  obtain ⟨hF, hW, hL, hS, hr⟩ := g
  subst hst
  obtain ⟨as', r9, rfl, h1, _, rest', rfl, ⟨b, hb, rfl⟩, h2⟩ := hS.split
  have hvs : q_vs (q_ads sb ws) vs as'.reverse := by
    have := h1.rev
    rwa [List.reverse_reverse] at this
  have hvs2 : q_vs (q_ads sb ws) (.ref i :: vs) (.ref b :: as'.reverse) := ⟨_, _, rfl, ⟨b, hb, rfl⟩, hvs⟩
  have hTb := hF.2.2.2.2.2.2.1
  obtain ⟨mk, hn, hcode⟩ := q_code_at hTb (Or.inl ⟨hhs, by rw [hrt]; exact hcw⟩)
  have hpl : e.platform.magicAccessors = ({} : Platform).magicAccessors := by rw [X.admits.platform]
  obtain ⟨mk2, methM, cM, kP, vm₁, hn2, -, -, -, -, -, -, -, hW₁, hstep₁⟩ := Steps.initColdArgsNest (e := e) (args := args) (s := s) (U := T) X.here hF.1 X.warmed hpl hF.2.2.2.2.2.1 hname hok.2.2.1 (hTb.at hw1 args) (hTb.at hw2 args) (hTb.at hcw args) (f := F0 m pc ls (as' ++ .ref b :: rest')) rfl (argsL := as'.reverse) (rest := rest')
    (fun sig hs => by rw [hvs.len]; exact q_plen hok hs) (by rw [List.reverse_reverse]) (by rw [hF.2.1]; exact hd)
  cases hn.symm.trans hn2
  have hone2 : q_one (.ref i :: vs) = true := by
    show (decide _ && q_one vs) = true
    rw [hone]; rfl
  exact q_core ⟨hF, hW, hL, h2, hr⟩ hvs2 hB hk1 hk2 hfr hlo hnl hone2 hd hT X (X.noted hW₁) hstep₁ hn hcode hok.1 hok.2.1 k1 k2
theorem q_obj {ix i : Nat} (hd : decode (q_cc M) pc = .ok (.invokespecial ix, 3)) (hw1 : q_in (Cond.methodLink (q_own M) ix Lib.objectInit)) (hw2 : q_in (Cond.instanceMethod Lib.objectInit)) (hw3 : q_in (Cond.code Lib.objectInit ⟨#[0xb1]⟩ 1 none)) (hf : 1 ≤ q_fr M) (hl : (st.map fun v => v.category).sum + 12 ≤ q_lo M) (k : q_A Sc M (pc + 3) L st h n kc ks Q) : q_A Sc M pc L (.ref i :: st) h n kc ks Q := by
  intro D dT H0 p l e R s m args below meth c H locs cells slots ls st' sb ws ads0 kc' ks' g
  obtain ⟨hF, hW, hL, ⟨_, rest', rfl, ⟨b, hb, rfl⟩, hS⟩, hr⟩ := g
  have hTb := hF.2.2.2.2.2.2.1
  have h9 := hF.2.2.2.2.2.2.2.2.1
  have h10 := hF.2.2.2.2.2.2.2.2.2.1
  have hsum := hS.sum
  exact W.objInit hF.1 hF.2.1 hF.2.2.2.2.2.1 (hTb.at hw1 args) (hTb.at hw2 args) (hTb.at hw3 args) (g := F0 m pc ls (.ref b :: rest')) rfl (by show ls.size = _; rw [hL.1, hF.2.2.1]) rfl hd (by omega) (by show 2 * 0 + (rest'.map fun v => v.category).sum + 12 ≤ _; rw [hsum]; omega)
    (k D dT H0 p l e R s m args below meth c H locs cells slots ls _ sb ws ads0 kc' ks' ⟨hF, hW, hL, hS, hr⟩)
end QCALL
