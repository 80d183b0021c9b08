section QM
variable {Sc : q_S} {M : q_M} {pc : Nat} {L st : List Value} {h : q_H} {n kc ks : Nat} {Q : q_O → q_H → Nat → Prop}
theorem q_rep_list (N : Nat) : (fun q => (List.replicate N (0 : Int32)).getD q 0) = fun _ => (0 : Int32) := by
  funext q
  rw [List.getD_eq_getElem?_getD, List.getElem?_replicate]
  split <;> rfl
theorem q_at_end {sb : Nat} {ws : va_W} {n q : Nat} {e : va_E} (h : ws.length = n) : (q_ads sb (ws ++ [(q, e)]))[n + 1]? = some q :=
  q_ads_at (e := e) (by rw [List.getElem?_append_right (by rw [h]; exact Nat.le_refl _), h, Nat.sub_self]; rfl)
theorem q_newa {atype : ArrayType} {ty : FieldType} {t N : Nat} {len : Int32} (hd : decode (q_cc M) pc = .ok (.newarray atype, 2)) (hty : newarray.typeOf atype = ty) (ht : q_ty[t]? = some ty) (hp : ty = .int ∨ ty = .boolean) (hw : q_in (Cond.arrayClass ty)) (hn : ¬ len < 0) (hN : len.toNatClampNeg = N) (hb : N ≤ 4096) (hk1 : 1 ≤ kc) (hk2 : N ≤ ks)
    (kk : q_A Sc M (pc + 2) L (.ref n :: st) (q_up h n (.inr (.inl (t, List.replicate N 0)))) (n + 1) (kc - 1) (ks - N) Q) : q_A Sc M pc L (.int len :: st) h n kc ks Q := by
  intro D dT H0 p l e R s m args below meth c H locs cells slots ls st' sb ws ads0 kc' ks' g
  obtain ⟨hF, hW, hL, ⟨_, _, rfl, rfl, hS⟩, ha, g6, g7, g8, g9⟩ := g
  have hT := hF.2.2.2.2.2.2.1
  have hK := hF.2.2.2.2.2.2.2.1
  refine va_newa (a0 := (N, .inl (fun _ => 0))) hF.1 hF.2.1 (by rw [hty]; exact hT.at hw args) hty hK hW.2.2.1 hW.2.2.2.1 hW.2.2.2.2 (q_Z_new hF.2.2.2.2.2.2.2.2.2.2.2.2.1) (fun cA => by rcases hp with rfl | rfl <;> rfl) hn hN (by rcases hp with rfl | rfl <;> simp [componentBytes] <;> omega) (by omega) (by omega) hd (fun q cA H1 k1 p1 p2 p3 => ?_)
  have hcA : cA = dT t := by
    have r1 := (hK.2 t _ (q_tys_at ht)).2
    have r2 := (k1.2 (q_tys dT).length (cA, ty) (by rw [List.getElem?_append_right (Nat.le_refl _), Nat.sub_self]; rfl)).2
    rcases hp with rfl | rfl
    · exact Option.some.inj ((show s.vm.findClass _ = some cA from r2).symm.trans r1)
    · exact Option.some.inj ((show s.vm.findClass _ = some cA from r2).symm.trans r1)
  subst hcA
  have hW1 := hW.push (c := .inr (.inl (t, List.replicate N 0))) (by show _ = _; rw [List.length_replicate, q_rep_list]) p1 p2 p3
  exact kk D dT H0 p l e R s m args below meth c H1 locs (cells + 1) (slots + N) ls _ sb _ ads0 kc' ks' ⟨hF, hW1, hL.mono q_ads_push, ⟨_, _, rfl, ⟨q, q_at_end hW.1, rfl⟩, hS.mono q_ads_push⟩, ha.tr q_ads_push, by omega, by omega, g8, g9⟩
theorem q_newq {C : String} {t N ix : Nat} {len : Int32} (hd : decode (q_cc M) pc = .ok (.anewarray ix, 3)) (ht : q_ty[t]? = some (.object C)) (hw1 : q_in (Cond.classLink (q_own M) ix C)) (hw2 : q_in (Cond.arrayOver (.object C))) (hn : ¬ len < 0) (hN : len.toNatClampNeg = N) (hb : N ≤ 4096) (hk1 : 1 ≤ kc) (hk2 : N ≤ ks)
    (kk : q_A Sc M (pc + 3) L (.ref n :: st) (q_up h n (.inr (.inr (.inl (t, List.replicate N none))))) (n + 1) (kc - 1) (ks - N) Q) : q_A Sc M pc L (.int len :: st) h n kc ks Q := by
  intro D dT H0 p l e R s m args below meth c H locs cells slots ls st' sb ws ads0 kc' ks' g
  obtain ⟨hF, hW, hL, ⟨_, _, rfl, rfl, hS⟩, ha, g6, g7, g8, g9⟩ := g
  have hT := hF.2.2.2.2.2.2.1
  have hK := hF.2.2.2.2.2.2.2.1
  refine va_newq hF.1 hF.2.1 hF.2.2.2.2.2.1 (hT.at hw1 args) (hT _ hw2) hK hW.2.2.1 hW.2.2.2.1 hW.2.2.2.2 (q_Z_new hF.2.2.2.2.2.2.2.2.2.2.2.2.1) hn hN (by omega) (by omega) (by omega) hd (fun q cA H1 k1 p1 p2 p3 => ?_)
  have hcA : cA = dT t := by
    obtain ⟨_, _, -, -, -, r1⟩ := (hK.2 t _ (q_tys_at ht)).2
    obtain ⟨_, _, -, -, -, r2⟩ := (k1.2 (q_tys dT).length (cA, .object C) (by rw [List.getElem?_append_right (Nat.le_refl _), Nat.sub_self]; rfl)).2
    exact Option.some.inj (r2.symm.trans r1)
  subst hcA
  have hrep : ∀ (j : Nat) (r : Option Nat), (List.replicate N (none : Option Nat))[j]? = some r → r = none := fun j r hr => by
    rw [List.getElem?_replicate] at hr
    split at hr
    · exact (Option.some.inj hr).symm
    · cases hr
  have hW1 := hW.push (c := .inr (.inr (.inl (t, List.replicate N none)))) ⟨fun _ => none, by rw [List.length_replicate], fun j r hr => Or.inl ⟨hrep j r hr, rfl⟩⟩ p1 p2 p3
  exact kk D dT H0 p l e R s m args below meth c H1 locs (cells + 1) (slots + N) ls _ sb _ ads0 kc' ks' ⟨hF, hW1, hL.mono q_ads_push, ⟨_, _, rfl, ⟨q, q_at_end hW.1, rfl⟩, hS.mono q_ads_push⟩, ha.tr q_ads_push, by omega, by omega, g8, g9⟩
theorem q_aast {C : String} {T : u_T} {N ci i i2 t : Nat} {ty : Nat → FieldType} {j : Int32} {a : List (Option Nat)} {fs : List Value} (hC : q_cls ci C T N ty) (hd : decode (q_cc M) pc = .ok (.aastore, 1)) (hh : h i = .inr (.inr (.inl (t, a)))) (ht : q_ty[t]? = some (.object C)) (hh2 : h i2 = .inl (ci, fs)) (hj : vp_in j a.length)
    (kk : q_A Sc M (pc + 1) L st (q_up h i (.inr (.inr (.inl (t, a.set j.toNatClampNeg (some i2)))))) n kc ks Q) : q_A Sc M pc L (.ref i2 :: .int j :: .ref i :: st) h n kc ks Q := by
  intro D dT H0 p l e R s m args below meth c H locs cells slots ls st' sb ws ads0 kc' ks' g
  obtain ⟨hF, hW, hL, ⟨_, _, rfl, ⟨b2, ha2, rfl⟩, _, _, rfl, rfl, _, _, rfl, ⟨b, ha, rfl⟩, hS⟩, hr⟩ := g
  obtain ⟨hi, e0, h1, h2⟩ := hW.look ha
  rw [hh] at h2
  obtain ⟨f, rfl, h3⟩ := h2
  obtain ⟨hi2, e2, h4, h5⟩ := hW.look ha2
  rw [hh2] at h5
  obtain ⟨gs, rfl, -⟩ := h5
  have hlt : j.toNatClampNeg < a.length := Nat.not_le.mp fun q => hj (Or.inr q)
  refine va_astq hF.1 hF.2.1 hF.2.2.2.2.2.2.2.1 hW.2.2.1 hW.2.2.2.1 hW.2.2.2.2 i t i2 ci h1 (q_tys_at ht) h4 hC.1 hj hd (fun H1 locs1 p1 p2 p3 => ?_)
  have hW1 := hW.upd h1 (c := .inr (.inr (.inl (t, a.set j.toNatClampNeg (some i2))))) ⟨_, by rw [List.length_set], fun q r hr => ?_⟩ p1 p2 p3
  · have he := q_ads_set (sb := sb) (e' := (.inl (dT t, a.length, .inr (.inr (.inr (.inr (va_up f j.toNatClampNeg (some b2)))))))) h1
    exact kk D dT H0 p l e R s m args below meth c H1 locs1 cells slots ls _ sb _ ads0 kc' ks' ⟨hF, hW1, by rw [he]; exact hL, by rw [he]; exact hS, by rw [he]; exact hr⟩
  · by_cases hq : j.toNatClampNeg = q
    · subst hq
      rw [List.getElem?_set_self hlt] at hr
      cases hr
      exact Or.inr ⟨i2, b2, rfl, ha2, if_pos rfl⟩
    · rw [List.getElem?_set_ne hq] at hr
      have := h3 q r hr
      rw [show va_up f j.toNatClampNeg (some b2) q = f q from if_neg (fun z => hq z.symm)]
      exact this
theorem q_Wmono {p : Program} {l : Launch} {e : Env} {R : Room} {s : State} {m : MethodId} {args : Array Value} {below : List Frame} {meth : Method} {c : Code} {H : Heap} {locs : List Loc} {cells slots : Nat} {Q1 Q2 : State → Prop} {g : JFrame} (hq : ∀ t, Q1 t → Q2 t) (k : W p l e R s m args below meth c H locs cells slots Q1 g) : W p l e R s m args below meth c H locs cells slots Q2 g := by
  intro T hT X
  obtain ⟨t, a, b⟩ := k T hT X
  exact ⟨t, a, hq t b⟩
theorem q_iret {ty : FieldType} {v : Int32} (hd : decode (q_cc M) pc = .ok (.ireturn, 1)) (hr : q_rt M = some ty) (hn : narrow ty (.int v) = .int v) (hq : Q (.inl (some (.int v))) h n) : q_A Sc M pc L [.int v] h n kc ks Q := by
  intro D dT H0 p l e R s m args below meth c H locs cells slots ls st' sb ws ads0 kc' ks' g
  obtain ⟨hF, hW, hL, ⟨_, _, rfl, rfl, rfl⟩, ha, g6, g7, g8, g9⟩ := g
  refine W.widen (k := kc') (n := ks') (by omega) (by omega) ?_
  refine q_Wmono ?_ (W.zret (Qc := fun _ _ o t => o = .returned (some (.int v)) ∧ t.heap = H) (free := q_Z H0 s) hF.1 hF.2.1 (hF.2.2.2.1.trans hr) hn (fun t ht _ => ⟨rfl, ht⟩) hW.2.2.2.2.2.2 hd hF.2.2.2.2.1)
  rintro t ⟨o, b1, b2, ⟨rfl, b4⟩, L', ⟨-, b5, b6⟩, b7⟩
  exact ⟨_, L', h, n, ws, .inl (some (.int v)), b1, b2, b5, b6, hq, ⟨hW.1, hW.2.1, by rw [b4]; exact hW.2.2.1, hW.2.2.2.1, by rw [b4]; exact ⟨hW.2.2.2.2.1, hW.2.2.2.2.2.1, b7⟩⟩, ha, ⟨_, rfl, rfl⟩⟩
theorem q_vret (hd : decode (q_cc M) pc = .ok (.return_, 1)) (hr : q_rt M = none) (hq : Q (.inl none) h n) : q_A Sc M pc L [] h n kc ks Q := by
  intro D dT H0 p l e R s m args below meth c H locs cells slots ls st' sb ws ads0 kc' ks' g
  obtain ⟨hF, hW, hL, rfl, ha, g6, g7, g8, g9⟩ := g
  refine W.widen (k := kc') (n := ks') (by omega) (by omega) ?_
  refine q_Wmono ?_ (W.vret (Qc := fun _ _ o t => o = .returned none ∧ t.heap = H) (free := q_Z H0 s) hF.1 hF.2.1 (hF.2.2.2.1.trans hr) (fun t ht _ => ⟨rfl, ht⟩) hW.2.2.2.2.2.2 hd hF.2.2.2.2.1)
  rintro t ⟨o, b1, b2, ⟨rfl, b4⟩, L', ⟨-, b5, b6⟩, b7⟩
  exact ⟨_, L', h, n, ws, .inl none, b1, b2, b5, b6, hq, ⟨hW.1, hW.2.1, by rw [b4]; exact hW.2.2.1, hW.2.2.2.1, by rw [b4]; exact ⟨hW.2.2.2.2.1, hW.2.2.2.2.2.1, b7⟩⟩, ha, rfl⟩
theorem q_aret {rt : FieldType} {i : Nat} (hd : decode (q_cc M) pc = .ok (.areturn, 1)) (hr : q_rt M = some rt) (hrt : (∃ x, rt = .object x) ∨ ∃ x, rt = .array x) (hq : Q (.inl (some (.ref i))) h n) : q_A Sc M pc L [.ref i] h n kc ks Q := by
  intro D dT H0 p l e R s m args below meth c H locs cells slots ls st' sb ws ads0 kc' ks' g
  obtain ⟨hF, hW, hL, ⟨_, _, rfl, ⟨a, ha1, rfl⟩, rfl⟩, ha, g6, g7, g8, g9⟩ := g
  refine W.widen (k := kc') (n := ks') (by omega) (by omega) ?_
  refine q_Wmono ?_ (W.aret (Qc := fun _ _ o t => o = .returned (some (.ref a)) ∧ t.heap = H) (free := q_Z H0 s) hF.1 hF.2.1 (hF.2.2.2.1.trans hr) hrt (Or.inr ⟨a, rfl⟩) (fun t ht _ => ⟨rfl, ht⟩) hW.2.2.2.2.2.2 hd hF.2.2.2.2.1)
  rintro t ⟨o, b1, b2, ⟨rfl, b4⟩, L', ⟨-, b5, b6⟩, b7⟩
  exact ⟨_, L', h, n, ws, .inl (some (.ref i)), b1, b2, b5, b6, hq, ⟨hW.1, hW.2.1, by rw [b4]; exact hW.2.2.1, hW.2.2.2.1, by rw [b4]; exact ⟨hW.2.2.2.2.1, hW.2.2.2.2.2.1, b7⟩⟩, ha, ⟨_, rfl, a, ha1, rfl⟩⟩
end QM
