section QX
variable {Sc : q_S} {M : q_M} {pc : Nat} {L st : List Value} {h : q_H} {n kc ks : Nat} {Q : q_O → q_H → Nat → Prop}
theorem q_L.flt {ads : List Nat} {nL : Nat} {L : List Value} {ls : Array Slot} (h : q_L ads nL L ls) {i : Nat} {b : UInt32} (hi : L[i]? = some (.float b)) : ∃ a, (b = 1 → ads[0]? = some a) ∧ ls[i]? = some (.val (.ref a)) := by
  rcases h.2.2 i _ hi with ⟨k, e⟩ | ⟨w, ⟨a, h1, h3⟩, -, h2⟩
  · cases e
  · exact ⟨a, h3, by rw [h2, h1]⟩
theorem q_aload_n_x {j : Fin 4} {b : UInt32} (hd : decode (q_cc M) pc = .ok (.aload_n j, 1)) (hl : L[(j : Nat)]? = some (.float b)) (k : q_A Sc M (pc + 1) L (.float b :: st) h n kc ks Q) : q_A Sc M pc L st h n kc ks Q := by
  intro D dT H0 p l e R s m args below meth c H locs cells slots ls st' sb ws ads0 kc' ks' g
  obtain ⟨hF, hW, hL, hS, hr⟩ := g
  obtain ⟨a, h1, h2⟩ := hL.flt hl
  exact lv_aload_n hF.1 hF.2.1 hd rfl h2 (k D dT H0 p l e R s m args below meth c H locs cells slots ls _ sb ws ads0 kc' ks' ⟨hF, hW, hL, ⟨_, _, rfl, ⟨a, rfl, h1⟩, hS⟩, hr⟩)
theorem q_sld {j : Int32} (hd : decode (q_cc M) pc = .ok (.iaload, 1)) (hj : vp_in j Sc.1) (k : q_A Sc M (pc + 1) L (.int (Sc.2 j.toNatClampNeg) :: st) h n kc ks Q) : q_A Sc M pc L (.int j :: .float 1 :: st) h n kc ks Q := by
  intro D dT H0 p l e R s m args below meth c H locs cells slots ls st' sb ws ads0 kc' ks' g
  obtain ⟨hF, hW, hL, ⟨_, _, rfl, rfl, _, _, rfl, ⟨b, rfl, hb⟩, hS⟩, hr⟩ := g
  have hb2 : sb = b := Option.some.inj (hb rfl)
  subst hb2
  obtain ⟨f1, f2, f3, f4, f5, f6, f7, f8, f9, f10, f11, f12, f13, f14, f15, f16, f17⟩ := id hF
  exact va_sld f1 f2 (f17.kept (f14 sb f16)) (Nat.lt_of_lt_of_le f16 f13) (Nat.not_le.mpr f16) hW.2.2.2.2 hj hd (k D dT H0 p l e R s m args below meth c H locs cells slots ls _ sb ws ads0 kc' ks' ⟨hF, hW, hL, ⟨_, _, rfl, rfl, hS⟩, hr⟩)
theorem q_slen (hd : decode (q_cc M) pc = .ok (.arraylength, 1)) (k : q_A Sc M (pc + 1) L (.int (nI Sc.1) :: st) h n kc ks Q) : q_A Sc M pc L (.float 1 :: st) h n kc ks Q := by
  intro D dT H0 p l e R s m args below meth c H locs cells slots ls st' sb ws ads0 kc' ks' g
  obtain ⟨hF, hW, hL, ⟨_, _, rfl, ⟨b, rfl, hb⟩, hS⟩, hr⟩ := g
  have hb2 : sb = b := Option.some.inj (hb rfl)
  subst hb2
  obtain ⟨f1, f2, f3, f4, f5, f6, f7, f8, f9, f10, f11, f12, f13, f14, f15, f16, f17⟩ := id hF
  exact va_slen f1 f2 (f17.kept (f14 sb f16)) (Nat.lt_of_lt_of_le f16 f13) (Nat.not_le.mpr f16) hW.2.2.2.2 hd (k D dT H0 p l e R s m args below meth c H locs cells slots ls _ sb ws ads0 kc' ks' ⟨hF, hW, hL, ⟨_, _, rfl, rfl, hS⟩, hr⟩)
theorem q_lald {i t : Nat} {j : Int32} {a : List Int64} (hd : decode (q_cc M) pc = .ok (.laload, 1)) (hh : h i = .inr (.inr (.inr (t, a)))) (ht : q_ty[t]? = some .long) (hj : vp_in j a.length) (kk : q_A Sc M (pc + 1) L (.long (a.getD j.toNatClampNeg 0) :: st) h n kc ks Q) : q_A Sc M pc L (.int j :: .ref i :: st) h n kc ks Q := by
  intro D dT H0 p l e R s m args below meth c H locs cells slots ls st' sb ws ads0 kc' ks' g
  obtain ⟨hF, hW, hL, ⟨_, _, rfl, rfl, _, _, rfl, ⟨b, ha, rfl⟩, hS⟩, hr⟩ := g
  obtain ⟨hi, e0, h1, h2⟩ := hW.look ha
  rw [hh] at h2
  subst h2
  exact va_lald hF.1 hF.2.1 hF.2.2.2.2.2.2.2.1 hW.2.2.1 i t h1 (q_tys_at ht) hj hd (kk D dT H0 p l e R s m args below meth c H locs cells slots ls _ sb ws ads0 kc' ks' ⟨hF, hW, hL, ⟨_, _, rfl, rfl, hS⟩, hr⟩)
theorem q_upd_listL {a : List Int64} {j : Nat} (hj : j < a.length) (x : Int64) : vp_updL (fun q => a.getD q 0) j x = fun q => (a.set j x).getD q 0 := by
  funext q
  unfold vp_updL
  by_cases hq : q = j
  · subst hq
    rw [if_pos rfl, List.getD_eq_getElem?_getD, List.getElem?_set_self hj]
    rfl
  · rw [if_neg hq]
    show a.getD q 0 = (a.set j x).getD q 0
    rw [List.getD_eq_getElem?_getD, List.getD_eq_getElem?_getD, List.getElem?_set_ne (Ne.symm hq)]
theorem q_last {i t : Nat} {j : Int32} {x : Int64} {a : List Int64} (hd : decode (q_cc M) pc = .ok (.lastore, 1)) (hh : h i = .inr (.inr (.inr (t, a)))) (ht : q_ty[t]? = some .long) (hj : vp_in j a.length) (kk : q_A Sc M (pc + 1) L st (q_up h i (.inr (.inr (.inr (t, a.set j.toNatClampNeg x))))) n kc ks Q) : q_A Sc M pc L (.long x :: .int j :: .ref i :: st) h n kc ks Q := by
  intro D dT H0 p l e R s m args below meth c H locs cells slots ls st' sb ws ads0 kc' ks' g
  obtain ⟨hF, hW, hL, ⟨_, _, rfl, rfl, _, _, rfl, rfl, _, _, rfl, ⟨b, ha, rfl⟩, hS⟩, hr⟩ := g
  obtain ⟨hi, e0, h1, h2⟩ := hW.look ha
  rw [hh] at h2
  subst h2
  have hlt : j.toNatClampNeg < a.length := Nat.not_le.mp fun q => hj (Or.inr q)
  refine va_last hF.1 hF.2.1 hF.2.2.2.2.2.2.2.1 hW.2.2.1 hW.2.2.2.1 hW.2.2.2.2 i t h1 (q_tys_at ht) hj hd (fun H1 locs1 p1 p2 p3 => ?_)
  rw [q_upd_listL hlt] at p1 p2
  have hW1 := hW.upd h1 (c := .inr (.inr (.inr (t, a.set j.toNatClampNeg x)))) (by show _ = _; rw [List.length_set]) p1 p2 p3
  have he := q_ads_set (sb := sb) (e' := (.inl (dT t, a.length, .inr (.inl (fun q => (a.set j.toNatClampNeg x).getD q 0))))) h1
  exact kk D dT H0 p l e R s m args below meth c H1 locs1 cells slots ls _ sb _ ads0 kc' ks' ⟨hF, hW1, by rw [he]; exact hL, by rw [he]; exact hS, by rw [he]; exact hr⟩
theorem q_rep_listL (N : Nat) : (fun q => (List.replicate N (0 : Int64)).getD q 0) = fun _ => (0 : Int64) := by
  funext q
  rw [List.getD_eq_getElem?_getD, List.getElem?_replicate]
  split <;> rfl
theorem q_newl {atype : ArrayType} {t N : Nat} {len : Int32} (hd : decode (q_cc M) pc = .ok (.newarray atype, 2)) (hty : newarray.typeOf atype = .long) (ht : q_ty[t]? = some .long) (hw : q_in (Cond.arrayClass .long)) (hn : ¬ len < 0) (hN : len.toNatClampNeg = N) (hb : N ≤ 4096) (hk1 : 1 ≤ kc) (hk2 : N ≤ ks)
    (kk : q_A Sc M (pc + 2) L (.ref n :: st) (q_up h n (.inr (.inr (.inr (t, List.replicate N 0))))) (n + 1) (kc - 1) (ks - N) Q) : q_A Sc M pc L (.int len :: st) h n kc ks Q := by
  intro D dT H0 p l e R s m args below meth c H locs cells slots ls st' sb ws ads0 kc' ks' g
  obtain ⟨hF, hW, hL, ⟨_, _, rfl, rfl, hS⟩, ha, g6, g7, g8, g9⟩ := g
  have hT := hF.2.2.2.2.2.2.1
  have hK := hF.2.2.2.2.2.2.2.1
  refine va_newa (a0 := (N, .inr (.inl (fun _ => 0)))) hF.1 hF.2.1 (by rw [hty]; exact hT.at hw args) hty hK hW.2.2.1 hW.2.2.2.1 hW.2.2.2.2 (q_Z_new hF.2.2.2.2.2.2.2.2.2.2.2.2.1) (fun cA => rfl) hn hN (by simp [componentBytes]; omega) (by omega) (by omega) hd (fun q cA H1 k1 p1 p2 p3 => ?_)
  have hcA : cA = dT t := by
    have r1 := (hK.2 t _ (q_tys_at ht)).2
    have r2 := (k1.2 (q_tys dT).length (cA, .long) (by rw [List.getElem?_append_right (Nat.le_refl _), Nat.sub_self]; rfl)).2
    exact Option.some.inj ((show s.vm.findClass _ = some cA from r2).symm.trans r1)
  subst hcA
  have hW1 := hW.push (c := .inr (.inr (.inr (t, List.replicate N 0)))) (by show _ = _; rw [List.length_replicate, q_rep_listL]) p1 p2 p3
  exact kk D dT H0 p l e R s m args below meth c H1 locs (cells + 1) (slots + N) ls _ sb _ ads0 kc' ks' ⟨hF, hW1, hL.mono q_ads_push, ⟨_, _, rfl, ⟨q, q_at_end hW.1, rfl⟩, hS.mono q_ads_push⟩, ha.tr q_ads_push, by omega, by omega, g8, g9⟩
theorem q_throw {ik is ic x : Nat} {cls text : String} {names : List String} (hown : q_own M = "GroupFilters") (hx : (x = 0 ∧ cls = "java/lang/IndexOutOfBoundsException" ∧ is = 147 ∧ text = q_tx0) ∨ (x = 1 ∧ cls = "java/lang/IllegalArgumentException" ∧ is = 154 ∧ text = q_tx1))
    (hcls : Bundle.fit cls = true) (hnames : ∀ n ∈ names, Bundle.fit n = true) (hw1 : q_in (Cond.classLink "GroupFilters" ik cls)) (hw2 : q_in (Cond.initialized cls)) (hat : ∀ w ∈ vx_atS "GroupFilters" ic cls names, q_in w) (hgood : ∀ w ∈ Cond.classLink "GroupFilters" ik cls :: Cond.initialized cls :: vx_atS "GroupFilters" ic cls names, vx_ot w = true)
    (d0 : decode (q_cc M) pc = .ok (.new ik, 3)) (d3 : decode (q_cc M) (pc + 3) = .ok (.dup, 1)) (d4 : decode (q_cc M) (pc + 4) = .ok (.ldc is, 2)) (d6 : decode (q_cc M) (pc + 6) = .ok (.invokespecial ic, 3)) (d9 : decode (q_cc M) (pc + 9) = .ok (.athrow, 1))
    (hhs : q_hs M = []) (hfr : names.length + 3 < q_fr M) (hlo : (st.map fun v => v.category).sum + (13 * (names.length + 1) + 43) ≤ q_lo M) (hk1 : 1 ≤ kc) (hk2 : 6 ≤ ks) (hq : Q (.inr x) h n) : q_A Sc M pc L st h n kc ks Q := by
  intro D dT H0 p l e R s m args below meth c H locs cells slots ls st' sb ws ads0 kc' ks' g
  obtain ⟨hF, hW, hL, hS, ha, g6, g7, g8, g9⟩ := g
  obtain ⟨f1, f2, f3, f4, f5, f6, f7, f8, f9, f10, f11, f12, f13, f14, f15, f16, f17⟩ := id hF
  obtain ⟨x1, x2, x3, x4, x5, -⟩ := f15
  have hown' : s.vm.findClass "GroupFilters" = some m.cls := by rw [← hown]; exact f6
  have hout : ∀ y ∈ c.exceptionTable.toList, covers y (pc + 9) = false := fun y hy => by
    have h1 : q_row y ∈ q_hs M := by rw [← f11]; exact List.mem_map.mpr ⟨y, hy, rfl⟩
    rw [hhs] at h1
    cases h1
  have hstr : ∃ sa, vk_R "GroupFilters" is text sa s := by
    rcases hx with ⟨-, -, rfl, rfl⟩ | ⟨-, -, rfl, rfl⟩
    · exact x4
    · exact x5
  obtain ⟨sa, hstr⟩ := hstr
  have hsum := hS.sum
  have hkU : ∀ a : Nat, a < H0.size → ¬ (fun q => H0.size ≤ q) a → s.heap[a]? = H0[a]? := fun a h1 _ => f14 a h1
  refine q_Wmono ?_ (vx_throwS (Qc := fun _ _ _ _ => False) (XC := fun E _ t => E = cls ∧ H.size ≤ t.heap.size ∧ ∀ q : Nat, q < H.size → t.heap[q]? = H[q]?) (free := q_Z H0 s) (mc := kc') (ms := ks') (A := fun q => H0.size ≤ q) f1 f2 x1 hown' hcls hnames (f7.at hw1 args) (f7.at hw2 args) hstr (fun w hw => f7.at (hat w hw) args) hgood (x2.kept hkU) (x3.kept hkU) hW.2.2.2.2 (hL.1.trans f3.symm)
    d0 d3 d4 d6 d9 hout (by omega) (by rw [hsum]; omega) (by omega) (by omega) f5 (fun t _ h1 h2 => ⟨rfl, h1, h2⟩) hW.2.2.2.2.2.2 (by omega) (by omega))
  rintro t ⟨o, b1, b2, ⟨b3, -⟩ | ⟨q, rfl, E, ce, L', ⟨rfl, c1, c2⟩, c3, c4, c5, c6, c7, c8⟩⟩
  · exact b3.elim
  · refine ⟨_, L', h, n, ws, .inr x, b1, b2, c6, c7, hq, ⟨hW.1, hW.2.1, hW.2.2.1.kept (fun k y hy => c2 _ (hW.2.2.1 k y hy).lt), hW.2.2.2.1, Nat.le_trans hW.2.2.2.2.1 c1, fun q h1 h2 => ?_, c8⟩, ha, ⟨q, ce, E, ?_, rfl, c3, by rw [c6.alike.findClass]; exact c5, c4⟩⟩
    · rw [c2 q (Nat.lt_of_lt_of_le h1 hW.2.2.2.2.1)]
      exact hW.2.2.2.2.2.1 q h1 h2
    · rcases hx with ⟨rfl, rfl, -⟩ | ⟨rfl, rfl, -⟩ <;> rfl
end QX
