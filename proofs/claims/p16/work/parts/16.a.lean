theorem t_out {Sc : q_S} {M : q_M} {pc : Nat} {L : List Value} {h : q_H} {n kc ks x : Nat} {Q : q_O → q_H → Nat → Prop} (hh : q_hs M = []) (hq : Q (.inr x) h n) : q_Th Sc M pc L h n kc ks Q x := by
  unfold q_Th q_hf
  rw [hh]
  exact ⟨fun r hr => (nomatch hr), hq⟩
theorem q_chk {a : Int32} {B : Nat} (hB : B < 2 ^ 31) (h1 : ¬ a < 0) (h2 : ¬ nI B ≤ a) : ∃ g, g < B ∧ a = nI g := by
  rcases pk_ix a hB with h | h | ⟨j, h, e⟩
  · exact absurd h h1
  · exact absurd h h2
  · exact ⟨j, h, e⟩
def q_wk : List Value → List Value → Prop
  | [], _ => True
  | a :: r, b :: s => (a = b ∨ ∃ k, a = .retAddr k) ∧ q_wk r s
  | _ :: _, [] => False
theorem q_wk.at : ∀ {L' L : List Value}, q_wk L' L → ∀ {i : Nat} {v : Value}, L'[i]? = some v → (∃ k, v = .retAddr k) ∨ L[i]? = some v
  | [], _, _, i, v, h => by simp at h
  | _ :: _, _ :: _, ⟨h1, h2⟩, i, v, h => by
    cases i with
    | zero =>
      rw [List.getElem?_cons_zero] at h
      cases h
      rcases h1 with rfl | h1
      · exact Or.inr rfl
      · exact Or.inl h1
    | succ i =>
      rw [List.getElem?_cons_succ] at h
      rw [List.getElem?_cons_succ]
      exact q_wk.at h2 h
theorem q_weak {Sc : q_S} {M : q_M} {pc : Nat} {L st : List Value} {h : q_H} {n kc ks : Nat} {Q : q_O → q_H → Nat → Prop} (L' : List Value) (hw : q_wk L' L) (k : q_A Sc M pc L' st h n kc ks Q) : q_A Sc M pc L st h n kc ks Q := by
  intro D dT H0 p l e R s m args below meth c H locs cells slots ls st' sb ws ads0 kc' ks' g
  obtain ⟨hF, hW, hL, hr⟩ := g
  refine k D dT H0 p l e R s m args below meth c H locs cells slots ls st' sb ws ads0 kc' ks' ⟨hF, hW, ⟨hL.1, hL.2.1, fun i v hv => ?_⟩, hr⟩
  rcases hw.at hv with h1 | h1
  · exact Or.inl h1
  · exact hL.2.2 i v h1
theorem q_sw (x : Int32) (lo : Int) (n : Nat) (_ : n < 100) : (x.toInt < lo ∨ lo + n - 1 < x.toInt) ∨ ∃ j : Nat, j < n ∧ x.toInt = lo + j := by
  by_cases h1 : x.toInt < lo
  · exact Or.inl (Or.inl h1)
  · by_cases h2 : lo + n - 1 < x.toInt
    · exact Or.inl (Or.inr h2)
    · exact Or.inr ⟨(x.toInt - lo).toNat, by omega, by omega⟩


/-! ===== making cells, typed ===== -/
def gset (Γ : Nat → q_K) (i : Nat) (k : q_K) : Nat → q_K := fun j => if j = i then k else Γ j
theorem gs_at {Γ : Nat → q_K} {i : Nat} {k : q_K} : gset Γ i k i = k := if_pos rfl
theorem gs_ne {Γ : Nat → q_K} {i j : Nat} {k : q_K} (h : j ≠ i) : gset Γ i k j = Γ j := if_neg h
theorem gs_ok {Γ : Nat → q_K} {h : q_H} (hok : q_ok Γ h) {i : Nat} {k : q_K} {c : q_C} (hc : q_okc k c) : q_ok (gset Γ i k) (q_up h i c) := fun j => by
  by_cases hj : j = i
  · subst hj
    rw [gs_at, show q_up h j c j = c from if_pos rfl]
    exact hc
  · rw [gs_ne hj, show q_up h i c j = h j from if_neg hj]
    exact hok j
theorem gs_re {Γ : Nat → q_K} {h : q_H} {i : Nat} {k k' : q_K} (hok : q_ok (gset Γ i k) h) (hc : ∀ c, q_okc k c → q_okc k' c) : q_ok (gset Γ i k') h := fun j => by
  have h1 := hok j
  by_cases hj : j = i
  · subst hj
    rw [gs_at] at h1 ⊢
    exact hc _ h1
  · rw [gs_ne hj] at h1 ⊢
    exact h1
section QCN
variable {Sc : q_S} {M M' : q_M} {pc : Nat} {L st : List Value} {h : q_H} {n kc ks kc1 ks1 : Nat} {Q : q_O → q_H → Nat → Prop} {Γ : Nat → q_K}
variable {C : String} {T : u_T} {N ci i ix : Nat} {ty : Nat → FieldType} {ps : List (Nat × Nat)}
theorem c_newi {atype : ArrayType} {N2 : Nat} {len : Int32} (hd : decode (q_cc M) pc = .ok (.newarray atype, 2)) (hty : newarray.typeOf atype = .int) (hw : q_in (Cond.arrayClass .int)) (hn : ¬ len < 0) (hN : len.toNatClampNeg = N2) (hb : N2 ≤ 4096) (hk1 : 1 ≤ kc) (hk2 : N2 ≤ ks) (hok : q_ok Γ h)
    (kk : ∀ h', q_ok (gset Γ n (1, N2, [])) h' → q_A Sc M (pc + 2) L (.ref n :: st) h' (n + 1) (kc - 1) (ks - N2) Q) : q_A Sc M pc L (.int len :: st) h n kc ks Q :=
  q_newa (t := 0) hd hty rfl (Or.inl rfl) hw hn hN hb hk1 hk2 (kk _ (gs_ok hok ⟨_, rfl, List.length_replicate⟩))
theorem c_newz {atype : ArrayType} {N2 : Nat} {len : Int32} (hd : decode (q_cc M) pc = .ok (.newarray atype, 2)) (hty : newarray.typeOf atype = .boolean) (hw : q_in (Cond.arrayClass .boolean)) (hn : ¬ len < 0) (hN : len.toNatClampNeg = N2) (hb : N2 ≤ 4096) (hk1 : 1 ≤ kc) (hk2 : N2 ≤ ks) (hok : q_ok Γ h)
    (kk : ∀ h', q_ok (gset Γ n (2, N2, [])) h' → q_A Sc M (pc + 2) L (.ref n :: st) h' (n + 1) (kc - 1) (ks - N2) Q) : q_A Sc M pc L (.int len :: st) h n kc ks Q :=
  q_newa (t := 1) hd hty rfl (Or.inr rfl) hw hn hN hb hk1 hk2 (kk _ (gs_ok hok ⟨_, rfl, List.length_replicate⟩))
theorem c_newl {atype : ArrayType} {N2 : Nat} {len : Int32} (hd : decode (q_cc M) pc = .ok (.newarray atype, 2)) (hty : newarray.typeOf atype = .long) (hw : q_in (Cond.arrayClass .long)) (hn : ¬ len < 0) (hN : len.toNatClampNeg = N2) (hb : N2 ≤ 4096) (hk1 : 1 ≤ kc) (hk2 : N2 ≤ ks) (hok : q_ok Γ h)
    (kk : ∀ h', q_ok (gset Γ n (5, N2, [])) h' → q_A Sc M (pc + 2) L (.ref n :: st) h' (n + 1) (kc - 1) (ks - N2) Q) : q_A Sc M pc L (.int len :: st) h n kc ks Q :=
  q_newl (t := 5) hd hty rfl hw hn hN hb hk1 hk2 (kk _ (gs_ok hok ⟨_, rfl, List.length_replicate⟩))
theorem c_rep (N2 : Nat) : List.replicate N2 (none : Option Nat) = (List.replicate N2 ((0, 0) : Nat × Nat)).map (fun p => if p.1 = 1 then some p.2 else none) := by
  rw [List.map_replicate]
  rfl
theorem c_newq {t N2 : Nat} {len : Int32} (hd : decode (q_cc M) pc = .ok (.anewarray ix, 3)) (ht : q_ty[t]? = some (.object C)) (hw1 : q_in (Cond.classLink (q_own M) ix C)) (hw2 : q_in (Cond.arrayOver (.object C))) (hn : ¬ len < 0) (hN : len.toNatClampNeg = N2) (hb : N2 ≤ 4096) (hk1 : 1 ≤ kc) (hk2 : N2 ≤ ks) (hok : q_ok Γ h)
    (kk : ∀ h', q_ok (gset Γ n (6, t, List.replicate N2 (0, 0))) h' → q_A Sc M (pc + 3) L (.ref n :: st) h' (n + 1) (kc - 1) (ks - N2) Q) : q_A Sc M pc L (.int len :: st) h n kc ks Q :=
  q_newq hd ht hw1 hw2 hn hN hb hk1 hk2 (kk _ (gs_ok hok (by show _ = _; rw [c_rep])))
theorem c_new {fs : List Value} (ps : List (Nat × Nat)) (hC : q_cls ci C T N ty) (hw1 : q_in (Cond.classLink (q_own M) ix C)) (hw2 : q_in (Cond.instantiable C N)) (hw3 : q_in (Cond.initialized C)) (hd : decode (q_cc M) pc = .ok (.new ix, 3)) (hfs : ∀ j, j < N → defaultValue (ty j) = vp_V fs j) (hfv : ∀ ads, q_vs ads fs fs) (hm : q_fm ps fs) (hk1 : 1 ≤ kc) (hk2 : N ≤ ks) (hok : q_ok Γ h)
    (kk : ∀ h', q_ok (gset Γ n (4, ci, ps)) h' → q_A Sc M (pc + 3) L (.ref n :: st) h' (n + 1) (kc - 1) (ks - N) Q) : q_A Sc M pc L st h n kc ks Q :=
  q_new hC hw1 hw2 hw3 hd hfs hfv hk1 hk2 (kk _ (gs_ok hok ⟨_, rfl, hm⟩))
/-- a reference or a number into a field of an object under way -/
theorem c_put (k : Nat) {v : Value} {p : Nat × Nat} (hC : q_cls ci C T N ty) (hk : k < N) (hw : q_in (Cond.fieldLink (q_own M) ix (T k).1 (T k).2.1 (T k).2.2.1)) (hfin : (T k).2.2.2 = false ∨ ((T k).2.2.2 = true ∧ (q_nm M).name = "<init>" ∧ (T k).1 = q_own M)) (hd : decode (q_cc M) pc = .ok (.putfield ix, 3)) (hok : q_ok Γ h) (hg : Γ i = (4, ci, ps)) (hl : k < ps.length) (hv : q_fit (ty k) v) (hp : q_f1 p v)
    (kk : ∀ h', q_ok (gset Γ i (4, ci, ps.set k p)) h' → q_A Sc M (pc + 3) L st h' n kc ks Q) : q_A Sc M pc L (v :: .ref i :: st) h n kc ks Q := by
  obtain ⟨fs, h1, h2⟩ := hok.o hg
  have hl2 : k < fs.length := by rw [h2.len]; exact hl
  have h4 := kk _ (gs_ok hok (i := i) (c := .inl (ci, fs.set k v)) ⟨_, rfl, h2.set hp⟩)
  rcases hfin with hfin | ⟨hfin, h5, h6⟩
  · exact q_put hC k rfl hk hw hfin hd h1 hl2 hv h4
  · exact q_putF hC k rfl hk hw hfin h5 h6 hd h1 hl2 hv h4
theorem c_aast {i2 t : Nat} {j : Int32} {ps2 : List (Nat × Nat)} (hC : q_cls ci C T N ty) (hd : decode (q_cc M) pc = .ok (.aastore, 1)) (hok : q_ok Γ h) (hg : Γ i = (6, t, ps)) (ht : q_ty[t]? = some (.object C)) (hg2 : Γ i2 = (4, ci, ps2)) (hj : vp_in j ps.length)
    (kk : ∀ h', q_ok (gset Γ i (6, t, ps.set j.toNatClampNeg (1, i2))) h' → q_A Sc M (pc + 1) L st h' n kc ks Q) : q_A Sc M pc L (.ref i2 :: .int j :: .ref i :: st) h n kc ks Q := by
  obtain ⟨fs, h1, -⟩ := hok.o hg2
  have h2 : h i = .inr (.inr (.inl (t, ps.map (fun p => if p.1 = 1 then some p.2 else none)))) := by
    have := hok i
    rw [hg] at this
    exact this
  refine q_aast hC hd h2 ht h1 (by rw [List.length_map]; exact hj) (kk _ (gs_ok hok ?_))
  show _ = _
  rw [List.map_set]
  rfl
/-- a call of a constructor -/
theorem c_callI (vs rest : List Value) {P : q_O → q_H → Nat → Prop} (hd : decode (q_cc M) pc = .ok (.invokespecial ix, 3)) (hw1 : q_sl2 (q_own M) ix (q_nm M')) (hw2 : q_in (Cond.instanceMethod (q_nm M'))) (hcw : q_in (Cond.code (q_nm M') (q_cc M') (q_nL M') none)) (hrt : q_rt M' = none) (hhs : q_hs M' = []) (hname : (q_nm M').name = "<init>") (hmk : q_mok M' vs.length) (hst : st = vs.reverse ++ .ref i :: rest)
    (hB : q_A Sc M' 0 (q_L0 M' (.ref i :: vs)) [] h n kc1 ks1 P) (hk1 : kc1 ≤ kc) (hk2 : ks1 ≤ ks) (hfr : q_fr M' + 1 ≤ q_fr M) (hlo : (rest.map fun v => v.category).sum + (q_nL M' + 11) + q_lo M' ≤ q_lo M) (hnl : (Value.ref i :: vs).length ≤ q_nL M') (hone : q_one vs = true) (hP : ∀ O h' n', P O h' n' → O = .inl none)
    (k1 : ∀ h' n', P (.inl none) h' n' → q_A Sc M (pc + 3) L rest h' n' (kc - kc1) (ks - ks1) Q) : q_A Sc M pc L st h n kc ks Q := by
  have e1 : ∀ v h' n', P (.inl v) h' n' → q_A Sc M (pc + 3) L (v.toList ++ rest) h' n' (kc - kc1) (ks - ks1) Q := fun v h' n' hp => by
    have := Sum.inl.inj (hP _ _ _ hp)
    subst this
    exact k1 h' n' hp
  have e2 : ∀ x h' n', P (.inr x) h' n' → q_Th Sc M pc L h' n' (kc - kc1) (ks - ks1) Q x := fun x h' n' hp => by cases hP _ _ _ hp
  rcases hw1 with hw1 | ⟨host, hw1⟩
  · exact q_callI vs rest hd hw1 hw2 hcw hrt hhs hname hmk hst hB hk1 hk2 hfr hlo hnl hone e1 e2
  · exact q_callIN vs rest hd hw1 hw2 hcw hrt hhs hname hmk hst hB hk1 hk2 hfr hlo hnl hone e1 e2
end QCN

