/-! ===== a heap whose ints are all known: Γ says what the cells are, V i k is the int of cell i at field or place k ===== -/
def gx1 (v : Nat → Int32) : Nat → List (Nat × Nat) → List (Nat × Nat)
  | _, [] => []
  | k, p :: ps => (if p.1 = 0 then (2, q_cd (v k)) else p) :: gx1 v (k + 1) ps
def gxc (K : q_K) (v : Nat → Int32) : q_K := match K.1 with
  | 1 => (8, 0, q_rg K.2.1 v)
  | 2 => (9, 0, q_rg K.2.1 v)
  | 4 => (4, K.2.1, gx1 v 0 K.2.2)
  | 5 => (7, q_cd (v 0), [])
  | _ => K
abbrev q_V : Type := Nat → Nat → Int32
def gX (Γ : Nat → q_K) (V : q_V) : Nat → q_K := fun i => gxc (Γ i) (V i)
def vset (V : q_V) (i k : Nat) (x : Int32) : q_V := fun j => if j = i then fupd (V j) k x else V j
theorem vs_at {V : q_V} {i k : Nat} {x : Int32} : vset V i k x i k = x := by
  show (if i = i then fupd (V i) k x else V i) k = x
  rw [if_pos rfl]
  exact if_pos rfl
theorem vs_row {V : q_V} {i k : Nat} {x : Int32} : vset V i k x i = fupd (V i) k x := if_pos rfl
theorem vs_nr {V : q_V} {i j k : Nat} {x : Int32} (h : j ≠ i) : vset V i k x j = V j := if_neg h
theorem vs_nk {V : q_V} {i j k k' : Nat} {x : Int32} (h : k' ≠ k) : vset V i k x j k' = V j k' := by
  by_cases hj : j = i
  · subst hj
    rw [vs_row]
    exact if_neg h
  · rw [vs_nr hj]
theorem vs_no {V : q_V} {i j k k' : Nat} {x : Int32} (h : j ≠ i ∨ k' ≠ k) : vset V i k x j k' = V j k' := by
  rcases h with h | h
  · rw [vs_nr h]
  · exact vs_nk h
theorem gX_o {Γ : Nat → q_K} {V : q_V} {i ci : Nat} {ps : List (Nat × Nat)} (hg : Γ i = (4, ci, ps)) : gX Γ V i = (4, ci, gx1 (V i) 0 ps) := by
  unfold gX gxc
  rw [hg]
  rfl
theorem gX_i {Γ : Nat → q_K} {V : q_V} {i N : Nat} {ps : List (Nat × Nat)} (hg : Γ i = (1, N, ps)) : gX Γ V i = (8, 0, q_rg N (V i)) := by
  unfold gX gxc
  rw [hg]
  rfl
theorem gX_z {Γ : Nat → q_K} {V : q_V} {i N : Nat} {ps : List (Nat × Nat)} (hg : Γ i = (2, N, ps)) : gX Γ V i = (9, 0, q_rg N (V i)) := by
  unfold gX gxc
  rw [hg]
  rfl
theorem gX_r {Γ : Nat → q_K} {V : q_V} {i t : Nat} {ps : List (Nat × Nat)} (hg : Γ i = (3, t, ps)) : gX Γ V i = (3, t, ps) := by
  unfold gX gxc
  rw [hg]
  rfl
theorem gX_l {Γ : Nat → q_K} {V : q_V} {i N : Nat} {ps : List (Nat × Nat)} (hg : Γ i = (5, N, ps)) : gX Γ V i = (7, q_cd (V i 0), []) := by
  unfold gX gxc
  rw [hg]
  rfl
theorem gX_set {Γ : Nat → q_K} {V : q_V} {i k : Nat} {x : Int32} : gX Γ (vset V i k x) = gset (gX Γ V) i (gxc (Γ i) (fupd (V i) k x)) := by
  funext j
  by_cases hj : j = i
  · subst hj
    rw [gs_at]
    show gxc (Γ j) (vset V j k x j) = _
    rw [vs_row]
  · rw [gs_ne hj]
    show gxc (Γ j) (vset V i k x j) = gxc (Γ j) (V j)
    rw [vs_nr hj]
theorem gx1_at : ∀ {v : Nat → Int32} {ps : List (Nat × Nat)} {k0 k z : Nat}, ps[k]? = some (0, z) → (gx1 v k0 ps)[k]? = some (2, q_cd (v (k0 + k)))
  | _, [], _, _, _, h => by simp at h
  | v, p :: ps, k0, k, z, h => by
    cases k with
    | zero =>
      rw [List.getElem?_cons_zero] at h
      cases h
      rfl
    | succ k =>
      rw [List.getElem?_cons_succ] at h
      show (_ :: gx1 v (k0 + 1) ps)[k + 1]? = _
      rw [List.getElem?_cons_succ, gx1_at h, show k0 + 1 + k = k0 + (k + 1) by omega]
theorem gx1_no : ∀ {v : Nat → Int32} {ps : List (Nat × Nat)} {k0 k : Nat} {p : Nat × Nat}, ps[k]? = some p → p.1 ≠ 0 → (gx1 v k0 ps)[k]? = some p
  | _, [], _, _, _, h, _ => by simp at h
  | v, q :: ps, k0, k, p, h, hp => by
    cases k with
    | zero =>
      rw [List.getElem?_cons_zero] at h
      cases h
      show some (if q.1 = 0 then _ else q) = some q
      rw [if_neg hp]
    | succ k =>
      rw [List.getElem?_cons_succ] at h
      show (_ :: gx1 v (k0 + 1) ps)[k + 1]? = _
      rw [List.getElem?_cons_succ, gx1_no h hp]
theorem gx1_cg : ∀ {v w : Nat → Int32} {ps : List (Nat × Nat)} {k0 : Nat}, (∀ k, k0 ≤ k → v k = w k) → gx1 v k0 ps = gx1 w k0 ps
  | _, _, [], _, _ => rfl
  | v, w, p :: ps, k0, h => by
    show (if p.1 = 0 then (2, q_cd (v k0)) else p) :: gx1 v (k0 + 1) ps = (if p.1 = 0 then (2, q_cd (w k0)) else p) :: gx1 w (k0 + 1) ps
    rw [h k0 (Nat.le_refl _), gx1_cg (fun k hk => h k (by omega))]
theorem gx1_set : ∀ {v : Nat → Int32} {ps : List (Nat × Nat)} {k0 k z : Nat} {x : Int32}, ps[k]? = some (0, z) → (gx1 v k0 ps).set k (2, q_cd x) = gx1 (fupd v (k0 + k) x) k0 ps
  | _, [], _, _, _, _, h => by simp at h
  | v, p :: ps, k0, k, z, x, h => by
    cases k with
    | zero =>
      rw [List.getElem?_cons_zero] at h
      cases h
      show (2, q_cd x) :: gx1 v (k0 + 1) ps = (2, q_cd (fupd v (k0 + 0) x k0)) :: gx1 (fupd v (k0 + 0) x) (k0 + 1) ps
      rw [show fupd v (k0 + 0) x k0 = x from if_pos rfl, gx1_cg (v := v) (w := fupd v (k0 + 0) x) (fun k hk => (if_neg (by omega)).symm)]
    | succ k =>
      rw [List.getElem?_cons_succ] at h
      show (if p.1 = 0 then (2, q_cd (v k0)) else p) :: (gx1 v (k0 + 1) ps).set k (2, q_cd x) = (if p.1 = 0 then (2, q_cd (fupd v (k0 + (k + 1)) x k0)) else p) :: gx1 (fupd v (k0 + (k + 1)) x) (k0 + 1) ps
      rw [gx1_set h, show fupd v (k0 + (k + 1)) x k0 = v k0 from if_neg (by omega), show k0 + 1 + k = k0 + (k + 1) by omega]
/-- a loop that counts: d turns from k -/
def lp {σ : Type} (B : Nat → σ → σ) : Nat → Nat → σ → σ
  | 0, _, s => s
  | d + 1, k, s => lp B d (k + 1) (B k s)
/-- what a method that doesn't throw does: it ends with r, the ints are F -/
def q_fn (Sc : q_S) (Γ : Nat → q_K) (M : q_M) (vs : List Value) (n : Nat) (V : q_V) (r : Option Value) (F : q_V) : Prop := ∀ h, q_ok (gX Γ V) h → q_A Sc M 0 (q_L0 M vs) [] h n 0 0 (fun O h' n' => O = .inl r ∧ q_ok (gX Γ F) h' ∧ n' = n)
/-- one that may throw, or of which less is told -/
def q_fp (Sc : q_S) (Γ : Nat → q_K) (M : q_M) (vs : List Value) (n kc ks : Nat) (V : q_V) (P : q_O → q_V → Prop) : Prop := ∀ h, q_ok (gX Γ V) h → q_A Sc M 0 (q_L0 M vs) [] h n kc ks (fun O h' n' => ∃ F, P O F ∧ q_ok (gX Γ F) h' ∧ n' = n)
theorem q_fn.of {Sc : q_S} {Γ : Nat → q_K} {M : q_M} {vs : List Value} {n : Nat} {V : q_V} {r : Option Value} {F : q_V} (hA : ∀ (Q : q_O → q_H → Nat → Prop) (h : q_H), (∀ (O : q_O) (h' : q_H), O = .inl r → q_ok (gX Γ F) h' → Q O h' n) → q_ok (gX Γ V) h → q_A Sc M 0 (q_L0 M vs) [] h n 0 0 Q) : q_fn Sc Γ M vs n V r F := fun h hok => hA _ h (fun _ _ a b => ⟨a, b, rfl⟩) hok
section QVX
variable {Sc : q_S} {M M' : q_M} {pc : Nat} {L st : List Value} {h : q_H} {n kc ks kc1 ks1 : Nat} {Q : q_O → q_H → Nat → Prop} {Γ : Nat → q_K} {V : q_V}
variable {C : String} {T : u_T} {N ci i ix j : Nat} {ty : Nat → FieldType} {ps : List (Nat × Nat)} {x : Int32}
theorem v_geti (k : Nat) {z : Nat} (hC : q_cls ci C T N ty) (hk : k < N) (hw : q_fl (q_own M) ix T k) (hd : decode (q_cc M) pc = .ok (.getfield ix, 3)) (hok : q_ok (gX Γ V) h) (hg : Γ i = (4, ci, ps)) (hp : ps[k]? = some (0, z)) (kk : q_A Sc M (pc + 3) L (.int (V i k) :: st) h n kc ks Q) : q_A Sc M pc L (.ref i :: st) h n kc ks Q := by
  obtain ⟨fs, h1, h2⟩ := hok.o (gX_o hg)
  obtain ⟨f, h3, h4⟩ := h2.at (gx1_at hp)
  have h5 : f = .int (V i k) := by
    have h6 : f = .int (nI (q_cd (V i (0 + k)))) := h4
    rw [nI_cd, Nat.zero_add] at h6
    exact h6
  subst h5
  exact t_look k hC hk hw hd h1 h3 kk
theorem v_getv (k : Nat) {z : Nat} (hv : V i k = x) (hC : q_cls ci C T N ty) (hk : k < N) (hw : q_fl (q_own M) ix T k) (hd : decode (q_cc M) pc = .ok (.getfield ix, 3)) (hok : q_ok (gX Γ V) h) (hg : Γ i = (4, ci, ps)) (hp : ps[k]? = some (0, z)) (kk : q_A Sc M (pc + 3) L (.int x :: st) h n kc ks Q) : q_A Sc M pc L (.ref i :: st) h n kc ks Q := v_geti k hC hk hw hd hok hg hp (by rw [hv]; exact kk)
theorem v_getr (k : Nat) {z : Nat} (hC : q_cls ci C T N ty) (hk : k < N) (hw : q_fl (q_own M) ix T k) (hd : decode (q_cc M) pc = .ok (.getfield ix, 3)) (hok : q_ok (gX Γ V) h) (hg : Γ i = (4, ci, ps)) (hp : ps[k]? = some (1, z)) (kk : q_A Sc M (pc + 3) L (.ref z :: st) h n kc ks Q) : q_A Sc M pc L (.ref i :: st) h n kc ks Q :=
  t_getr k hC hk hw hd hok (gX_o hg) (gx1_no hp (fun q => by cases q)) kk
theorem v_getc (k : Nat) {z : Nat} (hC : q_cls ci C T N ty) (hk : k < N) (hw : q_fl (q_own M) ix T k) (hd : decode (q_cc M) pc = .ok (.getfield ix, 3)) (hok : q_ok (gX Γ V) h) (hg : Γ i = (4, ci, ps)) (hp : ps[k]? = some (2, z)) (kk : q_A Sc M (pc + 3) L (.int (nI z) :: st) h n kc ks Q) : q_A Sc M pc L (.ref i :: st) h n kc ks Q :=
  t_getc k hC hk hw hd hok (gX_o hg) (gx1_no hp (fun q => by cases q)) kk
theorem v_puti (k : Nat) {z : Nat} (hC : q_cls ci C T N ty) (hk : k < N) (hw : q_fl (q_own M) ix T k) (hfin : (T k).2.2.2 = false) (hd : decode (q_cc M) pc = .ok (.putfield ix, 3)) (hok : q_ok (gX Γ V) h) (hg : Γ i = (4, ci, ps)) (hp : ps[k]? = some (0, z)) (hv : q_fit (ty k) (.int x)) (kk : ∀ h', q_ok (gX Γ (vset V i k x)) h' → q_A Sc M (pc + 3) L st h' n kc ks Q) : q_A Sc M pc L (.int x :: .ref i :: st) h n kc ks Q := by
  have e : x = nI (q_cd x) := (nI_cd x).symm
  have h1 : q_A Sc M pc L (.int (nI (q_cd x)) :: .ref i :: st) h n kc ks Q := by
    refine t_putc k (z' := q_cd x) hC hk hw hfin hd hok (gX_o hg) (gx1_at hp) (by rw [nI_cd]; exact hv) (fun h' hk' => kk h' ?_)
    rw [gX_set, show gxc (Γ i) (fupd (V i) k x) = (4, ci, (gx1 (V i) 0 ps).set k (2, q_cd x)) from by
      unfold gxc
      rw [hg, gx1_set hp, Nat.zero_add]
      rfl]
    exact hk'
  rw [nI_cd] at h1
  exact h1
theorem v_iald (hN : N ≤ 4096) (hd : decode (q_cc M) pc = .ok (.iaload, 1)) (hok : q_ok (gX Γ V) h) (hg : Γ i = (1, N, ps)) (hj : j < N) (kk : q_A Sc M (pc + 1) L (.int (V i j) :: st) h n kc ks Q) : q_A Sc M pc L (.int (nI j) :: .ref i :: st) h n kc ks Q := x_iald hN hd hok (gX_i hg) hj kk
theorem v_zald (hN : N ≤ 4096) (hd : decode (q_cc M) pc = .ok (.baload, 1)) (hok : q_ok (gX Γ V) h) (hg : Γ i = (2, N, ps)) (hj : j < N) (kk : q_A Sc M (pc + 1) L (.int (V i j) :: st) h n kc ks Q) : q_A Sc M pc L (.int (nI j) :: .ref i :: st) h n kc ks Q := x_zald hN hd hok (gX_z hg) hj kk
theorem v_iast (hN : N ≤ 4096) (hd : decode (q_cc M) pc = .ok (.iastore, 1)) (hok : q_ok (gX Γ V) h) (hg : Γ i = (1, N, ps)) (hj : j < N) (kk : ∀ h', q_ok (gX Γ (vset V i j x)) h' → q_A Sc M (pc + 1) L st h' n kc ks Q) : q_A Sc M pc L (.int x :: .int (nI j) :: .ref i :: st) h n kc ks Q := x_iast hN hd hok (gX_i hg) hj (fun h' hk => kk h' (by
  rw [gX_set, show gxc (Γ i) (fupd (V i) j x) = (8, 0, q_rg N (fupd (V i) j x)) from by unfold gxc; rw [hg]; rfl]
  exact hk))
theorem v_zast (hN : N ≤ 4096) (hd : decode (q_cc M) pc = .ok (.bastore, 1)) (hok : q_ok (gX Γ V) h) (hg : Γ i = (2, N, ps)) (hj : j < N) (hx : vp_nar .boolean x = x) (kk : ∀ h', q_ok (gX Γ (vset V i j x)) h' → q_A Sc M (pc + 1) L st h' n kc ks Q) : q_A Sc M pc L (.int x :: .int (nI j) :: .ref i :: st) h n kc ks Q := x_zast hN hd hok (gX_z hg) hj hx (fun h' hk => kk h' (by
  rw [gX_set, show gxc (Γ i) (fupd (V i) j x) = (9, 0, q_rg N (fupd (V i) j x)) from by unfold gxc; rw [hg]; rfl]
  exact hk))
theorem gX_l1 (hok : q_ok (gX Γ V) h) (hg : Γ i = (5, 1, ps)) : h i = .inr (.inr (.inr (5, [(V i 0).toInt64]))) := by
  have h1 := hok i
  rw [gX_l hg] at h1
  refine Eq.trans h1 ?_
  rw [nI_cd]
theorem v_lald (hd : decode (q_cc M) pc = .ok (.laload, 1)) (hok : q_ok (gX Γ V) h) (hg : Γ i = (5, 1, ps)) (kk : q_A Sc M (pc + 1) L (.long (V i 0).toInt64 :: st) h n kc ks Q) : q_A Sc M pc L (.int (nI 0) :: .ref i :: st) h n kc ks Q := by
  refine q_lald hd (gX_l1 hok hg) rfl (show vp_in (nI 0) 1 from vp_in_nI (by decide) (by decide)) ?_
  rw [show [(V i 0).toInt64].getD (nI 0).toNatClampNeg 0 = (V i 0).toInt64 from by rw [nI_clamp (by decide)]; rfl]
  exact kk
theorem v_last {y : Int64} (hy : y = x.toInt64) (hd : decode (q_cc M) pc = .ok (.lastore, 1)) (hok : q_ok (gX Γ V) h) (hg : Γ i = (5, 1, ps)) (kk : ∀ h', q_ok (gX Γ (vset V i 0 x)) h' → q_A Sc M (pc + 1) L st h' n kc ks Q) : q_A Sc M pc L (.long y :: .int (nI 0) :: .ref i :: st) h n kc ks Q := by
  refine q_last hd (gX_l1 hok hg) rfl (show vp_in (nI 0) 1 from vp_in_nI (by decide) (by decide)) (kk _ ?_)
  rw [gX_set]
  refine gs_ok hok ?_
  unfold gxc
  rw [hg]
  show _ = Sum.inr (Sum.inr (Sum.inr (5, [(nI (q_cd (fupd (V i) 0 x 0))).toInt64])))
  rw [show fupd (V i) 0 x 0 = x from if_pos rfl]
  rw [nI_clamp (by decide), nI_cd, hy]
  rfl
theorem v_aald {t z : Nat} (C2 : String) (hd : decode (q_cc M) pc = .ok (.aaload, 1)) (hok : q_ok (gX Γ V) h) (hg : Γ i = (3, t, ps)) (ht : q_ty[t]? = some (.object C2)) (hz : ps[j]? = some (1, z)) (hb : ps.length < 2 ^ 31) (kk : q_A Sc M (pc + 1) L (.ref z :: st) h n kc ks Q) : q_A Sc M pc L (.int (nI j) :: .ref i :: st) h n kc ks Q := by
  have hl : j < ps.length := (List.getElem?_eq_some_iff.mp hz).1
  refine t_aald C2 hd hok (gX_r hg) ht (vp_in_nI hl hb) (fun p hp => ?_)
  rw [nI_clamp (by omega), hz] at hp
  obtain rfl := Option.some.inj hp
  exact kk
theorem v_alen {t N2 : Nat} {tt : FieldType} (hd : decode (q_cc M) pc = .ok (.arraylength, 1)) (hok : q_ok (gX Γ V) h) (hg : Γ i = (3, t, ps)) (ht : q_ty[t]? = some tt) (hl : ps.length = N2) (kk : q_A Sc M (pc + 1) L (.int (nI N2) :: st) h n kc ks Q) : q_A Sc M pc L (.ref i :: st) h n kc ks Q := t_alen hd hok (gX_r hg) ht (by rw [hl]; exact kk)
theorem v_callV (vs rest : List Value) {r : Option Value} {F : q_V} (hC : q_cls ci C T N ty) (hd : decode (q_cc M) pc = .ok (.invokevirtual ix, 3)) (hw1 : q_in (Cond.methodLink (q_own M) ix (q_nm M'))) (hw2 : q_in (Cond.instanceMethod (q_nm M'))) (hw3 : q_in (Cond.selects C (q_nm M') (q_nm M'))) (hcd : q_inC M') (hmk : q_mok M' vs.length) (hst : st = vs.reverse ++ .ref i :: rest) (hok : q_ok (gX Γ V) h) (hg : Γ i = (4, ci, ps))
    (hB : q_fn Sc Γ M' (.ref i :: vs) n V r F) (hfr : q_fr M' + 1 ≤ q_fr M) (hlo : (rest.map fun v => v.category).sum + (q_nL M' + 11) + q_lo M' ≤ q_lo M) (hnl : (Value.ref i :: vs).length ≤ q_nL M') (hone : q_one vs = true)
    (kk : ∀ h', q_ok (gX Γ F) h' → q_A Sc M (pc + 3) L (r.toList ++ rest) h' n kc ks Q) : q_A Sc M pc L st h n kc ks Q := by
  obtain ⟨fs, h1, -⟩ := hok.o (gX_o hg)
  refine q_callV vs rest hC hd hw1 hw2 hw3 hcd hmk hst h1 (hB h hok) (Nat.zero_le _) (Nat.zero_le _) hfr hlo hnl hone (fun v h' n' hp => ?_) (fun x h' n' hp => ?_)
  · obtain ⟨e, p2, rfl⟩ := hp
    obtain rfl := Sum.inl.inj e
    exact kk h' p2
  · cases hp.1
theorem v_callS (vs rest : List Value) {r : Option Value} {F : q_V} (hd : decode (q_cc M) pc = .ok (.invokestatic ix, 3)) (hw1 : q_sl2 (q_own M) ix (q_nm M')) (hw2 : q_in (Cond.static (q_nm M'))) (hw3 : q_in (Cond.initialized (q_nm M').cls)) (hcd : q_inC M') (hmk : q_mok M' vs.length) (hst : st = vs.reverse ++ rest) (hok : q_ok (gX Γ V) h)
    (hB : q_fn Sc Γ M' vs n V r F) (hfr : q_fr M' + 1 ≤ q_fr M) (hlo : (rest.map fun v => v.category).sum + (q_nL M' + 11) + q_lo M' ≤ q_lo M) (hnl : vs.length ≤ q_nL M') (hone : q_one vs = true)
    (kk : ∀ h', q_ok (gX Γ F) h' → q_A Sc M (pc + 3) L (r.toList ++ rest) h' n kc ks Q) : q_A Sc M pc L st h n kc ks Q := by
  have e1 : ∀ v h' n', (Sum.inl v : q_O) = .inl r ∧ q_ok (gX Γ F) h' ∧ n' = n → q_A Sc M (pc + 3) L (v.toList ++ rest) h' n' kc ks Q := fun v h' n' hp => by
    obtain ⟨e, p2, rfl⟩ := hp
    obtain rfl := Sum.inl.inj e
    exact kk h' p2
  have e2 : ∀ x h' n', (Sum.inr x : q_O) = .inl r ∧ q_ok (gX Γ F) h' ∧ n' = n → q_Th Sc M pc L h' n' kc ks Q x := fun x h' n' hp => by cases hp.1
  rcases hw1 with hw1 | ⟨host, hw1⟩
  · exact q_callS vs rest hd hw1 hw2 hw3 hcd hmk hst (hB h hok) (Nat.zero_le _) (Nat.zero_le _) hfr hlo hnl hone e1 e2
  · exact q_callSN vs rest hd hw1 hw2 hw3 hcd hmk hst (hB h hok) (Nat.zero_le _) (Nat.zero_le _) hfr hlo hnl hone e1 e2
theorem w_callV (vs rest : List Value) {P : q_O → q_V → Prop} (hC : q_cls ci C T N ty) (hd : decode (q_cc M) pc = .ok (.invokevirtual ix, 3)) (hw1 : q_in (Cond.methodLink (q_own M) ix (q_nm M'))) (hw2 : q_in (Cond.instanceMethod (q_nm M'))) (hw3 : q_in (Cond.selects C (q_nm M') (q_nm M'))) (hcd : q_inC M') (hmk : q_mok M' vs.length) (hst : st = vs.reverse ++ .ref i :: rest) (hok : q_ok (gX Γ V) h) (hg : Γ i = (4, ci, ps))
    (hB : q_fp Sc Γ M' (.ref i :: vs) n kc1 ks1 V P) (hk1 : kc1 ≤ kc) (hk2 : ks1 ≤ ks) (hfr : q_fr M' + 1 ≤ q_fr M) (hlo : (rest.map fun v => v.category).sum + (q_nL M' + 11) + q_lo M' ≤ q_lo M) (hnl : (Value.ref i :: vs).length ≤ q_nL M') (hone : q_one vs = true)
    (k1 : ∀ v h' F, P (.inl v) F → q_ok (gX Γ F) h' → q_A Sc M (pc + 3) L (v.toList ++ rest) h' n (kc - kc1) (ks - ks1) Q)
    (k2 : ∀ x h' F, P (.inr x) F → q_ok (gX Γ F) h' → q_Th Sc M pc L h' n (kc - kc1) (ks - ks1) Q x) : q_A Sc M pc L st h n kc ks Q := by
  obtain ⟨fs, h1, -⟩ := hok.o (gX_o hg)
  exact q_callV vs rest hC hd hw1 hw2 hw3 hcd hmk hst h1 (hB h hok) hk1 hk2 hfr hlo hnl hone (fun v h' n' hp => by obtain ⟨F, p1, p2, rfl⟩ := hp; exact k1 v h' F p1 p2) (fun x h' n' hp => by obtain ⟨F, p1, p2, rfl⟩ := hp; exact k2 x h' F p1 p2)
theorem w_callS (vs rest : List Value) {P : q_O → q_V → Prop} (hd : decode (q_cc M) pc = .ok (.invokestatic ix, 3)) (hw1 : q_sl2 (q_own M) ix (q_nm M')) (hw2 : q_in (Cond.static (q_nm M'))) (hw3 : q_in (Cond.initialized (q_nm M').cls)) (hcd : q_inC M') (hmk : q_mok M' vs.length) (hst : st = vs.reverse ++ rest) (hok : q_ok (gX Γ V) h)
    (hB : q_fp Sc Γ M' vs n kc1 ks1 V P) (hk1 : kc1 ≤ kc) (hk2 : ks1 ≤ ks) (hfr : q_fr M' + 1 ≤ q_fr M) (hlo : (rest.map fun v => v.category).sum + (q_nL M' + 11) + q_lo M' ≤ q_lo M) (hnl : vs.length ≤ q_nL M') (hone : q_one vs = true)
    (k1 : ∀ v h' F, P (.inl v) F → q_ok (gX Γ F) h' → q_A Sc M (pc + 3) L (v.toList ++ rest) h' n (kc - kc1) (ks - ks1) Q)
    (k2 : ∀ x h' F, P (.inr x) F → q_ok (gX Γ F) h' → q_Th Sc M pc L h' n (kc - kc1) (ks - ks1) Q x) : q_A Sc M pc L st h n kc ks Q := by
  rcases hw1 with hw1 | ⟨host, hw1⟩
  · exact q_callS vs rest hd hw1 hw2 hw3 hcd hmk hst (hB h hok) hk1 hk2 hfr hlo hnl hone (fun v h' n' hp => by obtain ⟨F, p1, p2, rfl⟩ := hp; exact k1 v h' F p1 p2) (fun x h' n' hp => by obtain ⟨F, p1, p2, rfl⟩ := hp; exact k2 x h' F p1 p2)
  · exact q_callSN vs rest hd hw1 hw2 hw3 hcd hmk hst (hB h hok) hk1 hk2 hfr hlo hnl hone (fun v h' n' hp => by obtain ⟨F, p1, p2, rfl⟩ := hp; exact k1 v h' F p1 p2) (fun x h' n' hp => by obtain ⟨F, p1, p2, rfl⟩ := hp; exact k2 x h' F p1 p2)
end QVX
/-! what the cells are, by their places -/
def sF (Γ : Nat → q_K) (i : Nat) : Prop := Γ i = (4, 0, [(1, i + 1), (0, 0), (0, 0), (0, 0), (0, 0)]) ∧ Γ (i + 1) = (1, 16, [])
def sMb (Γ : Nat → q_K) (i : Nat) : Prop := Γ i = (4, 2, [(1, i + 1), (1, i + 2)]) ∧ Γ (i + 1) = (1, 8, []) ∧ Γ (i + 2) = (2, 8, [])
def sLg (Γ : Nat → q_K) (i : Nat) : Prop := Γ i = (4, 3, [(1, i + 1), (1, i + 2), (1, i + 3), (1, i + 4), (0, 0), (0, 0)]) ∧ Γ (i + 1) = (1, 40, []) ∧ Γ (i + 2) = (1, 40, []) ∧ Γ (i + 3) = (1, 40, []) ∧ Γ (i + 4) = (1, 40, [])
def sLk (Γ : Nat → q_K) (B : Nat) : Prop := Γ B = (4, 1, [(0, 0), (1, B + 1), (1, B + 2), (0, 0), (0, 0), (0, 0), (0, 0), (0, 0)]) ∧ Γ (B + 1) = (3, 3, (List.range 8).map (fun g => (1, B + 3 + 2 * g))) ∧ Γ (B + 2) = (3, 4, (List.range 6).map (fun m => (1, B + 19 + 3 * m))) ∧ (∀ g, g < 8 → sF Γ (B + 3 + 2 * g)) ∧ ∀ m, m < 6 → sMb Γ (B + 19 + 3 * m)
def sGF (Γ : Nat → q_K) (X many : Nat) : Prop := Γ X = (4, 4, [(1, X + 1), (1, X + 2 + 37 * many)]) ∧ Γ (X + 1) = (3, 2, (List.range many).map (fun l => (1, X + 2 + 37 * l))) ∧ (∀ l, l < many → sLk Γ (X + 2 + 37 * l)) ∧ sLg Γ (X + 2 + 37 * many)
theorem rg_at {N j : Nat} {f : Nat → Nat × Nat} (hj : j < N) : ((List.range N).map f)[j]? = some (f j) := by
  rw [List.getElem?_map, List.getElem?_range hj]
  rfl
theorem rg_len {N : Nat} {f : Nat → Nat × Nat} : ((List.range N).map f).length = N := by rw [List.length_map, List.length_range]
def SB (V : q_V) (o b : Nat) : Prop := 0 ≤ (V o 15).toInt ∧ (V o 15).toInt ≤ b
theorem SB.mo {V : q_V} {o b b' : Nat} (h : SB V o b) (hb : b ≤ b') : SB V o b' := ⟨h.1, Int.le_trans h.2 (by omega)⟩
theorem SB.vs {V : q_V} {o b a k : Nat} {x : Int32} (h : SB V o b) (hn : o ≠ a ∨ 15 ≠ k) : SB (vset V a k x) o b := by
  unfold SB
  rw [vs_no hn]
  exact h

