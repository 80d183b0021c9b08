/-! ===== making: from typed cells to known ones ===== -/
def n5 (G : Nat → q_K) : Prop := ∀ i, (G i).1 ≠ 5
theorem n5.gs {G : Nat → q_K} {i t : Nat} {r : Nat × List (Nat × Nat)} (h : n5 G) (hK : t ≠ 5) : n5 (gset G i (t, r)) := fun j => by
  by_cases hj : j = i
  · subst hj
    rw [gs_at]
    exact hK
  · rw [gs_ne hj]
    exact h j
theorem q_fm.gx : ∀ {ps : List (Nat × Nat)} {fs : List Value}, q_fm ps fs → ∀ {v : Nat → Int32} {k0 : Nat}, (∀ k x, fs[k]? = some (.int x) → v (k0 + k) = x) → q_fm (gx1 v k0 ps) fs
  | [], _, h, _, _, _ => h
  | p :: ps, _, ⟨f, r, e, h1, h2⟩, v, k0, hv => by
    subst e
    refine ⟨f, r, rfl, ?_, q_fm.gx h2 (fun k x hk => ?_)⟩
    · by_cases hp : p.1 = 0
      · rw [if_pos hp]
        obtain ⟨a, b⟩ := p
        dsimp only at hp
        subst hp
        obtain ⟨x, rfl⟩ := h1
        show Value.int x = .int (nI (q_cd (v k0)))
        rw [nI_cd, ← hv 0 x rfl, Nat.add_zero]
      · rw [if_neg hp]
        exact h1
    · have := hv (k + 1) x (by rw [List.getElem?_cons_succ]; exact hk)
      rw [show k0 + 1 + k = k0 + (k + 1) by omega]
      exact this
def vOf (c : q_C) : Nat → Int32 := fun k => match c with
  | .inl o => match o.2[k]? with
    | some (.int x) => x
    | _ => 0
  | .inr (.inl x) => x.2.getD k 0
  | _ => 0
theorem ex_of {G : Nat → q_K} {h : q_H} (hok : q_ok G h) (h5 : n5 G) : q_ok (gX G (fun i => vOf (h i))) h := fun i => by
  have h1 := hok i
  have h2 := h5 i
  show q_okc (gxc (G i) (vOf (h i))) (h i)
  rcases e : G i with ⟨t, N, ps⟩
  rw [e] at h1 h2
  unfold gxc
  dsimp only at h2 ⊢
  split
  · obtain ⟨a, e1, e2⟩ := (show ∃ a, h i = .inr (.inl (0, a)) ∧ a.length = N from h1)
    rw [e1]
    show _ = _
    rw [q_rg_map]
    show Sum.inr (Sum.inl (0, a)) = Sum.inr (Sum.inl (0, (List.range N).map (fun k => a.getD k 0)))
    rw [← q_list e2]
  · obtain ⟨a, e1, e2⟩ := (show ∃ a, h i = .inr (.inl (1, a)) ∧ a.length = N from h1)
    rw [e1]
    show _ = _
    rw [q_rg_map]
    show Sum.inr (Sum.inl (1, a)) = Sum.inr (Sum.inl (1, (List.range N).map (fun k => a.getD k 0)))
    rw [← q_list e2]
  · obtain ⟨fs, e1, e2⟩ := (show ∃ fs, h i = .inl (N, fs) ∧ q_fm ps fs from h1)
    refine ⟨fs, e1, e2.gx (fun k x hk => ?_)⟩
    rw [e1, Nat.zero_add]
    unfold vOf
    dsimp only
    rw [hk]
  · exact absurd rfl h2
  · exact h1
theorem gx1_id : ∀ {v w : Nat → Int32} {ps : List (Nat × Nat)} {k0 k1 : Nat}, gx1 w k1 (gx1 v k0 ps) = gx1 v k0 ps
  | _, _, [], _, _ => rfl
  | v, w, p :: ps, k0, k1 => by
    show (if (if p.1 = 0 then (2, q_cd (v k0)) else p).1 = 0 then (2, q_cd (w k1)) else (if p.1 = 0 then (2, q_cd (v k0)) else p)) :: gx1 w (k1 + 1) (gx1 v (k0 + 1) ps) = (if p.1 = 0 then (2, q_cd (v k0)) else p) :: gx1 v (k0 + 1) ps
    rw [gx1_id]
    by_cases hp : p.1 = 0
    · rw [if_pos hp, if_neg (show ¬ (2 : Nat) = 0 by decide)]
    · rw [if_neg hp, if_neg hp]
theorem gxc_id {K : q_K} {v w : Nat → Int32} : gxc (gxc K v) w = gxc K v := by
  obtain ⟨t, N, ps⟩ := K
  by_cases h1 : t = 1
  · subst h1; rfl
  · by_cases h2 : t = 2
    · subst h2; rfl
    · by_cases h4 : t = 4
      · subst h4
        show (4, N, gx1 w 0 (gx1 v 0 ps)) = (4, N, gx1 v 0 ps)
        rw [gx1_id]
      · by_cases h5 : t = 5
        · subst h5; rfl
        · have e : ∀ u : Nat → Int32, gxc (t, N, ps) u = (t, N, ps) := fun u => by
            unfold gxc
            dsimp only
            split <;> first | rfl | omega
          rw [e v, e w]
theorem mrg {G' Γ1 : Nat → q_K} {V' V1 : q_V} {lim : Nat} {h : q_H} (hok : q_ok (gX G' V') h) (hlow : ∀ j, j < lim → G' j = gX Γ1 V1 j) : q_ok (gX (fun j => if j < lim then Γ1 j else G' j) (fun j => if j < lim then V1 j else V' j)) h := fun j => by
  have h1 := hok j
  show q_okc (gxc (if j < lim then Γ1 j else G' j) (if j < lim then V1 j else V' j)) (h j)
  by_cases hj : j < lim
  · rw [if_pos hj, if_pos hj]
    have e : gX G' V' j = gxc (Γ1 j) (V1 j) := by
      show gxc (G' j) (V' j) = _
      rw [hlow j hj]
      exact gxc_id
    rw [e] at h1
    exact h1
  · rw [if_neg hj, if_neg hj]
    exact h1
theorem gX_gs {Γ : Nat → q_K} {V : q_V} {i : Nat} {K : q_K} (hK : gxc K (V i) = K) : gset (gX Γ V) i K = gX (gset Γ i K) V := by
  funext j
  show gset (gX Γ V) i K j = gxc (gset Γ i K j) (V j)
  by_cases hj : j = i
  · subst hj
    rw [gs_at, gs_at, hK]
  · rw [gs_ne hj, gs_ne hj]
    rfl
theorem gX_6 {Γ : Nat → q_K} {V : q_V} {i t : Nat} {ps : List (Nat × Nat)} (hg : Γ i = (6, t, ps)) : gX Γ V i = (6, t, ps) := by
  unfold gX gxc
  rw [hg]
  rfl
theorem wk_obj {G : Nat → q_K} {h : q_H} {i : Nat} {K K' : q_K} (hok : q_ok G h) (hg : G i = K) (hw : ∀ c, q_okc K c → q_okc K' c) : q_ok (gset G i K') h := fun j => by
  by_cases hj : j = i
  · subst hj
    rw [gs_at]
    have := hok j
    rw [hg] at this
    exact hw _ this
  · rw [gs_ne hj]
    exact hok j
theorem val_of {G G1 : Nat → q_K} {V : q_V} {h : q_H} {i ci k z z' : Nat} {ps ps1 : List (Nat × Nat)} (h1 : q_ok G1 h) (g1 : G1 i = (4, ci, ps1)) (p1 : ps1[k]? = some (2, z)) (h2 : q_ok (gX G V) h) (g2 : G i = (4, ci, ps)) (p2 : ps[k]? = some (0, z')) : V i k = nI z := by
  obtain ⟨fs, e1, f1⟩ := h1.o g1
  obtain ⟨fs2, e2, f2⟩ := h2.o (gX_o g2)
  obtain ⟨a, a1, a2⟩ := f1.at p1
  obtain ⟨b, b1, b2⟩ := f2.at (gx1_at p2)
  have e3 : fs = fs2 := by
    rw [e1] at e2
    exact congrArg Prod.snd (Sum.inl.inj e2)
  subst e3
  have e4 : a = b := Option.some.inj (a1.symm.trans b1)
  have a3 : a = .int (nI z) := a2
  have b3 : b = .int (nI (q_cd (V i (0 + k)))) := b2
  rw [e4, b3, nI_cd, Nat.zero_add] at a3
  exact Value.int.inj a3
theorem sF.cg {Γ Γ' : Nat → q_K} {i : Nat} (h : sF Γ i) (h1 : Γ' i = Γ i) (h2 : Γ' (i + 1) = Γ (i + 1)) : sF Γ' i := ⟨h1.trans h.1, h2.trans h.2⟩
theorem sLk.cg {Γ Γ' : Nat → q_K} {B : Nat} (h : sLk Γ B) (ha : ∀ j, B ≤ j → j < B + 37 → Γ' j = Γ j) : sLk Γ' B := by
  obtain ⟨a, b, c, d, e⟩ := h
  refine ⟨(ha _ (by omega) (by omega)).trans a, (ha _ (by omega) (by omega)).trans b, (ha _ (by omega) (by omega)).trans c, fun g hg => (d g hg).cg (ha _ (by omega) (by omega)) (ha _ (by omega) (by omega)), fun m hm => ?_⟩
  obtain ⟨e1, e2, e3⟩ := e m hm
  exact ⟨(ha _ (by omega) (by omega)).trans e1, (ha _ (by omega) (by omega)).trans e2, (ha _ (by omega) (by omega)).trans e3⟩
theorem CL.cg {V V' : q_V} {B : Nat} (h : CL V B) (ha : ∀ j, B ≤ j → j < B + 37 → V' j = V j) : CL V' B := by
  obtain ⟨a, b, c⟩ := h
  refine ⟨fun g hg => ?_, fun m hm g hg => ?_, by rw [ha _ (by omega) (by omega)]; exact c⟩
  · rw [ha (B + 3 + 2 * g) (by omega) (by omega), ha (B + 3 + 2 * g + 1) (by omega) (by omega)]
    exact a g hg
  · rw [ha (B + 19 + 3 * m + 1) (by omega) (by omega), ha (B + 19 + 3 * m + 2) (by omega) (by omega)]
    exact b m hm g hg
theorem rg_eq {ps : List (Nat × Nat)} {N : Nat} {f : Nat → Nat × Nat} (hl : ps.length = N) (h : ∀ k, k < N → ps[k]? = some (f k)) : ps = (List.range N).map f := List.ext_getElem? fun k => by
  by_cases hk : k < N
  · rw [h k hk, rg_at hk]
  · rw [List.getElem?_eq_none (by omega), List.getElem?_eq_none (by rw [rg_len]; omega)]
theorem c_full {Γ : Nat → q_K} {h : q_H} {i t : Nat} {ps : List (Nat × Nat)} (hok : q_ok Γ h) (hg : Γ i = (6, t, ps)) (hp : ∀ (k : Nat) (p : Nat × Nat), ps[k]? = some p → p.1 = 1) : q_ok (gset Γ i (3, t, ps)) h := fun j => by
  by_cases hj : j = i
  · subst hj
    rw [gs_at]
    have h1 := hok j
    rw [hg] at h1
    refine Eq.trans h1 ?_
    show _ = (.inr (.inr (.inl (t, ps.map (fun p => some p.2)))) : q_C)
    have h2 : ps.map (fun p => if p.1 = 1 then some p.2 else none) = ps.map (fun p => some p.2) := by
      refine List.map_congr_left fun p hp2 => ?_
      obtain ⟨k, hk⟩ := List.getElem?_of_mem hp2
      rw [if_pos (hp k p hk)]
    rw [← h2]
  · rw [gs_ne hj]
    exact hok j

set_option maxHeartbeats 4000000 in
theorem nX0_init (Sc : q_S) (Γ : Nat → q_K) (n i : Nat) (hi : i < n) (hg : Γ i = (4, 0, [(3, 0), (0, 0), (0, 0), (0, 0), (0, 0)])) (h : q_H) (hok : q_ok Γ h) : q_A Sc mX0_init 0 [.ref i] [] h n 1 16 (fun O h' n' => O = .inl none ∧ n' = n + 1 ∧ q_ok (gset (gset (Γ) (n) (1, 16, [])) i (4, 0, [(1, n), (0, 0), (0, 0), (0, 0), (0, 0)])) h') := by
  refine q_aload_n dX0_init_0 rfl ?_
  refine q_obj dX0_init_1 wOX0 wOi wOc (by decide) (Nat.le_of_ble_eq_true rfl) ?_
  refine q_aload_n dX0_init_4 rfl ?_
  refine q_bipush (v := nI 16) dX0_init_5 rfl ?_
  refine c_newi dX0_init_7 rfl wAint (nI_pos (by decide)) (nI_clamp (by decide)) (by decide) (Nat.le_of_ble_eq_true rfl) (Nat.le_of_ble_eq_true rfl) hok (fun h hok => ?_)
  refine c_put 0 (p := (1, n)) kX0 (by decide) wQX0_9 (Or.inr ⟨rfl, rfl, rfl⟩) dX0_init_9 hok ((gs_ne (by omega)).trans hg) (by exact Nat.le_of_ble_eq_true rfl) (fun _ => ⟨rfl, rfl⟩) (by rfl) (fun h hok => ?_)
  exact q_vret dX0_init_12 rfl ⟨rfl, rfl, hok⟩
set_option maxHeartbeats 4000000 in
theorem nX2_init (Sc : q_S) (Γ : Nat → q_K) (n i : Nat) (hi : i < n) (hg : Γ i = (4, 2, [(3, 0), (3, 0)])) (h : q_H) (hok : q_ok Γ h) : q_A Sc mX2_init 0 [.ref i] [] h n 2 16 (fun O h' n' => O = .inl none ∧ n' = n + 2 ∧ q_ok (gset (gset (gset (gset (Γ) (n) (1, 8, [])) i (4, 2, [(1, n), (3, 0)])) (n + 1) (2, 8, [])) i (4, 2, [(1, n), (1, n + 1)])) h') := by
  refine q_aload_n dX2_init_0 rfl ?_
  refine q_obj dX2_init_1 wOX2 wOi wOc (by decide) (Nat.le_of_ble_eq_true rfl) ?_
  refine q_aload_n dX2_init_4 rfl ?_
  refine q_bipush (v := nI 8) dX2_init_5 rfl ?_
  refine c_newi dX2_init_7 rfl wAint (nI_pos (by decide)) (nI_clamp (by decide)) (by decide) (Nat.le_of_ble_eq_true rfl) (Nat.le_of_ble_eq_true rfl) hok (fun h hok => ?_)
  refine c_put 0 (p := (1, n)) kX2 (by decide) wQX2_9 (Or.inr ⟨rfl, rfl, rfl⟩) dX2_init_9 hok ((gs_ne (by omega)).trans hg) (by exact Nat.le_of_ble_eq_true rfl) (fun _ => ⟨rfl, rfl⟩) (by rfl) (fun h hok => ?_)
  refine q_aload_n dX2_init_12 rfl ?_
  refine q_bipush (v := nI 8) dX2_init_13 rfl ?_
  refine c_newz dX2_init_15 rfl wAboolean (nI_pos (by decide)) (nI_clamp (by decide)) (by decide) (Nat.le_of_ble_eq_true rfl) (Nat.le_of_ble_eq_true rfl) hok (fun h hok => ?_)
  refine c_put 1 (p := (1, n + 1)) kX2 (by decide) wQX2_15 (Or.inr ⟨rfl, rfl, rfl⟩) dX2_init_17 hok ((gs_ne (by omega)).trans gs_at) (by exact Nat.le_of_ble_eq_true rfl) (fun _ => ⟨rfl, rfl⟩) (by rfl) (fun h hok => ?_)
  exact q_vret dX2_init_20 rfl ⟨rfl, rfl, hok⟩
set_option maxHeartbeats 4000000 in
theorem nX3_init (Sc : q_S) (Γ : Nat → q_K) (n i : Nat) (hi : i < n) (hg : Γ i = (4, 3, [(3, 0), (3, 0), (3, 0), (3, 0), (2, 0), (2, 0)])) (h : q_H) (hok : q_ok Γ h) : q_A Sc mX3_init 0 [.ref i] [] h n 4 160 (fun O h' n' => O = .inl none ∧ n' = n + 4 ∧ q_ok (gset (gset (gset (gset (gset (gset (gset (gset (Γ) (n) (1, 40, [])) i (4, 3, [(1, n), (3, 0), (3, 0), (3, 0), (2, 0), (2, 0)])) (n + 1) (1, 40, [])) i (4, 3, [(1, n), (1, n + 1), (3, 0), (3, 0), (2, 0), (2, 0)])) (n + 2) (1, 40, [])) i (4, 3, [(1, n), (1, n + 1), (1, n + 2), (3, 0), (2, 0), (2, 0)])) (n + 3) (1, 40, [])) i (4, 3, [(1, n), (1, n + 1), (1, n + 2), (1, n + 3), (2, 0), (2, 0)])) h') := by
  refine q_aload_n dX3_init_0 rfl ?_
  refine q_obj dX3_init_1 wOX3 wOi wOc (by decide) (Nat.le_of_ble_eq_true rfl) ?_
  refine q_aload_n dX3_init_4 rfl ?_
  refine q_bipush (v := nI 40) dX3_init_5 rfl ?_
  refine c_newi dX3_init_7 rfl wAint (nI_pos (by decide)) (nI_clamp (by decide)) (by decide) (Nat.le_of_ble_eq_true rfl) (Nat.le_of_ble_eq_true rfl) hok (fun h hok => ?_)
  refine c_put 0 (p := (1, n)) kX3 (by decide) wQX3_9 (Or.inr ⟨rfl, rfl, rfl⟩) dX3_init_9 hok ((gs_ne (by omega)).trans hg) (by exact Nat.le_of_ble_eq_true rfl) (fun _ => ⟨rfl, rfl⟩) (by rfl) (fun h hok => ?_)
  refine q_aload_n dX3_init_12 rfl ?_
  refine q_bipush (v := nI 40) dX3_init_13 rfl ?_
  refine c_newi dX3_init_15 rfl wAint (nI_pos (by decide)) (nI_clamp (by decide)) (by decide) (Nat.le_of_ble_eq_true rfl) (Nat.le_of_ble_eq_true rfl) hok (fun h hok => ?_)
  refine c_put 1 (p := (1, n + 1)) kX3 (by decide) wQX3_15 (Or.inr ⟨rfl, rfl, rfl⟩) dX3_init_17 hok ((gs_ne (by omega)).trans gs_at) (by exact Nat.le_of_ble_eq_true rfl) (fun _ => ⟨rfl, rfl⟩) (by rfl) (fun h hok => ?_)
  refine q_aload_n dX3_init_20 rfl ?_
  refine q_bipush (v := nI 40) dX3_init_21 rfl ?_
  refine c_newi dX3_init_23 rfl wAint (nI_pos (by decide)) (nI_clamp (by decide)) (by decide) (Nat.le_of_ble_eq_true rfl) (Nat.le_of_ble_eq_true rfl) hok (fun h hok => ?_)
  refine c_put 2 (p := (1, n + 2)) kX3 (by decide) wQX3_18 (Or.inr ⟨rfl, rfl, rfl⟩) dX3_init_25 hok ((gs_ne (by omega)).trans gs_at) (by exact Nat.le_of_ble_eq_true rfl) (fun _ => ⟨rfl, rfl⟩) (by rfl) (fun h hok => ?_)
  refine q_aload_n dX3_init_28 rfl ?_
  refine q_bipush (v := nI 40) dX3_init_29 rfl ?_
  refine c_newi dX3_init_31 rfl wAint (nI_pos (by decide)) (nI_clamp (by decide)) (by decide) (Nat.le_of_ble_eq_true rfl) (Nat.le_of_ble_eq_true rfl) hok (fun h hok => ?_)
  refine c_put 3 (p := (1, n + 3)) kX3 (by decide) wQX3_21 (Or.inr ⟨rfl, rfl, rfl⟩) dX3_init_33 hok ((gs_ne (by omega)).trans gs_at) (by exact Nat.le_of_ble_eq_true rfl) (fun _ => ⟨rfl, rfl⟩) (by rfl) (fun h hok => ?_)
  exact q_vret dX3_init_36 rfl ⟨rfl, rfl, hok⟩
