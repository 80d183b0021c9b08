/-! ===== rows whose contents are known ===== -/
def q_cd (x : Int32) : Nat := x.toBitVec.toNat
theorem nI_cd (x : Int32) : nI (q_cd x) = x := by
  refine Int32.toBitVec_inj.mp ?_
  show BitVec.ofNat 32 x.toBitVec.toNat = x.toBitVec
  exact BitVec.eq_of_toNat_eq (by rw [BitVec.toNat_ofNat, Nat.mod_eq_of_lt x.toBitVec.isLt])
def q_rg (N : Nat) (F : Nat → Int32) : List (Nat × Nat) := (List.range N).map (fun j => (0, q_cd (F j)))
theorem q_rg_map (N : Nat) (F : Nat → Int32) : (q_rg N F).map (fun p => nI p.2) = (List.range N).map F := by
  unfold q_rg
  rw [List.map_map]
  refine List.map_congr_left fun j _ => ?_
  exact nI_cd (F j)
theorem q_rg_cg {N : Nat} {F F' : Nat → Int32} (h : ∀ j, j < N → F j = F' j) : q_rg N F = q_rg N F' := by
  unfold q_rg
  refine List.map_congr_left fun j hj => ?_
  rw [h j (List.mem_range.mp hj)]
def fupd (F : Nat → Int32) (j : Nat) (x : Int32) : Nat → Int32 := fun k => if k = j then x else F k
theorem q_rg_at {N j : Nat} (F : Nat → Int32) (hj : j < N) : ((List.range N).map F).getD j 0 = F j := by
  rw [List.getD_eq_getElem?_getD, List.getElem?_map, List.getElem?_range hj]
  rfl
theorem q_rg_set {N j : Nat} (F : Nat → Int32) (x : Int32) (hj : j < N) : ((List.range N).map F).set j x = (List.range N).map (fupd F j x) := by
  refine List.ext_getElem? fun k => ?_
  by_cases hk : k = j
  · subst hk
    rw [List.getElem?_set_self (by rw [List.length_map, List.length_range]; exact hj), List.getElem?_map, List.getElem?_range hj]
    show some x = some (fupd F k x k)
    rw [show fupd F k x k = x from if_pos rfl]
  · rw [List.getElem?_set_ne (Ne.symm hk)]
    by_cases hkN : k < N
    · rw [List.getElem?_map, List.getElem?_map, List.getElem?_range hkN]
      show some (F k) = some (fupd F j x k)
      rw [show fupd F j x k = F k from if_neg hk]
    · rw [List.getElem?_eq_none (by rw [List.length_map, List.length_range]; omega), List.getElem?_eq_none (by rw [List.length_map, List.length_range]; omega)]
theorem q_ok.x8 {Γ : Nat → q_K} {h : q_H} (hok : q_ok Γ h) {i N : Nat} {F : Nat → Int32} (hg : Γ i = (8, 0, q_rg N F)) : h i = .inr (.inl (0, (List.range N).map F)) := by
  have h1 := hok i
  rw [hg] at h1
  refine Eq.trans h1 ?_
  rw [q_rg_map]
theorem q_ok.x9 {Γ : Nat → q_K} {h : q_H} (hok : q_ok Γ h) {i N : Nat} {F : Nat → Int32} (hg : Γ i = (9, 0, q_rg N F)) : h i = .inr (.inl (1, (List.range N).map F)) := by
  have h1 := hok i
  rw [hg] at h1
  refine Eq.trans h1 ?_
  rw [q_rg_map]
theorem q_list {N : Nat} {a : List Int32} (h : a.length = N) : a = (List.range N).map (fun j => a.getD j 0) := by
  subst h
  refine List.ext_getElem? fun k => ?_
  by_cases hk : k < a.length
  · rw [List.getElem?_map, List.getElem?_range hk]
    show a[k]? = some (a.getD k 0)
    rw [List.getD_eq_getElem?_getD, List.getElem?_eq_getElem hk]
    rfl
  · rw [List.getElem?_eq_none (by omega), List.getElem?_eq_none (by rw [List.length_map, List.length_range]; omega)]
theorem q_ok.o8 {Γ : Nat → q_K} {h : q_H} (hok : q_ok Γ h) {i N : Nat} {ps : List (Nat × Nat)} (hg : Γ i = (1, N, ps)) : ∃ F, q_ok (gset Γ i (8, 0, q_rg N F)) h := by
  obtain ⟨a, h1, h2⟩ := hok.i hg
  refine ⟨fun j => a.getD j 0, fun j => ?_⟩
  by_cases hj : j = i
  · subst hj
    rw [gs_at, h1]
    show _ = _
    rw [q_rg_map, ← q_list h2]
  · rw [gs_ne hj]
    exact hok j
theorem q_ok.o9 {Γ : Nat → q_K} {h : q_H} (hok : q_ok Γ h) {i N : Nat} {ps : List (Nat × Nat)} (hg : Γ i = (2, N, ps)) : ∃ F, q_ok (gset Γ i (9, 0, q_rg N F)) h := by
  obtain ⟨a, h1, h2⟩ := hok.z hg
  refine ⟨fun j => a.getD j 0, fun j => ?_⟩
  by_cases hj : j = i
  · subst hj
    rw [gs_at, h1]
    show _ = _
    rw [q_rg_map, ← q_list h2]
  · rw [gs_ne hj]
    exact hok j
section QXA
variable {Sc : q_S} {M : q_M} {pc : Nat} {L st : List Value} {h : q_H} {n kc ks : Nat} {Q : q_O → q_H → Nat → Prop} {Γ : Nat → q_K} {i j N : Nat} {F : Nat → Int32} {x : Int32}
theorem x_iald (hN : N ≤ 4096) (hd : decode (q_cc M) pc = .ok (.iaload, 1)) (hok : q_ok Γ h) (hg : Γ i = (8, 0, q_rg N F)) (hj : j < N) (kk : q_A Sc M (pc + 1) L (.int (F j) :: st) h n kc ks Q) : q_A Sc M pc L (.int (nI j) :: .ref i :: st) h n kc ks Q := by
  refine q_iald hd (hok.x8 hg) rfl (by rw [List.length_map, List.length_range]; exact vp_in_nI hj (by omega)) ?_
  rw [nI_clamp (by omega), q_rg_at F hj]
  exact kk
theorem x_zald (hN : N ≤ 4096) (hd : decode (q_cc M) pc = .ok (.baload, 1)) (hok : q_ok Γ h) (hg : Γ i = (9, 0, q_rg N F)) (hj : j < N) (kk : q_A Sc M (pc + 1) L (.int (F j) :: st) h n kc ks Q) : q_A Sc M pc L (.int (nI j) :: .ref i :: st) h n kc ks Q := by
  refine q_zald hd (hok.x9 hg) rfl (by rw [List.length_map, List.length_range]; exact vp_in_nI hj (by omega)) ?_
  rw [nI_clamp (by omega), q_rg_at F hj]
  exact kk
theorem x_iast (hN : N ≤ 4096) (hd : decode (q_cc M) pc = .ok (.iastore, 1)) (hok : q_ok Γ h) (hg : Γ i = (8, 0, q_rg N F)) (hj : j < N) (kk : ∀ h', q_ok (gset Γ i (8, 0, q_rg N (fupd F j x))) h' → q_A Sc M (pc + 1) L st h' n kc ks Q) : q_A Sc M pc L (.int x :: .int (nI j) :: .ref i :: st) h n kc ks Q := by
  refine q_iast hd (hok.x8 hg) rfl (by rw [List.length_map, List.length_range]; exact vp_in_nI hj (by omega)) (kk _ (gs_ok hok ?_))
  show _ = _
  rw [nI_clamp (by omega), q_rg_set F x hj, q_rg_map]
theorem x_zast (hN : N ≤ 4096) (hd : decode (q_cc M) pc = .ok (.bastore, 1)) (hok : q_ok Γ h) (hg : Γ i = (9, 0, q_rg N F)) (hj : j < N) (hx : vp_nar .boolean x = x) (kk : ∀ h', q_ok (gset Γ i (9, 0, q_rg N (fupd F j x))) h' → q_A Sc M (pc + 1) L st h' n kc ks Q) : q_A Sc M pc L (.int x :: .int (nI j) :: .ref i :: st) h n kc ks Q := by
  refine q_zast hd (hok.x9 hg) rfl (by rw [List.length_map, List.length_range]; exact vp_in_nI hj (by omega)) hx (kk _ (gs_ok hok ?_))
  show _ = _
  rw [nI_clamp (by omega), q_rg_set F x hj, q_rg_map]
end QXA
theorem gs_id {Γ : Nat → q_K} {w : Nat} {k : q_K} {h : q_H} (hw : Γ w = k) (hok : q_ok Γ h) : q_ok (gset Γ w k) h := fun j => by
  by_cases hj : j = w
  · subst hj
    rw [gs_at, ← hw]
    exact hok j
  · rw [gs_ne hj]
    exact hok j
theorem gs_gs {Γ : Nat → q_K} {i : Nat} {k k' : q_K} {h : q_H} (hok : q_ok (gset (gset Γ i k) i k') h) : q_ok (gset Γ i k') h := fun j => by
  have h1 := hok j
  by_cases hj : j = i
  · subst hj
    rw [gs_at] at h1 ⊢
    exact h1
  · rw [gs_ne hj, gs_ne hj] at h1
    rw [gs_ne hj]
    exact h1
theorem gs_back {Γ : Nat → q_K} {i : Nat} {k : q_K} {h : q_H} (hok : q_ok (gset Γ i k) h) (hc : ∀ c, q_okc k c → q_okc (Γ i) c) : q_ok Γ h := fun j => by
  have h1 := hok j
  by_cases hj : j = i
  · subst hj
    rw [gs_at] at h1
    exact hc _ h1
  · rw [gs_ne hj] at h1
    exact h1
/-! frames: only rows of the kinds 8 and 9 differ -/
def fr89 (Γ Γ' : Nat → q_K) : Prop := ∀ j, (Γ j).1 ≠ 8 → (Γ j).1 ≠ 9 → Γ' j = Γ j
theorem fr89.rf {Γ : Nat → q_K} : fr89 Γ Γ := fun _ _ _ => rfl
theorem fr89.tr {Γ Γ' Γ'' : Nat → q_K} (h : fr89 Γ Γ') (h' : fr89 Γ' Γ'') : fr89 Γ Γ'' := fun j h8 h9 => by
  have e := h j h8 h9
  exact (h' j (by rw [e]; exact h8) (by rw [e]; exact h9)).trans e
theorem fr89.at {Γ Γ' : Nat → q_K} (h : fr89 Γ Γ') {i t : Nat} {r : Nat × List (Nat × Nat)} (hg : Γ i = (t, r)) (h8 : t ≠ 8) (h9 : t ≠ 9) : Γ' i = (t, r) := (h i (by rw [hg]; exact h8) (by rw [hg]; exact h9)).trans hg
theorem fr89.s8 {Γ : Nat → q_K} {i : Nat} {r : Nat × List (Nat × Nat)} {k : q_K} (hg : Γ i = (8, r)) : fr89 Γ (gset Γ i k) := fun j h8 _ => gs_ne fun e => h8 (by rw [e, hg])
theorem fr89.s9 {Γ : Nat → q_K} {i : Nat} {r : Nat × List (Nat × Nat)} {k : q_K} (hg : Γ i = (9, r)) : fr89 Γ (gset Γ i k) := fun j _ h9 => gs_ne fun e => h9 (by rw [e, hg])
theorem kF.fr {Γ Γ' : Nat → q_K} (h : fr89 Γ Γ') {i : Nat} (k : kF Γ i) : kF Γ' i := by
  obtain ⟨t, k1, k2⟩ := k
  exact ⟨t, h.at k1 (by decide) (by decide), h.at k2 (by decide) (by decide)⟩
theorem kLg.fr {Γ Γ' : Nat → q_K} (h : fr89 Γ Γ') {i : Nat} (k : kLg Γ i) : kLg Γ' i := by
  obtain ⟨a, b, c, d, k1, k2, k3, k4, k5⟩ := k
  exact ⟨a, b, c, d, h.at k1 (by decide) (by decide), h.at k2 (by decide) (by decide), h.at k3 (by decide) (by decide), h.at k4 (by decide) (by decide), h.at k5 (by decide) (by decide)⟩
theorem kLk.fr {Γ Γ' : Nat → q_K} (h : fr89 Γ Γ') {i : Nat} (k : kLk Γ i) : kLk Γ' i := by
  obtain ⟨fa, ma, fl, ml, k1, k2, k3, k4, k5, k6, k7⟩ := k
  exact ⟨fa, ma, fl, ml, h.at k1 (by decide) (by decide), h.at k2 (by decide) (by decide), k3, fun q p hp => (k4 q p hp).fr h, h.at k5 (by decide) (by decide), k6, k7⟩
theorem kGF.fr {Γ Γ' : Nat → q_K} (h : fr89 Γ Γ') {i many : Nat} (k : kGF Γ i many) : kGF Γ' i many := by
  obtain ⟨la, lg, ps, k1, k2, k3, k4, k5⟩ := k
  exact ⟨la, lg, ps, h.at k1 (by decide) (by decide), h.at k2 (by decide) (by decide), k3, fun q p hp => (k4 q p hp).fr h, k5.fr h⟩
/-! the members of the link at B, whose number is l: what they want, by 48 * l + 8 * m + g -/
abbrev q_PL (B : Nat) : List (Nat × Nat) := [(0, 0), (1, B + 1), (1, B + 2), (0, 0), (0, 0), (0, 0), (0, 0), (0, 0)]
abbrev q_PM (B : Nat) : List (Nat × Nat) := (List.range 6).map (fun m => (1, B + 19 + 3 * m))
def kMo (Γ : Nat → q_K) (B : Nat) : Prop := Γ B = (4, 1, q_PL B) ∧ Γ (B + 2) = (3, 4, q_PM B) ∧ ∀ m, m < 6 → Γ (B + 19 + 3 * m) = (4, 2, [(1, B + 20 + 3 * m), (1, B + 21 + 3 * m)])
def kMe (Γ : Nat → q_K) (B : Nat) : Prop := kMo Γ B ∧ ∀ m, m < 6 → (∃ F, Γ (B + 20 + 3 * m) = (8, 0, q_rg 8 F)) ∧ ∃ E, Γ (B + 21 + 3 * m) = (9, 0, q_rg 8 E)
def kMm (Γ : Nat → q_K) (B l : Nat) (f e : Nat → Int32) : Prop := kMo Γ B ∧ ∀ m, m < 6 → Γ (B + 20 + 3 * m) = (8, 0, q_rg 8 (fun g => f (48 * l + 8 * m + g))) ∧ Γ (B + 21 + 3 * m) = (9, 0, q_rg 8 (fun g => e (48 * l + 8 * m + g)))
theorem kMm.e {Γ : Nat → q_K} {B l : Nat} {f e : Nat → Int32} (h : kMm Γ B l f e) : kMe Γ B := ⟨h.1, fun m hm => ⟨⟨_, (h.2 m hm).1⟩, _, (h.2 m hm).2⟩⟩
theorem kMo.fr {Γ Γ' : Nat → q_K} (h : fr89 Γ Γ') {B : Nat} (k : kMo Γ B) : kMo Γ' B := ⟨h.at k.1 (by decide) (by decide), h.at k.2.1 (by decide) (by decide), fun m hm => h.at (k.2.2 m hm) (by decide) (by decide)⟩
theorem kMm.of {Γ Γ' : Nat → q_K} {B l : Nat} {f e f' e' : Nat → Int32} (h : kMm Γ B l f e) (ha : ∀ j, B ≤ j → j < B + 37 → Γ' j = Γ j) (hf : ∀ j, 48 * l ≤ j → j < 48 * l + 48 → f' j = f j ∧ e' j = e j) : kMm Γ' B l f' e' := by
  refine ⟨⟨(ha _ (by omega) (by omega)).trans h.1.1, (ha _ (by omega) (by omega)).trans h.1.2.1, fun m hm => (ha _ (by omega) (by omega)).trans (h.1.2.2 m hm)⟩, fun m hm => ⟨?_, ?_⟩⟩
  · rw [ha _ (by omega) (by omega), (h.2 m hm).1, q_rg_cg (fun g hg => (hf (48 * l + 8 * m + g) (by omega) (by omega)).1.symm)]
  · rw [ha _ (by omega) (by omega), (h.2 m hm).2, q_rg_cg (fun g hg => (hf (48 * l + 8 * m + g) (by omega) (by omega)).2.symm)]
theorem q_PM_at {B m : Nat} (hm : m < 6) : (q_PM B)[m]? = some (1, B + 19 + 3 * m) := by
  rw [List.getElem?_map, List.getElem?_range hm]
  rfl
def z0 : Nat → Int32 := fun _ => nI 0
def kL0 (Γ : Nat → q_K) (j x : Nat) : Prop := kLk Γ j ∧ (∀ l, kMm Γ j l z0 z0) ∧ j = x
def kGm (Γ : Nat → q_K) (X many : Nat) (f e : Nat → Int32) : Prop := Γ X = (4, 4, [(1, X + 1), (1, X + 2 + 37 * many)]) ∧ Γ (X + 1) = (3, 2, (List.range many).map (fun l => (1, X + 2 + 37 * l))) ∧ ∀ l, l < many → kMm Γ (X + 2 + 37 * l) l f e
theorem kGm.of {Γ Γ' : Nat → q_K} {X many : Nat} {f e f' e' : Nat → Int32} (h : kGm Γ X many f e) (ha : ∀ j, X ≤ j → j < X + 2 + 37 * many → Γ' j = Γ j) (hf : ∀ j, j < 48 * many → f' j = f j ∧ e' j = e j) : kGm Γ' X many f' e' :=
  ⟨(ha _ (by omega) (by omega)).trans h.1, (ha _ (by omega) (by omega)).trans h.2.1, fun l hl => (h.2.2 l hl).of (fun j h1 h2 => ha j (by omega) (by omega)) (fun j h1 h2 => hf j (by omega))⟩
theorem q_PK_at {X many l : Nat} (hl : l < many) : ((List.range many).map (fun l => ((1, X + 2 + 37 * l) : Nat × Nat)))[l]? = some (1, X + 2 + 37 * l) := by
  rw [List.getElem?_map, List.getElem?_range hl]
  rfl

