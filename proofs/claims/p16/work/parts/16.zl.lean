theorem q_chk2 {a : Int32} {B : Nat} (hB : B < 2 ^ 30) (h1 : ¬ a < nI 0) (h2 : ¬ nI B < a) : ∃ g, g ≤ B ∧ a = nI g := by
  rw [Int32.lt_iff_toInt_lt, nI_toInt (by decide)] at h1
  rw [Int32.lt_iff_toInt_lt, nI_toInt (by omega)] at h2
  obtain ⟨g, hg, e⟩ := vp_in_of (vp_in_iff.mpr ⟨by omega, by omega⟩ : vp_in a (B + 1)) (by omega)
  exact ⟨g, by omega, e⟩
def q_clamp (x : Int32) : Int32 := if x < nI 1 then nI 1 else if nI 4 < x then nI 4 else x
theorem q_cl (lk : Int32) : ∃ many : Nat, 1 ≤ many ∧ many ≤ 4 ∧ nI many = q_clamp lk ∧ (if nI 1 < (if nI 4 < lk then nI 4 else lk) then (if nI 4 < lk then nI 4 else lk) else nI 1) = nI many := by
  by_cases h4 : nI 4 < lk
  · have h1 : ¬ lk < nI 1 := fun q => by
      rw [Int32.lt_iff_toInt_lt, nI_toInt (by decide)] at h4 q
      omega
    refine ⟨4, by omega, by omega, ?_, ?_⟩
    · unfold q_clamp
      rw [if_neg h1, if_pos h4]
    · rw [if_pos h4]
      rfl
  · by_cases h1 : lk < nI 1
    · refine ⟨1, by omega, by omega, ?_, ?_⟩
      · unfold q_clamp
        rw [if_pos h1]
      · rw [if_neg h4, if_neg]
        intro q
        rw [Int32.lt_iff_toInt_lt, nI_toInt (by decide)] at h1 q
        omega
    · obtain ⟨g, hg, rfl⟩ := q_chk2 (a := lk) (B := 4) (by decide) (fun q => h1 (by
        rw [Int32.lt_iff_toInt_lt, nI_toInt (by decide)] at q ⊢
        omega)) h4
      have hg1 : 1 ≤ g := Nat.le_of_not_lt fun q => h1 ((nI_ltI (by omega) (by decide)).mpr q)
      refine ⟨g, hg1, hg, ?_, ?_⟩
      · unfold q_clamp
        rw [if_neg h1, if_neg h4]
      · rw [if_neg h4]
        by_cases h5 : nI 1 < nI g
        · rw [if_pos h5]
        · rw [if_neg h5]
          have : ¬ 1 < g := fun q => h5 ((nI_ltI (by decide) (by omega)).mpr q)
          rw [show g = 1 by omega]
theorem eJ9_min (Sc : q_S) (Γ : Nat → q_K) (n : Nat) (a b : Int32) : q_safe Sc Γ mJ9_min_7cf53 [.int a, .int b] n 0 0 (fun O => O = .inl (some (.int (if b < a then b else a)))) := by
  intro h hok
  show q_A Sc mJ9_min_7cf53 0 [.int a, .int b] [] h n 0 0 (fun O h' n' => (O = .inl (some (.int (if b < a then b else a)))) ∧ q_ok Γ h' ∧ n' = n)
  refine q_iload_n dJ9_min_7cf53_0 rfl ?_
  refine q_iload_n dJ9_min_7cf53_1 rfl ?_
  refine q_icmp_gt (tgt := 9) dJ9_min_7cf53_2 (by decide) (fun c => ?_) (fun c => ?_)
  · refine q_iload_n dJ9_min_7cf53_9 rfl ?_
    exact q_iret dJ9_min_7cf53_10 rfl rfl ⟨by rw [if_pos c], hok, rfl⟩
  · refine q_iload_n dJ9_min_7cf53_5 rfl ?_
    refine q_goto (tgt := 10) dJ9_min_7cf53_6 (by decide) ?_
    exact q_iret dJ9_min_7cf53_10 rfl rfl ⟨by rw [if_neg c], hok, rfl⟩
theorem eJ9_max (Sc : q_S) (Γ : Nat → q_K) (n : Nat) (a b : Int32) : q_safe Sc Γ mJ9_max_7cf53 [.int a, .int b] n 0 0 (fun O => O = .inl (some (.int (if a < b then b else a)))) := by
  intro h hok
  show q_A Sc mJ9_max_7cf53 0 [.int a, .int b] [] h n 0 0 (fun O h' n' => (O = .inl (some (.int (if a < b then b else a)))) ∧ q_ok Γ h' ∧ n' = n)
  refine q_iload_n dJ9_max_7cf53_0 rfl ?_
  refine q_iload_n dJ9_max_7cf53_1 rfl ?_
  refine q_icmp_lt (tgt := 9) dJ9_max_7cf53_2 (by decide) (fun c => ?_) (fun c => ?_)
  · refine q_iload_n dJ9_max_7cf53_9 rfl ?_
    exact q_iret dJ9_max_7cf53_10 rfl rfl ⟨by rw [if_pos c], hok, rfl⟩
  · refine q_iload_n dJ9_max_7cf53_5 rfl ?_
    refine q_goto (tgt := 10) dJ9_max_7cf53_6 (by decide) ?_
    exact q_iret dJ9_max_7cf53_10 rfl rfl ⟨by rw [if_neg c], hok, rfl⟩

theorem n5.gX {Γ : Nat → q_K} {V : q_V} (h : n5 Γ) : n5 (gX Γ V) := fun i => by
  have h1 := h i
  show (gxc (Γ i) (V i)).1 ≠ 5
  rcases e : Γ i with ⟨t, N, ps⟩
  rw [e] at h1
  have h5 : t ≠ 5 := h1
  by_cases c1 : t = 1
  · subst c1
    exact (show (8 : Nat) ≠ 5 by decide)
  · by_cases c2 : t = 2
    · subst c2
      exact (show (9 : Nat) ≠ 5 by decide)
    · by_cases c4 : t = 4
      · subst c4
        exact (show (4 : Nat) ≠ 5 by decide)
      · have e2 : gxc (t, N, ps) (V i) = (t, N, ps) := by
          unfold gxc
          dsimp only
          split <;> first | rfl | omega
        rw [e2]
        exact h1
set_option maxHeartbeats 4000000 in
theorem nX4_init (Sc : q_S) (Γ : Nat → q_K) (X : Nat) (hg : Γ X = (4, 4, [(3, 0), (3, 0)])) (hn5 : n5 Γ) (lk : Int32) (h : q_H) (hok : q_ok Γ h) : q_A Sc mX4_init 0 [.ref X, .int lk, .retAddr 0, .retAddr 0] [] h (X + 1) 200 1500 (fun O h' n' => O = .inl none ∧ ∃ (many : Nat) (Γ' : Nat → q_K) (V' : q_V), 1 ≤ many ∧ many ≤ 4 ∧ nI many = q_clamp lk ∧ n' = X + 7 + 37 * many ∧ q_ok (gX Γ' V') h' ∧ n5 Γ' ∧ sGF Γ' X many ∧ (∀ l, l < many → CL V' (X + 2 + 37 * l) ∧ V' (X + 2 + 37 * l) 0 = nI l) ∧ V' (X + 2 + 37 * many) 4 = nI 0 ∧ V' (X + 2 + 37 * many) 5 = nI 0) := by
  obtain ⟨many, hm1, hm4, hmc, hmv⟩ := q_cl lk
  have hl : ∀ (d g : Nat) (Γ1 : Nat → q_K) (V1 : q_V) (ps : List (Nat × Nat)) (h : q_H), g + d = many → q_ok (gX Γ1 V1) h → n5 Γ1 → Γ1 X = (4, 4, [(1, X + 1), (3, 0)]) → Γ1 (X + 1) = (6, 2, ps) → ps.length = many → (∀ k, k < g → ps[k]? = some (1, X + 2 + 37 * k)) → (∀ k, k < g → sLk Γ1 (X + 2 + 37 * k) ∧ CL V1 (X + 2 + 37 * k) ∧ V1 (X + 2 + 37 * k) 0 = nI k) →
      q_A Sc mX4_init 24 [.ref X, .int lk, .int (nI many), .int (nI g)] [] h (X + 2 + 37 * g) (37 * d + 5) (298 * d + 166) (fun O h' n' => O = .inl none ∧ ∃ (many : Nat) (Γ' : Nat → q_K) (V' : q_V), 1 ≤ many ∧ many ≤ 4 ∧ nI many = q_clamp lk ∧ n' = X + 7 + 37 * many ∧ q_ok (gX Γ' V') h' ∧ n5 Γ' ∧ sGF Γ' X many ∧ (∀ l, l < many → CL V' (X + 2 + 37 * l) ∧ V' (X + 2 + 37 * l) 0 = nI l) ∧ V' (X + 2 + 37 * many) 4 = nI 0 ∧ V' (X + 2 + 37 * many) 5 = nI 0) := by
    intro d
    induction d with
    | zero =>
      intro g Γ1 V1 ps h eg hok h9 h1 h2 h3 h4 h5
      obtain rfl : g = many := by omega
      refine q_iload_n dX4_init_24 rfl ?_
      refine q_iload_n dX4_init_25 rfl ?_
      refine t_icmp_ge_n (tgt := 49) (by omega) (by omega) dX4_init_26 (by decide) (fun c1 => ?_) (fun c1 => absurd c1 (by omega))
      refine q_aload_n dX4_init_49 rfl ?_
      have hps := rg_eq (f := fun l => (1, X + 2 + 37 * l)) h3 h4
      have hok := c_full hok (gX_6 h2) (fun k p hp => by
        have hk : k < g := by rw [← h3]; exact (List.getElem?_eq_some_iff.mp hp).1
        rw [Option.some.inj (hp.symm.trans (h4 k hk))])
      refine c_new (fs := [.null, .null, .null, .null, .int 0, .int 0]) [(3, 0), (3, 0), (3, 0), (3, 0), (2, 0), (2, 0)] kX3 wKX4_27 wZX3 wNX3 dX4_init_50 (fun j hj => by rcases (show j = 0 ∨ j = 1 ∨ j = 2 ∨ j = 3 ∨ j = 4 ∨ j = 5 by omega) with rfl | rfl | rfl | rfl | rfl | rfl <;> rfl) (fun _ => ⟨_, _, rfl, rfl, ⟨_, _, rfl, rfl, ⟨_, _, rfl, rfl, ⟨_, _, rfl, rfl, ⟨_, _, rfl, rfl, ⟨_, _, rfl, rfl, rfl⟩⟩⟩⟩⟩⟩) (⟨_, _, rfl, rfl, ⟨_, _, rfl, rfl, ⟨_, _, rfl, rfl, ⟨_, _, rfl, rfl, ⟨_, _, rfl, rfl, ⟨_, _, rfl, rfl, rfl⟩⟩⟩⟩⟩⟩) (by omega) (by omega) hok (fun h hok => ?_)
      refine q_dup dX4_init_53 rfl ?_
      refine c_callI (M' := mX3_init) [] _ dX4_init_54 wPX4_29 wIX3_init wCX3_init rfl rfl rfl oX3_init rfl (nX3_init Sc _ _ _ (by omega) gs_at h hok) (by omega) (by omega) (Nat.le_of_ble_eq_true rfl) (Nat.le_of_ble_eq_true rfl) (Nat.le_of_ble_eq_true rfl) rfl (fun O h' n' q => q.1) (fun h n' q => ?_)
      obtain ⟨-, en, hok⟩ := q
      obtain ⟨Γ3, hok, n3, hlow, a0, a1, a2, a3, a4⟩ : ∃ Γ3 : Nat → q_K, q_ok Γ3 h ∧ n5 Γ3 ∧ (∀ j, j < X + 2 + 37 * g → Γ3 j = gset (gX Γ1 V1) (X + 1) (3, 2, ps) j) ∧ Γ3 (X + 2 + 37 * g) = (4, 3, [(1, X + 2 + 37 * g + 1), (1, X + 2 + 37 * g + 2), (1, X + 2 + 37 * g + 3), (1, X + 2 + 37 * g + 4), (2, 0), (2, 0)]) ∧ Γ3 (X + 2 + 37 * g + 1) = (1, 40, []) ∧ Γ3 (X + 2 + 37 * g + 2) = (1, 40, []) ∧ Γ3 (X + 2 + 37 * g + 3) = (1, 40, []) ∧ Γ3 (X + 2 + 37 * g + 4) = (1, 40, []) := by
        refine ⟨_, hok, ((((((((((n5.gX h9).gs (by decide)).gs (by decide)).gs (by decide)).gs (by decide)).gs (by decide)).gs (by decide)).gs (by decide)).gs (by decide)).gs (by decide)).gs (by decide), fun j hj => ?_, gs_at, ?_, ?_, ?_, ?_⟩
        · rw [gs_ne (by omega), gs_ne (by omega), gs_ne (by omega), gs_ne (by omega), gs_ne (by omega), gs_ne (by omega), gs_ne (by omega), gs_ne (by omega), gs_ne (by omega)]
        · rw [gs_ne (by omega), gs_ne (by omega), gs_ne (by omega), gs_ne (by omega), gs_ne (by omega), gs_ne (by omega), gs_ne (by omega)]; exact gs_at
        · rw [gs_ne (by omega), gs_ne (by omega), gs_ne (by omega), gs_ne (by omega), gs_ne (by omega)]; exact gs_at
        · rw [gs_ne (by omega), gs_ne (by omega), gs_ne (by omega)]; exact gs_at
        · rw [gs_ne (by omega)]; exact gs_at
      have gX0 : Γ3 X = (4, 4, [(1, X + 1), (3, 0)]) := (hlow X (by omega)).trans ((gs_ne (by omega)).trans (gX_o h1))
      refine c_put 1 (p := (1, X + 2 + 37 * g)) kX4 (by decide) wQX4_30 (Or.inr ⟨rfl, rfl, rfl⟩) dX4_init_57 hok (ps := [(1, X + 1), (3, 0)]) gX0 (by exact Nat.le_of_ble_eq_true rfl) (fun _ => ⟨rfl, rfl⟩) (by rfl) (fun h hok => ?_)
      have gL : gset Γ3 X (4, 4, List.set [(1, X + 1), (3, 0)] 1 (1, X + 2 + 37 * g)) (X + 2 + 37 * g) = (4, 3, [(1, X + 2 + 37 * g + 1), (1, X + 2 + 37 * g + 2), (1, X + 2 + 37 * g + 3), (1, X + 2 + 37 * g + 4), (2, 0), (2, 0)]) := (gs_ne (by omega)).trans a0
      have hok3 := wk_obj (K' := (4, 3, [(1, X + 2 + 37 * g + 1), (1, X + 2 + 37 * g + 2), (1, X + 2 + 37 * g + 3), (1, X + 2 + 37 * g + 4), (0, 0), (0, 0)])) hok gL (fun c hc => by
        obtain ⟨fs, e1, f0, r0, e0, m0, f2, r2, e2, m2, f3, r3, e3, m3, f4, r4, e4, m4, f5, r5, e5, m5, f6, r6, e6, m6, hr⟩ := hc
        exact ⟨fs, e1, f0, r0, e0, m0, f2, r2, e2, m2, f3, r3, e3, m3, f4, r4, e4, m4, f5, r5, e5, ⟨_, m5⟩, f6, r6, e6, ⟨_, m6⟩, hr⟩)
      have nn3 := (n3.gs (i := X) (t := 4) (r := (4, List.set [(1, X + 1), (3, 0)] 1 (1, X + 2 + 37 * g))) (by decide)).gs (i := X + 2 + 37 * g) (t := 4) (r := (3, [(1, X + 2 + 37 * g + 1), (1, X + 2 + 37 * g + 2), (1, X + 2 + 37 * g + 3), (1, X + 2 + 37 * g + 4), (0, 0), (0, 0)])) (by decide)
      have hok4 := ex_of hok3 nn3
      have hv4 := val_of hok gL (k := 4) rfl hok4 gs_at (z' := 0) rfl
      have hv5 := val_of hok gL (k := 5) rfl hok4 gs_at (z' := 0) rfl
      obtain ⟨VV, hVV⟩ : ∃ Z : q_V, Z = (fun i => vOf (h i)) := ⟨_, rfl⟩
      rw [← hVV] at hok4
      have hv4 : VV (X + 2 + 37 * g) 4 = nI 0 := by rw [hVV]; exact hv4
      have hv5 : VV (X + 2 + 37 * g) 5 = nI 0 := by rw [hVV]; exact hv5
      have hok5 := mrg (Γ1 := gset (gset Γ1 (X + 1) (3, 2, ps)) X (4, 4, [(1, X + 1), (1, X + 2 + 37 * g)])) (V1 := V1) (lim := X + 2 + 37 * g) hok4 (fun j hj => by
        rw [gs_ne (by omega)]
        by_cases hjX : j = X
        · subst hjX
          rw [gs_at]
          exact (gX_o (Γ := gset (gset Γ1 (j + 1) (3, 2, ps)) j (4, 4, [(1, j + 1), (1, j + 2 + 37 * g)])) (V := V1) gs_at).symm
        · rw [gs_ne hjX, hlow j hj]
          show _ = gxc (gset (gset Γ1 (X + 1) (3, 2, ps)) X (4, 4, [(1, X + 1), (1, X + 2 + 37 * g)]) j) (V1 j)
          rw [gs_ne hjX]
          by_cases hj1 : j = X + 1
          · subst hj1
            rw [gs_at, gs_at]
            rfl
          · rw [gs_ne hj1, gs_ne hj1]
            rfl)
      have lowΓ : ∀ j, j < X + 2 + 37 * g → j ≠ X → j ≠ X + 1 → (if j < X + 2 + 37 * g then gset (gset Γ1 (X + 1) (3, 2, ps)) X (4, 4, [(1, X + 1), (1, X + 2 + 37 * g)]) j else gset (gset Γ3 X (4, 4, List.set [(1, X + 1), (3, 0)] 1 (1, X + 2 + 37 * g))) (X + 2 + 37 * g) (4, 3, [(1, X + 2 + 37 * g + 1), (1, X + 2 + 37 * g + 2), (1, X + 2 + 37 * g + 3), (1, X + 2 + 37 * g + 4), (0, 0), (0, 0)]) j) = Γ1 j := fun j hj h7 h8 => by
        rw [if_pos hj, gs_ne h7, gs_ne h8]
      refine q_vret dX4_init_60 rfl ⟨rfl, g, _, _, hm1, hm4, hmc, by omega, hok5, ?_, ⟨?_, ?_, fun l hl => ?_, ?_, ?_, ?_, ?_, ?_⟩, fun l hl => ⟨?_, ?_⟩, ?_, ?_⟩
      · intro j
        show ((if j < X + 2 + 37 * g then _ else _ : q_K)).1 ≠ 5
        by_cases hj : j < X + 2 + 37 * g
        · rw [if_pos hj]
          exact ((h9.gs (by decide)).gs (by decide)) j
        · rw [if_neg hj]
          exact nn3 j
      · show (if X < X + 2 + 37 * g then _ else _) = _
        rw [if_pos (by omega)]
        exact gs_at
      · show (if X + 1 < X + 2 + 37 * g then _ else _) = _
        rw [if_pos (by omega), gs_ne (by omega), gs_at, hps]
      · exact (h5 l hl).1.cg (fun j hj1 hj2 => lowΓ j (by omega) (by omega) (by omega))
      · show (if X + 2 + 37 * g < X + 2 + 37 * g then _ else _) = _
        rw [if_neg (by omega)]
        exact gs_at
      · show (if X + 2 + 37 * g + 1 < X + 2 + 37 * g then _ else _) = _
        rw [if_neg (by omega), gs_ne (by omega), gs_ne (by omega)]
        exact a1
      · show (if X + 2 + 37 * g + 2 < X + 2 + 37 * g then _ else _) = _
        rw [if_neg (by omega), gs_ne (by omega), gs_ne (by omega)]
        exact a2
      · show (if X + 2 + 37 * g + 3 < X + 2 + 37 * g then _ else _) = _
        rw [if_neg (by omega), gs_ne (by omega), gs_ne (by omega)]
        exact a3
      · show (if X + 2 + 37 * g + 4 < X + 2 + 37 * g then _ else _) = _
        rw [if_neg (by omega), gs_ne (by omega), gs_ne (by omega)]
        exact a4
      · exact (h5 l hl).2.1.cg (fun j hj1 hj2 => if_pos (by omega))
      · show (if X + 2 + 37 * l < X + 2 + 37 * g then V1 (X + 2 + 37 * l) else VV (X + 2 + 37 * l)) 0 = nI l
        rw [if_pos (by omega)]
        exact (h5 l hl).2.2
      · show (if X + 2 + 37 * g < X + 2 + 37 * g then V1 (X + 2 + 37 * g) else VV (X + 2 + 37 * g)) 4 = nI 0
        rw [if_neg (by omega)]
        exact hv4
      · show (if X + 2 + 37 * g < X + 2 + 37 * g then V1 (X + 2 + 37 * g) else VV (X + 2 + 37 * g)) 5 = nI 0
        rw [if_neg (by omega)]
        exact hv5
    | succ d ih =>
      intro g Γ1 V1 ps h eg hok h9 h1 h2 h3 h4 h5
      refine q_iload_n dX4_init_24 rfl ?_
      refine q_iload_n dX4_init_25 rfl ?_
      refine t_icmp_ge_n (tgt := 49) (by omega) (by omega) dX4_init_26 (by decide) (fun c1 => absurd c1 (by omega)) (fun c1 => ?_)
      refine q_aload_n dX4_init_29 rfl ?_
      refine v_getr 0 kX4 (by decide) wPX4_20 dX4_init_30 hok h1 rfl ?_
      refine q_iload_n dX4_init_33 rfl ?_
      refine c_new (fs := [.int 0, .null, .null, .int 0, .int 0, .int 0, .int 0, .int 0]) [(0, 0), (3, 0), (3, 0), (0, 0), (0, 0), (0, 0), (0, 0), (0, 0)] kX1 wKX4_18 wZX1 wNX1 dX4_init_34 (fun j hj => by rcases (show j = 0 ∨ j = 1 ∨ j = 2 ∨ j = 3 ∨ j = 4 ∨ j = 5 ∨ j = 6 ∨ j = 7 by omega) with rfl | rfl | rfl | rfl | rfl | rfl | rfl | rfl <;> rfl) (fun _ => ⟨_, _, rfl, rfl, ⟨_, _, rfl, rfl, ⟨_, _, rfl, rfl, ⟨_, _, rfl, rfl, ⟨_, _, rfl, rfl, ⟨_, _, rfl, rfl, ⟨_, _, rfl, rfl, ⟨_, _, rfl, rfl, rfl⟩⟩⟩⟩⟩⟩⟩⟩) (⟨_, _, rfl, ⟨_, rfl⟩, ⟨_, _, rfl, rfl, ⟨_, _, rfl, rfl, ⟨_, _, rfl, ⟨_, rfl⟩, ⟨_, _, rfl, ⟨_, rfl⟩, ⟨_, _, rfl, ⟨_, rfl⟩, ⟨_, _, rfl, ⟨_, rfl⟩, ⟨_, _, rfl, ⟨_, rfl⟩, rfl⟩⟩⟩⟩⟩⟩⟩⟩) (by omega) (by omega) hok (fun h hok => ?_)
      refine q_dup dX4_init_37 rfl ?_
      refine q_iload_n dX4_init_38 rfl ?_
      refine c_callI (M' := mX1_init) [.int (nI g)] _ dX4_init_39 wPX4_24 wIX1_init wCX1_init rfl rfl rfl oX1_init rfl (nX1_init Sc _ _ gs_at ((n5.gX h9).gs (by decide)) (nI g) h hok) (by omega) (by omega) (Nat.le_of_ble_eq_true rfl) (Nat.le_of_ble_eq_true rfl) (Nat.le_of_ble_eq_true rfl) rfl (fun O h' n' q => q.1) (fun h n' q => ?_)
      obtain ⟨-, en, Γ2, V2, hok, n2, hfr, hS, hC, hN⟩ := q
      obtain rfl : n' = X + 2 + 37 * (g + 1) := by omega
      have hok := mrg (Γ1 := Γ1) (V1 := V1) (lim := X + 2 + 37 * g) hok (fun j hj => (hfr j hj).trans (gs_ne (by omega)))
      have n4 : n5 (fun j => if j < X + 2 + 37 * g then Γ1 j else Γ2 j) := fun j => by
        show ((if j < X + 2 + 37 * g then Γ1 j else Γ2 j : q_K)).1 ≠ 5
        by_cases hj : j < X + 2 + 37 * g
        · rw [if_pos hj]
          exact h9 j
        · rw [if_neg hj]
          exact n2 j
      have lo : ∀ j, j < X + 2 + 37 * g → (fun j => if j < X + 2 + 37 * g then Γ1 j else Γ2 j) j = Γ1 j := fun j hj => if_pos hj
      have hi : ∀ j, X + 2 + 37 * g ≤ j → (fun j => if j < X + 2 + 37 * g then Γ1 j else Γ2 j) j = Γ2 j := fun j hj => if_neg (by omega)
      have lov : ∀ j, j < X + 2 + 37 * g → (fun j => if j < X + 2 + 37 * g then V1 j else V2 j) j = V1 j := fun j hj => if_pos hj
      have hiv : ∀ j, X + 2 + 37 * g ≤ j → (fun j => if j < X + 2 + 37 * g then V1 j else V2 j) j = V2 j := fun j hj => if_neg (by omega)
      generalize (fun j => if j < X + 2 + 37 * g then Γ1 j else Γ2 j) = Γ3 at hok n4 lo hi
      generalize (fun j => if j < X + 2 + 37 * g then V1 j else V2 j) = V3 at hok lov hiv
      refine c_aast kX1 dX4_init_42 hok (i := X + 1) (t := 2) (ps := ps) (gX_6 ((lo _ (by omega)).trans h2)) rfl (gX_o ((hi _ (by omega)).trans hS.1)) (by rw [h3]; exact vp_in_nI (by omega) (by omega)) (fun h hok => ?_)
      rw [nI_clamp (by omega), gX_gs rfl] at hok
      refine t_iinc_n [.ref X, .int lk, .int (nI many), .int (nI (g + 1))] dX4_init_43 rfl (by decide) rfl ?_
      refine q_goto (tgt := 24) dX4_init_46 (by decide) ?_
      refine q_less (by omega) (by omega) (ih (g + 1) _ V3 _ h (by omega) hok (n4.gs (by decide)) ?_ gs_at (by rw [List.length_set]; exact h3) ?_ ?_)
      · rw [gs_ne (by omega), lo _ (by omega)]; exact h1
      · intro k hk
        by_cases hkg : k = g
        · subst hkg
          exact List.getElem?_set_self (by omega)
        · rw [List.getElem?_set_ne (by omega)]
          exact h4 k (by omega)
      · intro k hk
        by_cases hkg : k = g
        · subst hkg
          refine ⟨hS.cg (fun j hj1 hj2 => (gs_ne (by omega)).trans (hi j hj1)), hC.cg (fun j hj1 hj2 => hiv j hj1), ?_⟩
          rw [hiv _ (Nat.le_refl _)]
          exact hN
        · obtain ⟨b1, b2, b3⟩ := h5 k (by omega)
          refine ⟨b1.cg (fun j hj1 hj2 => (gs_ne (by omega)).trans (lo j (by omega))), b2.cg (fun j hj1 hj2 => lov j (by omega)), ?_⟩
          rw [lov _ (by omega)]
          exact b3
  refine q_aload_n dX4_init_0 rfl ?_
  refine q_obj dX4_init_1 wOX4 wOi wOc (by decide) (Nat.le_of_ble_eq_true rfl) ?_
  refine q_iconst (v := nI 1) dX4_init_4 rfl ?_
  refine q_iload_n dX4_init_5 rfl ?_
  refine q_iconst (v := nI 4) dX4_init_6 rfl ?_
  refine t_callS (M' := mJ9_min_7cf53) [.int lk, .int (nI 4)] [.int (nI 1)] dX4_init_7 wPX4_9 wTJ9_min_7cf53 wNJ9 iJ9_min_7cf53 oJ9_min_7cf53 rfl hok (eJ9_min Sc Γ _ lk (nI 4)) (by omega) (by omega) (Nat.le_of_ble_eq_true rfl) (Nat.le_of_ble_eq_true rfl) (Nat.le_of_ble_eq_true rfl) rfl (fun v h qv hok => ?_) (fun x h qx hok => absurd qx (by intro q; cases q))
  obtain rfl := Sum.inl.inj qv
  refine t_callS (M' := mJ9_max_7cf53) [.int (nI 1), .int (if nI 4 < lk then nI 4 else lk)] [] dX4_init_10 wPX4_15 wTJ9_max_7cf53 wNJ9 iJ9_max_7cf53 oJ9_max_7cf53 rfl hok (eJ9_max Sc Γ _ (nI 1) _) (by omega) (by omega) (Nat.le_of_ble_eq_true rfl) (Nat.le_of_ble_eq_true rfl) (Nat.le_of_ble_eq_true rfl) rfl (fun v h qv hok => ?_) (fun x h qx hok => absurd qx (by intro q; cases q))
  obtain rfl := Sum.inl.inj qv
  rw [hmv]
  refine t_istore [.ref X, .int lk, .int (nI many), .retAddr 0] (Or.inl ⟨2, rfl, rfl, dX4_init_13⟩) (by decide) rfl ?_
  refine q_aload_n dX4_init_14 rfl ?_
  refine q_iload_n dX4_init_15 rfl ?_
  refine c_newq (t := 2) dX4_init_16 rfl wKX4_18 wYX1 (nI_pos (by omega)) (nI_clamp (by omega)) (by omega) (by omega) (by omega) hok (fun h hok => ?_)
  refine c_put 0 (p := (1, X + 1)) kX4 (by decide) wQX4_20 (Or.inr ⟨rfl, rfl, rfl⟩) dX4_init_19 hok ((gs_ne (by omega)).trans hg) (by exact Nat.le_of_ble_eq_true rfl) (fun _ => ⟨rfl, rfl⟩) (by rfl) (fun h hok => ?_)
  refine q_iconst (v := nI 0) dX4_init_22 rfl ?_
  refine t_istore [.ref X, .int lk, .int (nI many), .int (nI 0)] (Or.inl ⟨3, rfl, rfl, dX4_init_23⟩) (by decide) rfl ?_
  have nn0 := (hn5.gs (i := X + 1) (t := 6) (r := (2, List.replicate many (0, 0))) (by decide)).gs (i := X) (t := 4) (r := (4, List.set [(3, 0), (3, 0)] 0 (1, X + 1))) (by decide)
  refine q_less (by omega) (by omega) (hl many 0 _ _ (List.replicate many (0, 0)) h (by omega) (ex_of hok nn0) nn0 gs_at ?_ List.length_replicate (fun k hk => absurd hk (by omega)) (fun k hk => absurd hk (by omega)))
  rw [gs_ne (by omega)]; exact gs_at

