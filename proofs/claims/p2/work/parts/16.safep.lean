theorem mG_gs {Γ : Nat → q_K} {o ml th s w : Nat} {K : q_K} {h : q_H} (hne : w ≠ o) (hok : q_ok (gset (mG Γ o ml th s) w K) h) : q_ok (mG (gset Γ w K) o ml th s) h := fun j => by
  have h1 := hok j
  by_cases hj : j = w
  · subst hj
    rw [gs_at] at h1
    rw [show mG (gset Γ j K) o ml th s j = gset Γ j K j from if_neg hne, gs_at]
    exact h1
  · rw [gs_ne hj] at h1
    by_cases ho : j = o
    · subst ho
      rw [mG_o] at h1 ⊢
      exact h1
    · rw [show mG (gset Γ w K) o ml th s j = gset Γ w K j from if_neg ho, gs_ne hj]
      rw [show mG Γ o ml th s j = Γ j from if_neg ho] at h1
      exact h1
theorem mG_back {Γ : Nat → q_K} {o ml th s w : Nat} {K k5 : q_K} {h : q_H} (hw : Γ w = k5) (hK : ∀ c, q_okc K c → q_okc k5 c) (hne : w ≠ o) (hok : q_ok (mG (gset Γ w K) o ml th s) h) : q_ok (mG Γ o ml th s) h := fun j => by
  have h1 := hok j
  by_cases hj : j = w
  · subst hj
    rw [show mG (gset Γ j K) o ml th s j = gset Γ j K j from if_neg hne, gs_at] at h1
    rw [show mG Γ o ml th s j = Γ j from if_neg hne, hw]
    exact hK _ h1
  · by_cases ho : j = o
    · subst ho
      rw [mG_o] at h1 ⊢
      exact h1
    · rw [show mG (gset Γ w K) o ml th s j = gset Γ w K j from if_neg ho, gs_ne hj] at h1
      rw [show mG Γ o ml th s j = Γ j from if_neg ho]
      exact h1
theorem mB_gs {Γ : Nat → q_K} {o w : Nat} {K : q_K} (h : o + 16 < w) (hB : mB Γ o) : mB (gset Γ w K) o := ⟨(gs_ne (by omega)).trans hB.1, (gs_ne (by omega)).trans hB.2.1, (gs_ne (by omega)).trans hB.2.2.1, (gs_ne (by omega)).trans hB.2.2.2.1, (gs_ne (by omega)).trans hB.2.2.2.2.1, (gs_ne (by omega)).trans hB.2.2.2.2.2.1, (gs_ne (by omega)).trans hB.2.2.2.2.2.2.1, (gs_ne (by omega)).trans hB.2.2.2.2.2.2.2.1, (gs_ne (by omega)).trans hB.2.2.2.2.2.2.2.2.1, (gs_ne (by omega)).trans hB.2.2.2.2.2.2.2.2.2.1, (gs_ne (by omega)).trans hB.2.2.2.2.2.2.2.2.2.2.1, (gs_ne (by omega)).trans hB.2.2.2.2.2.2.2.2.2.2.2.1, (gs_ne (by omega)).trans hB.2.2.2.2.2.2.2.2.2.2.2.2.1, (gs_ne (by omega)).trans hB.2.2.2.2.2.2.2.2.2.2.2.2.2.1, (gs_ne (by omega)).trans hB.2.2.2.2.2.2.2.2.2.2.2.2.2.2.1, (gs_ne (by omega)).trans hB.2.2.2.2.2.2.2.2.2.2.2.2.2.2.2⟩
theorem lg_self (a : Int64) : lg_cmp a a = 0 := by simp [lg_cmp]

set_option maxRecDepth 20000 in
set_option maxHeartbeats 4000000 in
theorem arm1 (Sc : q_S) (hS : Sc.1 ≤ 3073) (Γ : Nat → q_K) (g o ml : Nat) (hG0 : ∀ Γ'' : Nat → q_K, (∀ j, j < o → Γ'' j = Γ j) → kGF Γ'' g ml) (hm1 : 1 ≤ ml) (hm4 : ml ≤ 4) (hB : mB Γ o) (hw : Γ (o + 17) = (5, 1, [])) (n : Nat) (th s i kc ks : Nat) (hs : s ≤ 1600000000) (hi : i + 6 ≤ Sc.1) (h : q_H) (hok : q_ok (mG Γ o ml th s) h) (Q : q_O → q_H → Nat → Prop) (hnext : ∀ (th' s' : Nat) (h : q_H), s' ≤ s + 8000 → q_ok (mG Γ o ml th' s') h → q_A Sc mL_law 944 [.float 1, .ref g, .ref o, .ref (o + 17), .int (nI i), .retAddr 0, .retAddr 0] [] h n kc ks Q) : q_A Sc mL_law 220 [.float 1, .ref g, .ref o, .ref (o + 17), .int (nI i), .retAddr 0, .retAddr 0] [] h n (kc + 4) (ks + 24) Q := by
  have hG : kGF (mG Γ o ml th s) g ml := hG0 _ (fun j hj => if_neg (by omega))
  have hw2 : mG Γ o ml th s (o + 17) = (5, 1, []) := (if_neg (by omega)).trans hw
  have hml := hm4
  refine q_aload_n dL_law_220 rfl ?_
  refine q_aload_n_x dL_law_221 rfl ?_
  refine q_iload dL_law_222 rfl ?_
  refine q_iconst (v := nI 1) dL_law_224 rfl ?_
  refine t_iadd_n dL_law_225 ?_
  refine q_sld dL_law_226 (by exact vp_in_nI (by omega) (by omega)) ?_
  refine q_aload_n_x dL_law_227 rfl ?_
  refine q_iload dL_law_228 rfl ?_
  refine q_iconst (v := nI 2) dL_law_230 rfl ?_
  refine t_iadd_n dL_law_231 ?_
  refine q_sld dL_law_232 (by exact vp_in_nI (by omega) (by omega)) ?_
  refine q_aload_n_x dL_law_233 rfl ?_
  refine q_iload dL_law_234 rfl ?_
  refine q_iconst (v := nI 3) dL_law_236 rfl ?_
  refine t_iadd_n dL_law_237 ?_
  refine q_sld dL_law_238 (by exact vp_in_nI (by omega) (by omega)) ?_
  refine q_aload_n_x dL_law_239 rfl ?_
  refine q_iload dL_law_240 rfl ?_
  refine q_iconst (v := nI 4) dL_law_242 rfl ?_
  refine t_iadd_n dL_law_243 ?_
  refine q_sld dL_law_244 (by exact vp_in_nI (by omega) (by omega)) ?_
  refine q_aload_n dL_law_245 rfl ?_
  refine t_callS (M' := mL_report) [.ref g, .int (Sc.2 (nI (i + 1)).toNatClampNeg), .int (Sc.2 (nI (i + 2)).toNatClampNeg), .int (Sc.2 (nI (i + 3)).toNatClampNeg), .int (Sc.2 (nI (i + 4)).toNatClampNeg), .ref ((o + 17))] [] dL_law_246 wPL_83 wTL_report wNL iL_report oL_report rfl hok (sL_report Sc (mG Γ o ml (th) (s)) n hG hm1 hm4 (Sc.2 (nI (i + 1)).toNatClampNeg) (Sc.2 (nI (i + 2)).toNatClampNeg) (Sc.2 (nI (i + 3)).toNatClampNeg) (Sc.2 (nI (i + 4)).toNatClampNeg) hw2) (by omega) (by omega) (Nat.le_of_ble_eq_true rfl) (Nat.le_of_ble_eq_true rfl) (Nat.le_of_ble_eq_true rfl) rfl (fun v1830 h qv1830 hok => ?_) (fun e1831 h qe1831 hok => absurd qe1831 (by intro q; obtain ⟨_, q⟩ := q; cases q))
  obtain ⟨x1832, qx1832⟩ := qv1830
  obtain rfl := Sum.inl.inj qx1832
  refine t_istore [.float 1, .ref g, .ref o, .ref ((o + 17)), .int (nI i), .int (x1832), .retAddr 0] (Or.inr ⟨rfl, dL_law_249⟩) (by decide) rfl ?_
  refine q_aload_n dL_law_251 rfl ?_
  refine q_aload_n_x dL_law_252 rfl ?_
  refine q_iload dL_law_253 rfl ?_
  refine q_iconst (v := nI 1) dL_law_255 rfl ?_
  refine t_iadd_n dL_law_256 ?_
  refine q_sld dL_law_257 (by exact vp_in_nI (by omega) (by omega)) ?_
  refine q_aload_n_x dL_law_258 rfl ?_
  refine q_iload dL_law_259 rfl ?_
  refine q_iconst (v := nI 2) dL_law_261 rfl ?_
  refine t_iadd_n dL_law_262 ?_
  refine q_sld dL_law_263 (by exact vp_in_nI (by omega) (by omega)) ?_
  refine q_aload_n_x dL_law_264 rfl ?_
  refine q_iload dL_law_265 rfl ?_
  refine q_iconst (v := nI 3) dL_law_267 rfl ?_
  refine t_iadd_n dL_law_268 ?_
  refine q_sld dL_law_269 (by exact vp_in_nI (by omega) (by omega)) ?_
  refine q_aload_n_x dL_law_270 rfl ?_
  refine q_iload dL_law_271 rfl ?_
  refine q_iconst (v := nI 4) dL_law_273 rfl ?_
  refine t_iadd_n dL_law_274 ?_
  refine q_sld dL_law_275 (by exact vp_in_nI (by omega) (by omega)) ?_
  refine t_callM (M' := mX5_report) [.int (Sc.2 (nI (i + 1)).toNatClampNeg), .int (Sc.2 (nI (i + 2)).toNatClampNeg), .int (Sc.2 (nI (i + 3)).toNatClampNeg), .int (Sc.2 (nI (i + 4)).toNatClampNeg)] [] dL_law_276 wPL_85v wIX5_report wSX5_report iX5_report oX5_report rfl hok (sX5_report Sc Γ n o ml (th) (s) hB hml (by omega) (Sc.2 (nI (i + 1)).toNatClampNeg) (Sc.2 (nI (i + 2)).toNatClampNeg) (Sc.2 (nI (i + 3)).toNatClampNeg) (Sc.2 (nI (i + 4)).toNatClampNeg)) (Nat.le_of_ble_eq_true rfl) (Nat.le_of_ble_eq_true rfl) (Nat.le_of_ble_eq_true rfl) rfl (fun _ _ _ q => by obtain ⟨q, _⟩ := q; obtain ⟨_, q⟩ := q; cases q) (fun v1834 h thv1834 sv1834 qv1834 hok => ?_)
  obtain ⟨qv1834, hsv1834⟩ := qv1834
  obtain ⟨x1835, qx1835⟩ := qv1834
  obtain rfl := Sum.inl.inj qx1835
  refine t_istore [.float 1, .ref g, .ref o, .ref ((o + 17)), .int (nI i), .int (x1832), .int (x1835)] (Or.inr ⟨rfl, dL_law_279⟩) (by decide) rfl ?_
  refine q_goto (tgt := 944) dL_law_281 (by decide) ?_
  refine q_weak [.float 1, .ref g, .ref o, .ref (o + 17), .int (nI i), .retAddr 0, .retAddr 0] ⟨Or.inl rfl, Or.inl rfl, Or.inl rfl, Or.inl rfl, Or.inl rfl, Or.inr ⟨0, rfl⟩, Or.inr ⟨0, rfl⟩, trivial⟩ ?_
  exact q_less (by omega) (by omega) (hnext _ _ h (by omega) hok)
set_option maxRecDepth 20000 in
set_option maxHeartbeats 4000000 in
theorem arm2 (Sc : q_S) (hS : Sc.1 ≤ 3073) (Γ : Nat → q_K) (g o ml : Nat) (hG0 : ∀ Γ'' : Nat → q_K, (∀ j, j < o → Γ'' j = Γ j) → kGF Γ'' g ml) (hm1 : 1 ≤ ml) (hm4 : ml ≤ 4) (hB : mB Γ o) (hw : Γ (o + 17) = (5, 1, [])) (n : Nat) (th s i kc ks : Nat) (hs : s ≤ 1600000000) (hi : i + 6 ≤ Sc.1) (h : q_H) (hok : q_ok (mG Γ o ml th s) h) (Q : q_O → q_H → Nat → Prop) (hnext : ∀ (th' s' : Nat) (h : q_H), s' ≤ s + 8000 → q_ok (mG Γ o ml th' s') h → q_A Sc mL_law 944 [.float 1, .ref g, .ref o, .ref (o + 17), .int (nI i), .retAddr 0, .retAddr 0] [] h n kc ks Q) : q_A Sc mL_law 284 [.float 1, .ref g, .ref o, .ref (o + 17), .int (nI i), .retAddr 0, .retAddr 0] [] h n (kc + 4) (ks + 24) Q := by
  have hG : kGF (mG Γ o ml th s) g ml := hG0 _ (fun j hj => if_neg (by omega))
  have hw2 : mG Γ o ml th s (o + 17) = (5, 1, []) := (if_neg (by omega)).trans hw
  have hml := hm4
  refine q_aload_n dL_law_284 rfl ?_
  refine q_aload_n_x dL_law_285 rfl ?_
  refine q_iload dL_law_286 rfl ?_
  refine q_iconst (v := nI 1) dL_law_288 rfl ?_
  refine t_iadd_n dL_law_289 ?_
  refine q_sld dL_law_290 (by exact vp_in_nI (by omega) (by omega)) ?_
  refine q_aload_n_x dL_law_291 rfl ?_
  refine q_iload dL_law_292 rfl ?_
  refine q_iconst (v := nI 2) dL_law_294 rfl ?_
  refine t_iadd_n dL_law_295 ?_
  refine q_sld dL_law_296 (by exact vp_in_nI (by omega) (by omega)) ?_
  refine q_aload_n_x dL_law_297 rfl ?_
  refine q_iload dL_law_298 rfl ?_
  refine q_iconst (v := nI 3) dL_law_300 rfl ?_
  refine t_iadd_n dL_law_301 ?_
  refine q_sld dL_law_302 (by exact vp_in_nI (by omega) (by omega)) ?_
  refine q_aload_n_x dL_law_303 rfl ?_
  refine q_iload dL_law_304 rfl ?_
  refine q_iconst (v := nI 4) dL_law_306 rfl ?_
  refine t_iadd_n dL_law_307 ?_
  refine q_sld dL_law_308 (by exact vp_in_nI (by omega) (by omega)) ?_
  refine q_aload_n_x dL_law_309 rfl ?_
  refine q_iload dL_law_310 rfl ?_
  refine q_iconst (v := nI 5) dL_law_312 rfl ?_
  refine t_iadd_n dL_law_313 ?_
  refine q_sld dL_law_314 (by exact vp_in_nI (by omega) (by omega)) ?_
  refine q_if_eq (tgt := 322) dL_law_315 (by decide) (fun c1836 => ?_) (fun c1836 => ?_)
  ·
    refine q_iconst (v := nI 0) dL_law_322 rfl ?_
    refine q_aload_n dL_law_323 rfl ?_
    refine t_callS (M' := mL_query) [.ref g, .int (Sc.2 (nI (i + 1)).toNatClampNeg), .int (Sc.2 (nI (i + 2)).toNatClampNeg), .int (Sc.2 (nI (i + 3)).toNatClampNeg), .int (Sc.2 (nI (i + 4)).toNatClampNeg), .int (nI 0), .ref ((o + 17))] [] dL_law_324 wPL_86 wTL_query wNL iL_query oL_query rfl hok (sL_query Sc (mG Γ o ml (th) (s)) n hG hm1 hm4 (Sc.2 (nI (i + 1)).toNatClampNeg) (Sc.2 (nI (i + 2)).toNatClampNeg) (Sc.2 (nI (i + 3)).toNatClampNeg) (Sc.2 (nI (i + 4)).toNatClampNeg) (nI 0) (Or.inl rfl) hw2) (by omega) (by omega) (Nat.le_of_ble_eq_true rfl) (Nat.le_of_ble_eq_true rfl) (Nat.le_of_ble_eq_true rfl) rfl (fun v1837 h qv1837 hok => ?_) (fun e1838 h qe1838 hok => absurd qe1838 (by intro q; obtain ⟨_, q⟩ := q; cases q))
    obtain ⟨x1839, qx1839⟩ := qv1837
    obtain rfl := Sum.inl.inj qx1839
    refine t_istore [.float 1, .ref g, .ref o, .ref ((o + 17)), .int (nI i), .int (x1839), .retAddr 0] (Or.inr ⟨rfl, dL_law_327⟩) (by decide) rfl ?_
    refine q_aload_n dL_law_329 rfl ?_
    refine q_aload_n_x dL_law_330 rfl ?_
    refine q_iload dL_law_331 rfl ?_
    refine q_iconst (v := nI 1) dL_law_333 rfl ?_
    refine t_iadd_n dL_law_334 ?_
    refine q_sld dL_law_335 (by exact vp_in_nI (by omega) (by omega)) ?_
    refine q_aload_n_x dL_law_336 rfl ?_
    refine q_iload dL_law_337 rfl ?_
    refine q_iconst (v := nI 2) dL_law_339 rfl ?_
    refine t_iadd_n dL_law_340 ?_
    refine q_sld dL_law_341 (by exact vp_in_nI (by omega) (by omega)) ?_
    refine q_aload_n_x dL_law_342 rfl ?_
    refine q_iload dL_law_343 rfl ?_
    refine q_iconst (v := nI 3) dL_law_345 rfl ?_
    refine t_iadd_n dL_law_346 ?_
    refine q_sld dL_law_347 (by exact vp_in_nI (by omega) (by omega)) ?_
    refine q_aload_n_x dL_law_348 rfl ?_
    refine q_iload dL_law_349 rfl ?_
    refine q_iconst (v := nI 4) dL_law_351 rfl ?_
    refine t_iadd_n dL_law_352 ?_
    refine q_sld dL_law_353 (by exact vp_in_nI (by omega) (by omega)) ?_
    refine q_aload_n_x dL_law_354 rfl ?_
    refine q_iload dL_law_355 rfl ?_
    refine q_iconst (v := nI 5) dL_law_357 rfl ?_
    refine t_iadd_n dL_law_358 ?_
    refine q_sld dL_law_359 (by exact vp_in_nI (by omega) (by omega)) ?_
    refine q_if_eq (tgt := 367) dL_law_360 (by decide) (fun c1840 => ?_) (fun c1840 => ?_)
    rotate_left
    · exact absurd c1836 c1840
    refine q_iconst (v := nI 0) dL_law_367 rfl ?_
    refine t_callM (M' := mX5_query) [.int (Sc.2 (nI (i + 1)).toNatClampNeg), .int (Sc.2 (nI (i + 2)).toNatClampNeg), .int (Sc.2 (nI (i + 3)).toNatClampNeg), .int (Sc.2 (nI (i + 4)).toNatClampNeg), .int (nI 0)] [] dL_law_368 wPL_89v wIX5_query wSX5_query iX5_query oX5_query rfl hok (sX5_query Sc Γ n o ml (th) (s) hB hml (by omega) (Sc.2 (nI (i + 1)).toNatClampNeg) (Sc.2 (nI (i + 2)).toNatClampNeg) (Sc.2 (nI (i + 3)).toNatClampNeg) (Sc.2 (nI (i + 4)).toNatClampNeg) (nI 0) (Or.inl rfl)) (Nat.le_of_ble_eq_true rfl) (Nat.le_of_ble_eq_true rfl) (Nat.le_of_ble_eq_true rfl) rfl (fun _ _ _ q => by obtain ⟨q, _⟩ := q; obtain ⟨_, q, _⟩ := q; cases q) (fun v1842 h thv1842 sv1842 qv1842 hok => ?_)
    obtain ⟨qv1842, hsv1842⟩ := qv1842
    obtain ⟨x1843, qx1843, bx1843⟩ := qv1842
    obtain rfl := Sum.inl.inj qx1843
    refine t_istore [.float 1, .ref g, .ref o, .ref ((o + 17)), .int (nI i), .int (x1839), .int (x1843)] (Or.inr ⟨rfl, dL_law_371⟩) (by decide) rfl ?_
    refine q_goto (tgt := 944) dL_law_373 (by decide) ?_
    refine q_weak [.float 1, .ref g, .ref o, .ref (o + 17), .int (nI i), .retAddr 0, .retAddr 0] ⟨Or.inl rfl, Or.inl rfl, Or.inl rfl, Or.inl rfl, Or.inl rfl, Or.inr ⟨0, rfl⟩, Or.inr ⟨0, rfl⟩, trivial⟩ ?_
    exact q_less (by omega) (by omega) (hnext _ _ h (by omega) hok)
  ·
    refine q_iconst (v := nI 1) dL_law_318 rfl ?_
    refine q_goto (tgt := 323) dL_law_319 (by decide) ?_
    refine q_aload_n dL_law_323 rfl ?_
    refine t_callS (M' := mL_query) [.ref g, .int (Sc.2 (nI (i + 1)).toNatClampNeg), .int (Sc.2 (nI (i + 2)).toNatClampNeg), .int (Sc.2 (nI (i + 3)).toNatClampNeg), .int (Sc.2 (nI (i + 4)).toNatClampNeg), .int (nI 1), .ref ((o + 17))] [] dL_law_324 wPL_86 wTL_query wNL iL_query oL_query rfl hok (sL_query Sc (mG Γ o ml (th) (s)) n hG hm1 hm4 (Sc.2 (nI (i + 1)).toNatClampNeg) (Sc.2 (nI (i + 2)).toNatClampNeg) (Sc.2 (nI (i + 3)).toNatClampNeg) (Sc.2 (nI (i + 4)).toNatClampNeg) (nI 1) (Or.inr rfl) hw2) (by omega) (by omega) (Nat.le_of_ble_eq_true rfl) (Nat.le_of_ble_eq_true rfl) (Nat.le_of_ble_eq_true rfl) rfl (fun v1844 h qv1844 hok => ?_) (fun e1845 h qe1845 hok => absurd qe1845 (by intro q; obtain ⟨_, q⟩ := q; cases q))
    obtain ⟨x1846, qx1846⟩ := qv1844
    obtain rfl := Sum.inl.inj qx1846
    refine t_istore [.float 1, .ref g, .ref o, .ref ((o + 17)), .int (nI i), .int (x1846), .retAddr 0] (Or.inr ⟨rfl, dL_law_327⟩) (by decide) rfl ?_
    refine q_aload_n dL_law_329 rfl ?_
    refine q_aload_n_x dL_law_330 rfl ?_
    refine q_iload dL_law_331 rfl ?_
    refine q_iconst (v := nI 1) dL_law_333 rfl ?_
    refine t_iadd_n dL_law_334 ?_
    refine q_sld dL_law_335 (by exact vp_in_nI (by omega) (by omega)) ?_
    refine q_aload_n_x dL_law_336 rfl ?_
    refine q_iload dL_law_337 rfl ?_
    refine q_iconst (v := nI 2) dL_law_339 rfl ?_
    refine t_iadd_n dL_law_340 ?_
    refine q_sld dL_law_341 (by exact vp_in_nI (by omega) (by omega)) ?_
    refine q_aload_n_x dL_law_342 rfl ?_
    refine q_iload dL_law_343 rfl ?_
    refine q_iconst (v := nI 3) dL_law_345 rfl ?_
    refine t_iadd_n dL_law_346 ?_
    refine q_sld dL_law_347 (by exact vp_in_nI (by omega) (by omega)) ?_
    refine q_aload_n_x dL_law_348 rfl ?_
    refine q_iload dL_law_349 rfl ?_
    refine q_iconst (v := nI 4) dL_law_351 rfl ?_
    refine t_iadd_n dL_law_352 ?_
    refine q_sld dL_law_353 (by exact vp_in_nI (by omega) (by omega)) ?_
    refine q_aload_n_x dL_law_354 rfl ?_
    refine q_iload dL_law_355 rfl ?_
    refine q_iconst (v := nI 5) dL_law_357 rfl ?_
    refine t_iadd_n dL_law_358 ?_
    refine q_sld dL_law_359 (by exact vp_in_nI (by omega) (by omega)) ?_
    refine q_if_eq (tgt := 367) dL_law_360 (by decide) (fun c1847 => ?_) (fun c1847 => ?_)
    · exact absurd c1847 c1836
    refine q_iconst (v := nI 1) dL_law_363 rfl ?_
    refine q_goto (tgt := 368) dL_law_364 (by decide) ?_
    refine t_callM (M' := mX5_query) [.int (Sc.2 (nI (i + 1)).toNatClampNeg), .int (Sc.2 (nI (i + 2)).toNatClampNeg), .int (Sc.2 (nI (i + 3)).toNatClampNeg), .int (Sc.2 (nI (i + 4)).toNatClampNeg), .int (nI 1)] [] dL_law_368 wPL_89v wIX5_query wSX5_query iX5_query oX5_query rfl hok (sX5_query Sc Γ n o ml (th) (s) hB hml (by omega) (Sc.2 (nI (i + 1)).toNatClampNeg) (Sc.2 (nI (i + 2)).toNatClampNeg) (Sc.2 (nI (i + 3)).toNatClampNeg) (Sc.2 (nI (i + 4)).toNatClampNeg) (nI 1) (Or.inr rfl)) (Nat.le_of_ble_eq_true rfl) (Nat.le_of_ble_eq_true rfl) (Nat.le_of_ble_eq_true rfl) rfl (fun _ _ _ q => by obtain ⟨q, _⟩ := q; obtain ⟨_, q, _⟩ := q; cases q) (fun v1849 h thv1849 sv1849 qv1849 hok => ?_)
    obtain ⟨qv1849, hsv1849⟩ := qv1849
    obtain ⟨x1850, qx1850, bx1850⟩ := qv1849
    obtain rfl := Sum.inl.inj qx1850
    refine t_istore [.float 1, .ref g, .ref o, .ref ((o + 17)), .int (nI i), .int (x1846), .int (x1850)] (Or.inr ⟨rfl, dL_law_371⟩) (by decide) rfl ?_
    refine q_goto (tgt := 944) dL_law_373 (by decide) ?_
    refine q_weak [.float 1, .ref g, .ref o, .ref (o + 17), .int (nI i), .retAddr 0, .retAddr 0] ⟨Or.inl rfl, Or.inl rfl, Or.inl rfl, Or.inl rfl, Or.inl rfl, Or.inr ⟨0, rfl⟩, Or.inr ⟨0, rfl⟩, trivial⟩ ?_
    exact q_less (by omega) (by omega) (hnext _ _ h (by omega) hok)
set_option maxRecDepth 20000 in
set_option maxHeartbeats 4000000 in
theorem arm3 (Sc : q_S) (hS : Sc.1 ≤ 3073) (Γ : Nat → q_K) (g o ml : Nat) (hG0 : ∀ Γ'' : Nat → q_K, (∀ j, j < o → Γ'' j = Γ j) → kGF Γ'' g ml) (hm1 : 1 ≤ ml) (hm4 : ml ≤ 4) (hB : mB Γ o) (hw : Γ (o + 17) = (5, 1, [])) (n : Nat) (th s i kc ks : Nat) (hs : s ≤ 1600000000) (hi : i + 6 ≤ Sc.1) (h : q_H) (hok : q_ok (mG Γ o ml th s) h) (Q : q_O → q_H → Nat → Prop) (hnext : ∀ (th' s' : Nat) (h : q_H), s' ≤ s + 8000 → q_ok (mG Γ o ml th' s') h → q_A Sc mL_law 944 [.float 1, .ref g, .ref o, .ref (o + 17), .int (nI i), .retAddr 0, .retAddr 0] [] h n kc ks Q) : q_A Sc mL_law 376 [.float 1, .ref g, .ref o, .ref (o + 17), .int (nI i), .retAddr 0, .retAddr 0] [] h n (kc + 4) (ks + 24) Q := by
  have hG : kGF (mG Γ o ml th s) g ml := hG0 _ (fun j hj => if_neg (by omega))
  have hw2 : mG Γ o ml th s (o + 17) = (5, 1, []) := (if_neg (by omega)).trans hw
  have hml := hm4
  refine q_aload_n dL_law_376 rfl ?_
  refine q_aload_n_x dL_law_377 rfl ?_
  refine q_iload dL_law_378 rfl ?_
  refine q_iconst (v := nI 1) dL_law_380 rfl ?_
  refine t_iadd_n dL_law_381 ?_
  refine q_sld dL_law_382 (by exact vp_in_nI (by omega) (by omega)) ?_
  refine q_aload_n dL_law_383 rfl ?_
  refine t_callS (M' := mL_tick) [.ref g, .int (Sc.2 (nI (i + 1)).toNatClampNeg), .ref ((o + 17))] [] dL_law_384 wPL_90 wTL_tick wNL iL_tick oL_tick rfl hok (sL_tick Sc (mG Γ o ml (th) (s)) n hG hm1 hm4 (Sc.2 (nI (i + 1)).toNatClampNeg) hw2) (by omega) (by omega) (Nat.le_of_ble_eq_true rfl) (Nat.le_of_ble_eq_true rfl) (Nat.le_of_ble_eq_true rfl) rfl (fun v1851 h qv1851 hok => ?_) (fun e1852 h qe1852 hok => absurd qe1852 (by intro q; obtain ⟨_, q⟩ := q; cases q))
  obtain ⟨x1853, qx1853⟩ := qv1851
  obtain rfl := Sum.inl.inj qx1853
  refine t_istore [.float 1, .ref g, .ref o, .ref ((o + 17)), .int (nI i), .int (x1853), .retAddr 0] (Or.inr ⟨rfl, dL_law_387⟩) (by decide) rfl ?_
  refine q_aload_n dL_law_389 rfl ?_
  refine q_aload_n_x dL_law_390 rfl ?_
  refine q_iload dL_law_391 rfl ?_
  refine q_iconst (v := nI 1) dL_law_393 rfl ?_
  refine t_iadd_n dL_law_394 ?_
  refine q_sld dL_law_395 (by exact vp_in_nI (by omega) (by omega)) ?_
  refine t_callM (M' := mX5_tick) [.int (Sc.2 (nI (i + 1)).toNatClampNeg)] [] dL_law_396 wPL_93v wIX5_tick wSX5_tick iX5_tick oX5_tick rfl hok (sX5_tick Sc Γ n o ml (th) (s) hB hml (by omega) (Sc.2 (nI (i + 1)).toNatClampNeg)) (Nat.le_of_ble_eq_true rfl) (Nat.le_of_ble_eq_true rfl) (Nat.le_of_ble_eq_true rfl) rfl (fun _ _ _ q => by obtain ⟨q, _⟩ := q; obtain ⟨_, q⟩ := q; cases q) (fun v1855 h thv1855 sv1855 qv1855 hok => ?_)
  obtain ⟨qv1855, hsv1855⟩ := qv1855
  obtain ⟨x1856, qx1856⟩ := qv1855
  obtain rfl := Sum.inl.inj qx1856
  refine t_istore [.float 1, .ref g, .ref o, .ref ((o + 17)), .int (nI i), .int (x1853), .int (x1856)] (Or.inr ⟨rfl, dL_law_399⟩) (by decide) rfl ?_
  refine q_goto (tgt := 944) dL_law_401 (by decide) ?_
  refine q_weak [.float 1, .ref g, .ref o, .ref (o + 17), .int (nI i), .retAddr 0, .retAddr 0] ⟨Or.inl rfl, Or.inl rfl, Or.inl rfl, Or.inl rfl, Or.inl rfl, Or.inr ⟨0, rfl⟩, Or.inr ⟨0, rfl⟩, trivial⟩ ?_
  exact q_less (by omega) (by omega) (hnext _ _ h (by omega) hok)
set_option maxRecDepth 20000 in
set_option maxHeartbeats 4000000 in
theorem arm4 (Sc : q_S) (hS : Sc.1 ≤ 3073) (Γ : Nat → q_K) (g o ml : Nat) (hG0 : ∀ Γ'' : Nat → q_K, (∀ j, j < o → Γ'' j = Γ j) → kGF Γ'' g ml) (hm1 : 1 ≤ ml) (hm4 : ml ≤ 4) (hB : mB Γ o) (hw : Γ (o + 17) = (5, 1, [])) (n : Nat) (th s i kc ks : Nat) (hs : s ≤ 1600000000) (hi : i + 6 ≤ Sc.1) (h : q_H) (hok : q_ok (mG Γ o ml th s) h) (Q : q_O → q_H → Nat → Prop) (hnext : ∀ (th' s' : Nat) (h : q_H), s' ≤ s + 8000 → q_ok (mG Γ o ml th' s') h → q_A Sc mL_law 944 [.float 1, .ref g, .ref o, .ref (o + 17), .int (nI i), .retAddr 0, .retAddr 0] [] h n kc ks Q) : q_A Sc mL_law 404 [.float 1, .ref g, .ref o, .ref (o + 17), .int (nI i), .retAddr 0, .retAddr 0] [] h n (kc + 4) (ks + 24) Q := by
  have hG : kGF (mG Γ o ml th s) g ml := hG0 _ (fun j hj => if_neg (by omega))
  have hw2 : mG Γ o ml th s (o + 17) = (5, 1, []) := (if_neg (by omega)).trans hw
  have hml := hm4
  refine q_aload_n dL_law_404 rfl ?_
  refine q_aload_n_x dL_law_405 rfl ?_
  refine q_iload dL_law_406 rfl ?_
  refine q_iconst (v := nI 1) dL_law_408 rfl ?_
  refine t_iadd_n dL_law_409 ?_
  refine q_sld dL_law_410 (by exact vp_in_nI (by omega) (by omega)) ?_
  refine q_aload_n_x dL_law_411 rfl ?_
  refine q_iload dL_law_412 rfl ?_
  refine q_iconst (v := nI 2) dL_law_414 rfl ?_
  refine t_iadd_n dL_law_415 ?_
  refine q_sld dL_law_416 (by exact vp_in_nI (by omega) (by omega)) ?_
  refine q_aload_n_x dL_law_417 rfl ?_
  refine q_iload dL_law_418 rfl ?_
  refine q_iconst (v := nI 3) dL_law_420 rfl ?_
  refine t_iadd_n dL_law_421 ?_
  refine q_sld dL_law_422 (by exact vp_in_nI (by omega) (by omega)) ?_
  refine q_aload_n_x dL_law_423 rfl ?_
  refine q_iload dL_law_424 rfl ?_
  refine q_iconst (v := nI 4) dL_law_426 rfl ?_
  refine t_iadd_n dL_law_427 ?_
  refine q_sld dL_law_428 (by exact vp_in_nI (by omega) (by omega)) ?_
  refine q_if_eq (tgt := 436) dL_law_429 (by decide) (fun c1857 => ?_) (fun c1857 => ?_)
  ·
    refine q_iconst (v := nI 0) dL_law_436 rfl ?_
    refine q_aload_n_x dL_law_437 rfl ?_
    refine q_iload dL_law_438 rfl ?_
    refine q_iconst (v := nI 5) dL_law_440 rfl ?_
    refine t_iadd_n dL_law_441 ?_
    refine q_sld dL_law_442 (by exact vp_in_nI (by omega) (by omega)) ?_
    refine q_aload_n dL_law_443 rfl ?_
    refine t_callS (M' := mL_member) [.ref g, .int (Sc.2 (nI (i + 1)).toNatClampNeg), .int (Sc.2 (nI (i + 2)).toNatClampNeg), .int (Sc.2 (nI (i + 3)).toNatClampNeg), .int (nI 0), .int (Sc.2 (nI (i + 5)).toNatClampNeg), .ref ((o + 17))] [] dL_law_444 wPL_94 wTL_member wNL iL_member oL_member rfl hok (sL_member Sc (mG Γ o ml (th) (s)) n hG hm1 hm4 (Sc.2 (nI (i + 1)).toNatClampNeg) (Sc.2 (nI (i + 2)).toNatClampNeg) (Sc.2 (nI (i + 3)).toNatClampNeg) (nI 0) (Or.inl rfl) (Sc.2 (nI (i + 5)).toNatClampNeg) hw2) (by omega) (by omega) (Nat.le_of_ble_eq_true rfl) (Nat.le_of_ble_eq_true rfl) (Nat.le_of_ble_eq_true rfl) rfl (fun v1858 h qv1858 hok => ?_) (fun e1859 h qe1859 hok => absurd qe1859 (by intro q; obtain ⟨_, q⟩ := q; cases q))
    obtain ⟨x1860, qx1860⟩ := qv1858
    obtain rfl := Sum.inl.inj qx1860
    refine t_istore [.float 1, .ref g, .ref o, .ref ((o + 17)), .int (nI i), .int (x1860), .retAddr 0] (Or.inr ⟨rfl, dL_law_447⟩) (by decide) rfl ?_
    refine q_aload_n dL_law_449 rfl ?_
    refine q_aload_n_x dL_law_450 rfl ?_
    refine q_iload dL_law_451 rfl ?_
    refine q_iconst (v := nI 1) dL_law_453 rfl ?_
    refine t_iadd_n dL_law_454 ?_
    refine q_sld dL_law_455 (by exact vp_in_nI (by omega) (by omega)) ?_
    refine q_aload_n_x dL_law_456 rfl ?_
    refine q_iload dL_law_457 rfl ?_
    refine q_iconst (v := nI 2) dL_law_459 rfl ?_
    refine t_iadd_n dL_law_460 ?_
    refine q_sld dL_law_461 (by exact vp_in_nI (by omega) (by omega)) ?_
    refine q_aload_n_x dL_law_462 rfl ?_
    refine q_iload dL_law_463 rfl ?_
    refine q_iconst (v := nI 3) dL_law_465 rfl ?_
    refine t_iadd_n dL_law_466 ?_
    refine q_sld dL_law_467 (by exact vp_in_nI (by omega) (by omega)) ?_
    refine q_aload_n_x dL_law_468 rfl ?_
    refine q_iload dL_law_469 rfl ?_
    refine q_iconst (v := nI 4) dL_law_471 rfl ?_
    refine t_iadd_n dL_law_472 ?_
    refine q_sld dL_law_473 (by exact vp_in_nI (by omega) (by omega)) ?_
    refine q_if_eq (tgt := 481) dL_law_474 (by decide) (fun c1861 => ?_) (fun c1861 => ?_)
    rotate_left
    · exact absurd c1857 c1861
    refine q_iconst (v := nI 0) dL_law_481 rfl ?_
    refine q_aload_n_x dL_law_482 rfl ?_
    refine q_iload dL_law_483 rfl ?_
    refine q_iconst (v := nI 5) dL_law_485 rfl ?_
    refine t_iadd_n dL_law_486 ?_
    refine q_sld dL_law_487 (by exact vp_in_nI (by omega) (by omega)) ?_
    refine t_callM (M' := mX5_member) [.int (Sc.2 (nI (i + 1)).toNatClampNeg), .int (Sc.2 (nI (i + 2)).toNatClampNeg), .int (Sc.2 (nI (i + 3)).toNatClampNeg), .int (nI 0), .int (Sc.2 (nI (i + 5)).toNatClampNeg)] [] dL_law_488 wPL_97v wIX5_member wSX5_member iX5_member oX5_member rfl hok (sX5_member Sc Γ n o ml (th) (s) hB hml (by omega) (Sc.2 (nI (i + 1)).toNatClampNeg) (Sc.2 (nI (i + 2)).toNatClampNeg) (Sc.2 (nI (i + 3)).toNatClampNeg) (nI 0) (Or.inl rfl) (Sc.2 (nI (i + 5)).toNatClampNeg)) (Nat.le_of_ble_eq_true rfl) (Nat.le_of_ble_eq_true rfl) (Nat.le_of_ble_eq_true rfl) rfl (fun _ _ _ q => by obtain ⟨q, _⟩ := q; obtain ⟨_, q⟩ := q; cases q) (fun v1863 h thv1863 sv1863 qv1863 hok => ?_)
    obtain ⟨qv1863, hsv1863⟩ := qv1863
    obtain ⟨x1864, qx1864⟩ := qv1863
    obtain rfl := Sum.inl.inj qx1864
    refine t_istore [.float 1, .ref g, .ref o, .ref ((o + 17)), .int (nI i), .int (x1860), .int (x1864)] (Or.inr ⟨rfl, dL_law_491⟩) (by decide) rfl ?_
    refine q_goto (tgt := 944) dL_law_493 (by decide) ?_
    refine q_weak [.float 1, .ref g, .ref o, .ref (o + 17), .int (nI i), .retAddr 0, .retAddr 0] ⟨Or.inl rfl, Or.inl rfl, Or.inl rfl, Or.inl rfl, Or.inl rfl, Or.inr ⟨0, rfl⟩, Or.inr ⟨0, rfl⟩, trivial⟩ ?_
    exact q_less (by omega) (by omega) (hnext _ _ h (by omega) hok)
  ·
    refine q_iconst (v := nI 1) dL_law_432 rfl ?_
    refine q_goto (tgt := 437) dL_law_433 (by decide) ?_
    refine q_aload_n_x dL_law_437 rfl ?_
    refine q_iload dL_law_438 rfl ?_
    refine q_iconst (v := nI 5) dL_law_440 rfl ?_
    refine t_iadd_n dL_law_441 ?_
    refine q_sld dL_law_442 (by exact vp_in_nI (by omega) (by omega)) ?_
    refine q_aload_n dL_law_443 rfl ?_
    refine t_callS (M' := mL_member) [.ref g, .int (Sc.2 (nI (i + 1)).toNatClampNeg), .int (Sc.2 (nI (i + 2)).toNatClampNeg), .int (Sc.2 (nI (i + 3)).toNatClampNeg), .int (nI 1), .int (Sc.2 (nI (i + 5)).toNatClampNeg), .ref ((o + 17))] [] dL_law_444 wPL_94 wTL_member wNL iL_member oL_member rfl hok (sL_member Sc (mG Γ o ml (th) (s)) n hG hm1 hm4 (Sc.2 (nI (i + 1)).toNatClampNeg) (Sc.2 (nI (i + 2)).toNatClampNeg) (Sc.2 (nI (i + 3)).toNatClampNeg) (nI 1) (Or.inr rfl) (Sc.2 (nI (i + 5)).toNatClampNeg) hw2) (by omega) (by omega) (Nat.le_of_ble_eq_true rfl) (Nat.le_of_ble_eq_true rfl) (Nat.le_of_ble_eq_true rfl) rfl (fun v1865 h qv1865 hok => ?_) (fun e1866 h qe1866 hok => absurd qe1866 (by intro q; obtain ⟨_, q⟩ := q; cases q))
    obtain ⟨x1867, qx1867⟩ := qv1865
    obtain rfl := Sum.inl.inj qx1867
    refine t_istore [.float 1, .ref g, .ref o, .ref ((o + 17)), .int (nI i), .int (x1867), .retAddr 0] (Or.inr ⟨rfl, dL_law_447⟩) (by decide) rfl ?_
    refine q_aload_n dL_law_449 rfl ?_
    refine q_aload_n_x dL_law_450 rfl ?_
    refine q_iload dL_law_451 rfl ?_
    refine q_iconst (v := nI 1) dL_law_453 rfl ?_
    refine t_iadd_n dL_law_454 ?_
    refine q_sld dL_law_455 (by exact vp_in_nI (by omega) (by omega)) ?_
    refine q_aload_n_x dL_law_456 rfl ?_
    refine q_iload dL_law_457 rfl ?_
    refine q_iconst (v := nI 2) dL_law_459 rfl ?_
    refine t_iadd_n dL_law_460 ?_
    refine q_sld dL_law_461 (by exact vp_in_nI (by omega) (by omega)) ?_
    refine q_aload_n_x dL_law_462 rfl ?_
    refine q_iload dL_law_463 rfl ?_
    refine q_iconst (v := nI 3) dL_law_465 rfl ?_
    refine t_iadd_n dL_law_466 ?_
    refine q_sld dL_law_467 (by exact vp_in_nI (by omega) (by omega)) ?_
    refine q_aload_n_x dL_law_468 rfl ?_
    refine q_iload dL_law_469 rfl ?_
    refine q_iconst (v := nI 4) dL_law_471 rfl ?_
    refine t_iadd_n dL_law_472 ?_
    refine q_sld dL_law_473 (by exact vp_in_nI (by omega) (by omega)) ?_
    refine q_if_eq (tgt := 481) dL_law_474 (by decide) (fun c1868 => ?_) (fun c1868 => ?_)
    · exact absurd c1868 c1857
    refine q_iconst (v := nI 1) dL_law_477 rfl ?_
    refine q_goto (tgt := 482) dL_law_478 (by decide) ?_
    refine q_aload_n_x dL_law_482 rfl ?_
    refine q_iload dL_law_483 rfl ?_
    refine q_iconst (v := nI 5) dL_law_485 rfl ?_
    refine t_iadd_n dL_law_486 ?_
    refine q_sld dL_law_487 (by exact vp_in_nI (by omega) (by omega)) ?_
    refine t_callM (M' := mX5_member) [.int (Sc.2 (nI (i + 1)).toNatClampNeg), .int (Sc.2 (nI (i + 2)).toNatClampNeg), .int (Sc.2 (nI (i + 3)).toNatClampNeg), .int (nI 1), .int (Sc.2 (nI (i + 5)).toNatClampNeg)] [] dL_law_488 wPL_97v wIX5_member wSX5_member iX5_member oX5_member rfl hok (sX5_member Sc Γ n o ml (th) (s) hB hml (by omega) (Sc.2 (nI (i + 1)).toNatClampNeg) (Sc.2 (nI (i + 2)).toNatClampNeg) (Sc.2 (nI (i + 3)).toNatClampNeg) (nI 1) (Or.inr rfl) (Sc.2 (nI (i + 5)).toNatClampNeg)) (Nat.le_of_ble_eq_true rfl) (Nat.le_of_ble_eq_true rfl) (Nat.le_of_ble_eq_true rfl) rfl (fun _ _ _ q => by obtain ⟨q, _⟩ := q; obtain ⟨_, q⟩ := q; cases q) (fun v1870 h thv1870 sv1870 qv1870 hok => ?_)
    obtain ⟨qv1870, hsv1870⟩ := qv1870
    obtain ⟨x1871, qx1871⟩ := qv1870
    obtain rfl := Sum.inl.inj qx1871
    refine t_istore [.float 1, .ref g, .ref o, .ref ((o + 17)), .int (nI i), .int (x1867), .int (x1871)] (Or.inr ⟨rfl, dL_law_491⟩) (by decide) rfl ?_
    refine q_goto (tgt := 944) dL_law_493 (by decide) ?_
    refine q_weak [.float 1, .ref g, .ref o, .ref (o + 17), .int (nI i), .retAddr 0, .retAddr 0] ⟨Or.inl rfl, Or.inl rfl, Or.inl rfl, Or.inl rfl, Or.inl rfl, Or.inr ⟨0, rfl⟩, Or.inr ⟨0, rfl⟩, trivial⟩ ?_
    exact q_less (by omega) (by omega) (hnext _ _ h (by omega) hok)
set_option maxRecDepth 20000 in
set_option maxHeartbeats 4000000 in
theorem arm5 (Sc : q_S) (hS : Sc.1 ≤ 3073) (Γ : Nat → q_K) (g o ml : Nat) (hG0 : ∀ Γ'' : Nat → q_K, (∀ j, j < o → Γ'' j = Γ j) → kGF Γ'' g ml) (hm1 : 1 ≤ ml) (hm4 : ml ≤ 4) (hB : mB Γ o) (hw : Γ (o + 17) = (5, 1, [])) (n : Nat) (th s i kc ks : Nat) (hs : s ≤ 1600000000) (hi : i + 6 ≤ Sc.1) (h : q_H) (hok : q_ok (mG Γ o ml th s) h) (Q : q_O → q_H → Nat → Prop) (hnext : ∀ (th' s' : Nat) (h : q_H), s' ≤ s + 8000 → q_ok (mG Γ o ml th' s') h → q_A Sc mL_law 944 [.float 1, .ref g, .ref o, .ref (o + 17), .int (nI i), .retAddr 0, .retAddr 0] [] h n kc ks Q) : q_A Sc mL_law 496 [.float 1, .ref g, .ref o, .ref (o + 17), .int (nI i), .retAddr 0, .retAddr 0] [] h n (kc + 4) (ks + 24) Q := by
  have hG : kGF (mG Γ o ml th s) g ml := hG0 _ (fun j hj => if_neg (by omega))
  have hw2 : mG Γ o ml th s (o + 17) = (5, 1, []) := (if_neg (by omega)).trans hw
  have hml := hm4
  refine q_aload_n dL_law_496 rfl ?_
  refine q_aload_n_x dL_law_497 rfl ?_
  refine q_iload dL_law_498 rfl ?_
  refine q_iconst (v := nI 1) dL_law_500 rfl ?_
  refine t_iadd_n dL_law_501 ?_
  refine q_sld dL_law_502 (by exact vp_in_nI (by omega) (by omega)) ?_
  refine q_aload_n_x dL_law_503 rfl ?_
  refine q_iload dL_law_504 rfl ?_
  refine q_iconst (v := nI 2) dL_law_506 rfl ?_
  refine t_iadd_n dL_law_507 ?_
  refine q_sld dL_law_508 (by exact vp_in_nI (by omega) (by omega)) ?_
  refine q_aload_n dL_law_509 rfl ?_
  refine t_callS (M' := mL_answer) [.ref g, .int (Sc.2 (nI (i + 1)).toNatClampNeg), .int (Sc.2 (nI (i + 2)).toNatClampNeg), .ref ((o + 17))] [] dL_law_510 wPL_98 wTL_answer wNL iL_answer oL_answer rfl hok (sL_answer Sc (mG Γ o ml (th) (s)) n hG hm1 hm4 (Sc.2 (nI (i + 1)).toNatClampNeg) (Sc.2 (nI (i + 2)).toNatClampNeg) hw2) (by omega) (by omega) (Nat.le_of_ble_eq_true rfl) (Nat.le_of_ble_eq_true rfl) (Nat.le_of_ble_eq_true rfl) rfl (fun v1872 h qv1872 hok => ?_) (fun e1873 h qe1873 hok => absurd qe1873 (by intro q; obtain ⟨_, q⟩ := q; cases q))
  obtain ⟨x1874, qx1874⟩ := qv1872
  obtain rfl := Sum.inl.inj qx1874
  refine t_istore [.float 1, .ref g, .ref o, .ref ((o + 17)), .int (nI i), .int (x1874), .retAddr 0] (Or.inr ⟨rfl, dL_law_513⟩) (by decide) rfl ?_
  refine q_aload_n dL_law_515 rfl ?_
  refine q_aload_n_x dL_law_516 rfl ?_
  refine q_iload dL_law_517 rfl ?_
  refine q_iconst (v := nI 1) dL_law_519 rfl ?_
  refine t_iadd_n dL_law_520 ?_
  refine q_sld dL_law_521 (by exact vp_in_nI (by omega) (by omega)) ?_
  refine q_aload_n_x dL_law_522 rfl ?_
  refine q_iload dL_law_523 rfl ?_
  refine q_iconst (v := nI 2) dL_law_525 rfl ?_
  refine t_iadd_n dL_law_526 ?_
  refine q_sld dL_law_527 (by exact vp_in_nI (by omega) (by omega)) ?_
  refine t_callM (M' := mX5_answer) [.int (Sc.2 (nI (i + 1)).toNatClampNeg), .int (Sc.2 (nI (i + 2)).toNatClampNeg)] [] dL_law_528 wPL_101v wIX5_answer wSX5_answer iX5_answer oX5_answer rfl hok (sX5_answer Sc Γ n o ml (th) (s) hB hml (by omega) (Sc.2 (nI (i + 1)).toNatClampNeg) (Sc.2 (nI (i + 2)).toNatClampNeg)) (Nat.le_of_ble_eq_true rfl) (Nat.le_of_ble_eq_true rfl) (Nat.le_of_ble_eq_true rfl) rfl (fun _ _ _ q => by obtain ⟨q, _⟩ := q; obtain ⟨_, q⟩ := q; cases q) (fun v1876 h thv1876 sv1876 qv1876 hok => ?_)
  obtain ⟨qv1876, hsv1876⟩ := qv1876
  obtain ⟨x1877, qx1877⟩ := qv1876
  obtain rfl := Sum.inl.inj qx1877
  refine t_istore [.float 1, .ref g, .ref o, .ref ((o + 17)), .int (nI i), .int (x1874), .int (x1877)] (Or.inr ⟨rfl, dL_law_531⟩) (by decide) rfl ?_
  refine q_goto (tgt := 944) dL_law_533 (by decide) ?_
  refine q_weak [.float 1, .ref g, .ref o, .ref (o + 17), .int (nI i), .retAddr 0, .retAddr 0] ⟨Or.inl rfl, Or.inl rfl, Or.inl rfl, Or.inl rfl, Or.inl rfl, Or.inr ⟨0, rfl⟩, Or.inr ⟨0, rfl⟩, trivial⟩ ?_
  exact q_less (by omega) (by omega) (hnext _ _ h (by omega) hok)
set_option maxRecDepth 20000 in
set_option maxHeartbeats 4000000 in
theorem arm6 (Sc : q_S) (hS : Sc.1 ≤ 3073) (Γ : Nat → q_K) (g o ml : Nat) (hG0 : ∀ Γ'' : Nat → q_K, (∀ j, j < o → Γ'' j = Γ j) → kGF Γ'' g ml) (hm1 : 1 ≤ ml) (hm4 : ml ≤ 4) (hB : mB Γ o) (hw : Γ (o + 17) = (5, 1, [])) (n : Nat) (th s i kc ks : Nat) (hs : s ≤ 1600000000) (hi : i + 6 ≤ Sc.1) (h : q_H) (hok : q_ok (mG Γ o ml th s) h) (Q : q_O → q_H → Nat → Prop) (hnext : ∀ (th' s' : Nat) (h : q_H), s' ≤ s + 8000 → q_ok (mG Γ o ml th' s') h → q_A Sc mL_law 944 [.float 1, .ref g, .ref o, .ref (o + 17), .int (nI i), .retAddr 0, .retAddr 0] [] h n kc ks Q) : q_A Sc mL_law 536 [.float 1, .ref g, .ref o, .ref (o + 17), .int (nI i), .retAddr 0, .retAddr 0] [] h n (kc + 4) (ks + 24) Q := by
  have hG : kGF (mG Γ o ml th s) g ml := hG0 _ (fun j hj => if_neg (by omega))
  have hw2 : mG Γ o ml th s (o + 17) = (5, 1, []) := (if_neg (by omega)).trans hw
  have hml := hm4
  refine q_aload_n dL_law_536 rfl ?_
  refine q_aload_n_x dL_law_537 rfl ?_
  refine q_iload dL_law_538 rfl ?_
  refine q_iconst (v := nI 1) dL_law_540 rfl ?_
  refine t_iadd_n dL_law_541 ?_
  refine q_sld dL_law_542 (by exact vp_in_nI (by omega) (by omega)) ?_
  refine q_aload_n_x dL_law_543 rfl ?_
  refine q_iload dL_law_544 rfl ?_
  refine q_iconst (v := nI 2) dL_law_546 rfl ?_
  refine t_iadd_n dL_law_547 ?_
  refine q_sld dL_law_548 (by exact vp_in_nI (by omega) (by omega)) ?_
  refine q_aload_n_x dL_law_549 rfl ?_
  refine q_iload dL_law_550 rfl ?_
  refine q_iconst (v := nI 3) dL_law_552 rfl ?_
  refine t_iadd_n dL_law_553 ?_
  refine q_sld dL_law_554 (by exact vp_in_nI (by omega) (by omega)) ?_
  refine q_aload_n dL_law_555 rfl ?_
  refine t_callS (M' := mL_wanted) [.ref g, .int (Sc.2 (nI (i + 1)).toNatClampNeg), .int (Sc.2 (nI (i + 2)).toNatClampNeg), .int (Sc.2 (nI (i + 3)).toNatClampNeg), .ref ((o + 17))] [] dL_law_556 wPL_102 wTL_wanted wNL iL_wanted oL_wanted rfl hok (sL_wanted Sc (mG Γ o ml (th) (s)) n hG hm1 hm4 (Sc.2 (nI (i + 1)).toNatClampNeg) (Sc.2 (nI (i + 2)).toNatClampNeg) (Sc.2 (nI (i + 3)).toNatClampNeg) hw2) (by omega) (by omega) (Nat.le_of_ble_eq_true rfl) (Nat.le_of_ble_eq_true rfl) (Nat.le_of_ble_eq_true rfl) rfl (fun v1878 h qv1878 hok => ?_) (fun e1879 h qe1879 hok => absurd qe1879 (by intro q; obtain ⟨_, q⟩ := q; cases q))
  obtain ⟨x1880, qx1880⟩ := qv1878
  obtain rfl := Sum.inl.inj qx1880
  refine t_istore [.float 1, .ref g, .ref o, .ref ((o + 17)), .int (nI i), .int (x1880), .retAddr 0] (Or.inr ⟨rfl, dL_law_559⟩) (by decide) rfl ?_
  refine q_aload_n dL_law_561 rfl ?_
  refine q_aload_n_x dL_law_562 rfl ?_
  refine q_iload dL_law_563 rfl ?_
  refine q_iconst (v := nI 1) dL_law_565 rfl ?_
  refine t_iadd_n dL_law_566 ?_
  refine q_sld dL_law_567 (by exact vp_in_nI (by omega) (by omega)) ?_
  refine q_aload_n_x dL_law_568 rfl ?_
  refine q_iload dL_law_569 rfl ?_
  refine q_iconst (v := nI 2) dL_law_571 rfl ?_
  refine t_iadd_n dL_law_572 ?_
  refine q_sld dL_law_573 (by exact vp_in_nI (by omega) (by omega)) ?_
  refine q_aload_n_x dL_law_574 rfl ?_
  refine q_iload dL_law_575 rfl ?_
  refine q_iconst (v := nI 3) dL_law_577 rfl ?_
  refine t_iadd_n dL_law_578 ?_
  refine q_sld dL_law_579 (by exact vp_in_nI (by omega) (by omega)) ?_
  refine t_callM (M' := mX5_wanted) [.int (Sc.2 (nI (i + 1)).toNatClampNeg), .int (Sc.2 (nI (i + 2)).toNatClampNeg), .int (Sc.2 (nI (i + 3)).toNatClampNeg)] [] dL_law_580 wPL_105v wIX5_wanted wSX5_wanted iX5_wanted oX5_wanted rfl hok (sX5_wanted Sc Γ n o ml (th) (s) hB hml (Sc.2 (nI (i + 1)).toNatClampNeg) (Sc.2 (nI (i + 2)).toNatClampNeg) (Sc.2 (nI (i + 3)).toNatClampNeg)) (Nat.le_of_ble_eq_true rfl) (Nat.le_of_ble_eq_true rfl) (Nat.le_of_ble_eq_true rfl) rfl (fun _ _ _ q => by obtain ⟨q, _⟩ := q; obtain ⟨_, q, _⟩ := q; cases q) (fun v1882 h thv1882 sv1882 qv1882 hok => ?_)
  obtain ⟨qv1882, hsv1882⟩ := qv1882
  obtain ⟨x1883, qx1883, bx1883⟩ := qv1882
  obtain rfl := Sum.inl.inj qx1883
  refine t_istore [.float 1, .ref g, .ref o, .ref ((o + 17)), .int (nI i), .int (x1880), .int (x1883)] (Or.inr ⟨rfl, dL_law_583⟩) (by decide) rfl ?_
  refine q_goto (tgt := 944) dL_law_585 (by decide) ?_
  refine q_weak [.float 1, .ref g, .ref o, .ref (o + 17), .int (nI i), .retAddr 0, .retAddr 0] ⟨Or.inl rfl, Or.inl rfl, Or.inl rfl, Or.inl rfl, Or.inl rfl, Or.inr ⟨0, rfl⟩, Or.inr ⟨0, rfl⟩, trivial⟩ ?_
  exact q_less (by omega) (by omega) (hnext _ _ h (by omega) hok)
set_option maxRecDepth 20000 in
set_option maxHeartbeats 4000000 in
theorem arm7 (Sc : q_S) (hS : Sc.1 ≤ 3073) (Γ : Nat → q_K) (g o ml : Nat) (hG0 : ∀ Γ'' : Nat → q_K, (∀ j, j < o → Γ'' j = Γ j) → kGF Γ'' g ml) (hm1 : 1 ≤ ml) (hm4 : ml ≤ 4) (hB : mB Γ o) (hw : Γ (o + 17) = (5, 1, [])) (n : Nat) (th s i kc ks : Nat) (hs : s ≤ 1600000000) (hi : i + 6 ≤ Sc.1) (h : q_H) (hok : q_ok (mG Γ o ml th s) h) (Q : q_O → q_H → Nat → Prop) (hnext : ∀ (th' s' : Nat) (h : q_H), s' ≤ s + 8000 → q_ok (mG Γ o ml th' s') h → q_A Sc mL_law 944 [.float 1, .ref g, .ref o, .ref (o + 17), .int (nI i), .retAddr 0, .retAddr 0] [] h n kc ks Q) : q_A Sc mL_law 588 [.float 1, .ref g, .ref o, .ref (o + 17), .int (nI i), .retAddr 0, .retAddr 0] [] h n (kc + 4) (ks + 24) Q := by
  have hG : kGF (mG Γ o ml th s) g ml := hG0 _ (fun j hj => if_neg (by omega))
  have hw2 : mG Γ o ml th s (o + 17) = (5, 1, []) := (if_neg (by omega)).trans hw
  have hml := hm4
  refine q_aload_n dL_law_588 rfl ?_
  refine q_aload_n_x dL_law_589 rfl ?_
  refine q_iload dL_law_590 rfl ?_
  refine q_iconst (v := nI 1) dL_law_592 rfl ?_
  refine t_iadd_n dL_law_593 ?_
  refine q_sld dL_law_594 (by exact vp_in_nI (by omega) (by omega)) ?_
  refine q_aload_n_x dL_law_595 rfl ?_
  refine q_iload dL_law_596 rfl ?_
  refine q_iconst (v := nI 2) dL_law_598 rfl ?_
  refine t_iadd_n dL_law_599 ?_
  refine q_sld dL_law_600 (by exact vp_in_nI (by omega) (by omega)) ?_
  refine q_aload_n_x dL_law_601 rfl ?_
  refine q_iload dL_law_602 rfl ?_
  refine q_iconst (v := nI 3) dL_law_604 rfl ?_
  refine t_iadd_n dL_law_605 ?_
  refine q_sld dL_law_606 (by exact vp_in_nI (by omega) (by omega)) ?_
  refine q_aload_n dL_law_607 rfl ?_
  refine t_callS (M' := mL_passed) [.ref g, .int (Sc.2 (nI (i + 1)).toNatClampNeg), .int (Sc.2 (nI (i + 2)).toNatClampNeg), .int (Sc.2 (nI (i + 3)).toNatClampNeg), .ref ((o + 17))] [] dL_law_608 wPL_106 wTL_passed wNL iL_passed oL_passed rfl hok (sL_passed Sc (mG Γ o ml (th) (s)) n hG hm1 hm4 (Sc.2 (nI (i + 1)).toNatClampNeg) (Sc.2 (nI (i + 2)).toNatClampNeg) (Sc.2 (nI (i + 3)).toNatClampNeg) hw2) (by omega) (by omega) (Nat.le_of_ble_eq_true rfl) (Nat.le_of_ble_eq_true rfl) (Nat.le_of_ble_eq_true rfl) rfl (fun v1884 h qv1884 hok => ?_) (fun e1885 h qe1885 hok => absurd qe1885 (by intro q; obtain ⟨_, q⟩ := q; cases q))
  obtain ⟨x1886, qx1886⟩ := qv1884
  obtain rfl := Sum.inl.inj qx1886
  refine t_istore [.float 1, .ref g, .ref o, .ref ((o + 17)), .int (nI i), .int (x1886), .retAddr 0] (Or.inr ⟨rfl, dL_law_611⟩) (by decide) rfl ?_
  refine q_aload_n dL_law_613 rfl ?_
  refine q_aload_n_x dL_law_614 rfl ?_
  refine q_iload dL_law_615 rfl ?_
  refine q_iconst (v := nI 1) dL_law_617 rfl ?_
  refine t_iadd_n dL_law_618 ?_
  refine q_sld dL_law_619 (by exact vp_in_nI (by omega) (by omega)) ?_
  refine q_aload_n_x dL_law_620 rfl ?_
  refine q_iload dL_law_621 rfl ?_
  refine q_iconst (v := nI 2) dL_law_623 rfl ?_
  refine t_iadd_n dL_law_624 ?_
  refine q_sld dL_law_625 (by exact vp_in_nI (by omega) (by omega)) ?_
  refine q_aload_n_x dL_law_626 rfl ?_
  refine q_iload dL_law_627 rfl ?_
  refine q_iconst (v := nI 3) dL_law_629 rfl ?_
  refine t_iadd_n dL_law_630 ?_
  refine q_sld dL_law_631 (by exact vp_in_nI (by omega) (by omega)) ?_
  refine t_callM (M' := mX5_passed) [.int (Sc.2 (nI (i + 1)).toNatClampNeg), .int (Sc.2 (nI (i + 2)).toNatClampNeg), .int (Sc.2 (nI (i + 3)).toNatClampNeg)] [] dL_law_632 wPL_108v wIX5_passed wSX5_passed iX5_passed oX5_passed rfl hok (sX5_passed Sc Γ n o ml (th) (s) hB hml (Sc.2 (nI (i + 1)).toNatClampNeg) (Sc.2 (nI (i + 2)).toNatClampNeg) (Sc.2 (nI (i + 3)).toNatClampNeg)) (Nat.le_of_ble_eq_true rfl) (Nat.le_of_ble_eq_true rfl) (Nat.le_of_ble_eq_true rfl) rfl (fun _ _ _ q => by obtain ⟨q, _⟩ := q; obtain ⟨_, q⟩ := q; cases q) (fun v1888 h thv1888 sv1888 qv1888 hok => ?_)
  obtain ⟨qv1888, hsv1888⟩ := qv1888
  obtain ⟨x1889, qx1889⟩ := qv1888
  obtain rfl := Sum.inl.inj qx1889
  refine t_istore [.float 1, .ref g, .ref o, .ref ((o + 17)), .int (nI i), .int (x1886), .int (x1889)] (Or.inr ⟨rfl, dL_law_635⟩) (by decide) rfl ?_
  refine q_goto (tgt := 944) dL_law_637 (by decide) ?_
  refine q_weak [.float 1, .ref g, .ref o, .ref (o + 17), .int (nI i), .retAddr 0, .retAddr 0] ⟨Or.inl rfl, Or.inl rfl, Or.inl rfl, Or.inl rfl, Or.inl rfl, Or.inr ⟨0, rfl⟩, Or.inr ⟨0, rfl⟩, trivial⟩ ?_
  exact q_less (by omega) (by omega) (hnext _ _ h (by omega) hok)
set_option maxRecDepth 20000 in
set_option maxHeartbeats 4000000 in
theorem arm8 (Sc : q_S) (hS : Sc.1 ≤ 3073) (Γ : Nat → q_K) (g o ml : Nat) (hG0 : ∀ Γ'' : Nat → q_K, (∀ j, j < o → Γ'' j = Γ j) → kGF Γ'' g ml) (hm1 : 1 ≤ ml) (hm4 : ml ≤ 4) (hB : mB Γ o) (hw : Γ (o + 17) = (5, 1, [])) (n : Nat) (th s i kc ks : Nat) (hs : s ≤ 1600000000) (hi : i + 6 ≤ Sc.1) (h : q_H) (hok : q_ok (mG Γ o ml th s) h) (Q : q_O → q_H → Nat → Prop) (hnext : ∀ (th' s' : Nat) (h : q_H), s' ≤ s + 8000 → q_ok (mG Γ o ml th' s') h → q_A Sc mL_law 944 [.float 1, .ref g, .ref o, .ref (o + 17), .int (nI i), .retAddr 0, .retAddr 0] [] h n kc ks Q) : q_A Sc mL_law 640 [.float 1, .ref g, .ref o, .ref (o + 17), .int (nI i), .retAddr 0, .retAddr 0] [] h n (kc + 4) (ks + 24) Q := by
  have hG : kGF (mG Γ o ml th s) g ml := hG0 _ (fun j hj => if_neg (by omega))
  have hw2 : mG Γ o ml th s (o + 17) = (5, 1, []) := (if_neg (by omega)).trans hw
  have hml := hm4
  refine q_aload_n dL_law_640 rfl ?_
  refine q_aload_n_x dL_law_641 rfl ?_
  refine q_iload dL_law_642 rfl ?_
  refine q_iconst (v := nI 1) dL_law_644 rfl ?_
  refine t_iadd_n dL_law_645 ?_
  refine q_sld dL_law_646 (by exact vp_in_nI (by omega) (by omega)) ?_
  refine q_aload_n_x dL_law_647 rfl ?_
  refine q_iload dL_law_648 rfl ?_
  refine q_iconst (v := nI 2) dL_law_650 rfl ?_
  refine t_iadd_n dL_law_651 ?_
  refine q_sld dL_law_652 (by exact vp_in_nI (by omega) (by omega)) ?_
  refine q_aload_n dL_law_653 rfl ?_
  refine t_callS (M' := mL_mode) [.ref g, .int (Sc.2 (nI (i + 1)).toNatClampNeg), .int (Sc.2 (nI (i + 2)).toNatClampNeg), .ref ((o + 17))] [] dL_law_654 wPL_109 wTL_mode wNL iL_mode oL_mode rfl hok (sL_mode Sc (mG Γ o ml (th) (s)) n hG hm1 hm4 (Sc.2 (nI (i + 1)).toNatClampNeg) (Sc.2 (nI (i + 2)).toNatClampNeg) hw2) (by omega) (by omega) (Nat.le_of_ble_eq_true rfl) (Nat.le_of_ble_eq_true rfl) (Nat.le_of_ble_eq_true rfl) rfl (fun v1890 h qv1890 hok => ?_) (fun e1891 h qe1891 hok => absurd qe1891 (by intro q; obtain ⟨_, q⟩ := q; cases q))
  obtain ⟨x1892, qx1892⟩ := qv1890
  obtain rfl := Sum.inl.inj qx1892
  refine t_istore [.float 1, .ref g, .ref o, .ref ((o + 17)), .int (nI i), .int (x1892), .retAddr 0] (Or.inr ⟨rfl, dL_law_657⟩) (by decide) rfl ?_
  refine q_aload_n dL_law_659 rfl ?_
  refine q_aload_n_x dL_law_660 rfl ?_
  refine q_iload dL_law_661 rfl ?_
  refine q_iconst (v := nI 1) dL_law_663 rfl ?_
  refine t_iadd_n dL_law_664 ?_
  refine q_sld dL_law_665 (by exact vp_in_nI (by omega) (by omega)) ?_
  refine q_aload_n_x dL_law_666 rfl ?_
  refine q_iload dL_law_667 rfl ?_
  refine q_iconst (v := nI 2) dL_law_669 rfl ?_
  refine t_iadd_n dL_law_670 ?_
  refine q_sld dL_law_671 (by exact vp_in_nI (by omega) (by omega)) ?_
  refine t_callM (M' := mX5_mode) [.int (Sc.2 (nI (i + 1)).toNatClampNeg), .int (Sc.2 (nI (i + 2)).toNatClampNeg)] [] dL_law_672 wPL_111v wIX5_mode wSX5_mode iX5_mode oX5_mode rfl hok (sX5_mode Sc Γ n o ml (th) (s) hB hml (Sc.2 (nI (i + 1)).toNatClampNeg) (Sc.2 (nI (i + 2)).toNatClampNeg)) (Nat.le_of_ble_eq_true rfl) (Nat.le_of_ble_eq_true rfl) (Nat.le_of_ble_eq_true rfl) rfl (fun _ _ _ q => by obtain ⟨q, _⟩ := q; obtain ⟨_, q⟩ := q; cases q) (fun v1894 h thv1894 sv1894 qv1894 hok => ?_)
  obtain ⟨qv1894, hsv1894⟩ := qv1894
  obtain ⟨x1895, qx1895⟩ := qv1894
  obtain rfl := Sum.inl.inj qx1895
  refine t_istore [.float 1, .ref g, .ref o, .ref ((o + 17)), .int (nI i), .int (x1892), .int (x1895)] (Or.inr ⟨rfl, dL_law_675⟩) (by decide) rfl ?_
  refine q_goto (tgt := 944) dL_law_677 (by decide) ?_
  refine q_weak [.float 1, .ref g, .ref o, .ref (o + 17), .int (nI i), .retAddr 0, .retAddr 0] ⟨Or.inl rfl, Or.inl rfl, Or.inl rfl, Or.inl rfl, Or.inl rfl, Or.inr ⟨0, rfl⟩, Or.inr ⟨0, rfl⟩, trivial⟩ ?_
  exact q_less (by omega) (by omega) (hnext _ _ h (by omega) hok)
set_option maxRecDepth 20000 in
set_option maxHeartbeats 4000000 in
theorem arm9 (Sc : q_S) (hS : Sc.1 ≤ 3073) (Γ : Nat → q_K) (g o ml : Nat) (hG0 : ∀ Γ'' : Nat → q_K, (∀ j, j < o → Γ'' j = Γ j) → kGF Γ'' g ml) (hm1 : 1 ≤ ml) (hm4 : ml ≤ 4) (hB : mB Γ o) (hw : Γ (o + 17) = (5, 1, [])) (n : Nat) (th s i kc ks : Nat) (hs : s ≤ 1600000000) (hi : i + 6 ≤ Sc.1) (h : q_H) (hok : q_ok (mG Γ o ml th s) h) (Q : q_O → q_H → Nat → Prop) (hnext : ∀ (th' s' : Nat) (h : q_H), s' ≤ s + 8000 → q_ok (mG Γ o ml th' s') h → q_A Sc mL_law 944 [.float 1, .ref g, .ref o, .ref (o + 17), .int (nI i), .retAddr 0, .retAddr 0] [] h n kc ks Q) : q_A Sc mL_law 680 [.float 1, .ref g, .ref o, .ref (o + 17), .int (nI i), .retAddr 0, .retAddr 0] [] h n (kc + 4) (ks + 24) Q := by
  have hG : kGF (mG Γ o ml th s) g ml := hG0 _ (fun j hj => if_neg (by omega))
  have hw2 : mG Γ o ml th s (o + 17) = (5, 1, []) := (if_neg (by omega)).trans hw
  have hml := hm4
  refine q_aload_n dL_law_680 rfl ?_
  refine q_aload_n_x dL_law_681 rfl ?_
  refine q_iload dL_law_682 rfl ?_
  refine q_iconst (v := nI 1) dL_law_684 rfl ?_
  refine t_iadd_n dL_law_685 ?_
  refine q_sld dL_law_686 (by exact vp_in_nI (by omega) (by omega)) ?_
  refine q_aload_n_x dL_law_687 rfl ?_
  refine q_iload dL_law_688 rfl ?_
  refine q_iconst (v := nI 2) dL_law_690 rfl ?_
  refine t_iadd_n dL_law_691 ?_
  refine q_sld dL_law_692 (by exact vp_in_nI (by omega) (by omega)) ?_
  refine q_aload_n_x dL_law_693 rfl ?_
  refine q_iload dL_law_694 rfl ?_
  refine q_iconst (v := nI 3) dL_law_696 rfl ?_
  refine t_iadd_n dL_law_697 ?_
  refine q_sld dL_law_698 (by exact vp_in_nI (by omega) (by omega)) ?_
  refine q_if_eq (tgt := 706) dL_law_699 (by decide) (fun c1896 => ?_) (fun c1896 => ?_)
  ·
    refine q_iconst (v := nI 0) dL_law_706 rfl ?_
    refine q_aload_n dL_law_707 rfl ?_
    refine t_callS (M' := mL_sources) [.ref g, .int (Sc.2 (nI (i + 1)).toNatClampNeg), .int (Sc.2 (nI (i + 2)).toNatClampNeg), .int (nI 0), .ref ((o + 17))] [] dL_law_708 wPL_112 wTL_sources wNL iL_sources oL_sources rfl hok (sL_sources Sc (mG Γ o ml (th) (s)) n hG hm1 hm4 (Sc.2 (nI (i + 1)).toNatClampNeg) (Sc.2 (nI (i + 2)).toNatClampNeg) (nI 0) (Or.inl rfl) hw2) (by omega) (by omega) (Nat.le_of_ble_eq_true rfl) (Nat.le_of_ble_eq_true rfl) (Nat.le_of_ble_eq_true rfl) rfl (fun v1897 h qv1897 hok => ?_) (fun e1898 h qe1898 hok => absurd qe1898 (by intro q; obtain ⟨_, q⟩ := q; cases q))
    obtain ⟨x1899, qx1899⟩ := qv1897
    obtain rfl := Sum.inl.inj qx1899
    refine t_istore [.float 1, .ref g, .ref o, .ref ((o + 17)), .int (nI i), .int (x1899), .retAddr 0] (Or.inr ⟨rfl, dL_law_711⟩) (by decide) rfl ?_
    refine q_aload_n dL_law_713 rfl ?_
    refine q_aload_n_x dL_law_714 rfl ?_
    refine q_iload dL_law_715 rfl ?_
    refine q_iconst (v := nI 1) dL_law_717 rfl ?_
    refine t_iadd_n dL_law_718 ?_
    refine q_sld dL_law_719 (by exact vp_in_nI (by omega) (by omega)) ?_
    refine q_aload_n_x dL_law_720 rfl ?_
    refine q_iload dL_law_721 rfl ?_
    refine q_iconst (v := nI 2) dL_law_723 rfl ?_
    refine t_iadd_n dL_law_724 ?_
    refine q_sld dL_law_725 (by exact vp_in_nI (by omega) (by omega)) ?_
    refine q_aload_n_x dL_law_726 rfl ?_
    refine q_iload dL_law_727 rfl ?_
    refine q_iconst (v := nI 3) dL_law_729 rfl ?_
    refine t_iadd_n dL_law_730 ?_
    refine q_sld dL_law_731 (by exact vp_in_nI (by omega) (by omega)) ?_
    refine q_if_eq (tgt := 739) dL_law_732 (by decide) (fun c1900 => ?_) (fun c1900 => ?_)
    rotate_left
    · exact absurd c1896 c1900
    refine q_iconst (v := nI 0) dL_law_739 rfl ?_
    refine t_callM (M' := mX5_sources) [.int (Sc.2 (nI (i + 1)).toNatClampNeg), .int (Sc.2 (nI (i + 2)).toNatClampNeg), .int (nI 0)] [] dL_law_740 wPL_115v wIX5_sources wSX5_sources iX5_sources oX5_sources rfl hok (sX5_sources Sc Γ n o ml (th) (s) hB hml (Sc.2 (nI (i + 1)).toNatClampNeg) (Sc.2 (nI (i + 2)).toNatClampNeg) (nI 0) (Or.inl rfl)) (Nat.le_of_ble_eq_true rfl) (Nat.le_of_ble_eq_true rfl) (Nat.le_of_ble_eq_true rfl) rfl (fun _ _ _ q => by obtain ⟨q, _⟩ := q; obtain ⟨_, q⟩ := q; cases q) (fun v1902 h thv1902 sv1902 qv1902 hok => ?_)
    obtain ⟨qv1902, hsv1902⟩ := qv1902
    obtain ⟨x1903, qx1903⟩ := qv1902
    obtain rfl := Sum.inl.inj qx1903
    refine t_istore [.float 1, .ref g, .ref o, .ref ((o + 17)), .int (nI i), .int (x1899), .int (x1903)] (Or.inr ⟨rfl, dL_law_743⟩) (by decide) rfl ?_
    refine q_goto (tgt := 944) dL_law_745 (by decide) ?_
    refine q_weak [.float 1, .ref g, .ref o, .ref (o + 17), .int (nI i), .retAddr 0, .retAddr 0] ⟨Or.inl rfl, Or.inl rfl, Or.inl rfl, Or.inl rfl, Or.inl rfl, Or.inr ⟨0, rfl⟩, Or.inr ⟨0, rfl⟩, trivial⟩ ?_
    exact q_less (by omega) (by omega) (hnext _ _ h (by omega) hok)
  ·
    refine q_iconst (v := nI 1) dL_law_702 rfl ?_
    refine q_goto (tgt := 707) dL_law_703 (by decide) ?_
    refine q_aload_n dL_law_707 rfl ?_
    refine t_callS (M' := mL_sources) [.ref g, .int (Sc.2 (nI (i + 1)).toNatClampNeg), .int (Sc.2 (nI (i + 2)).toNatClampNeg), .int (nI 1), .ref ((o + 17))] [] dL_law_708 wPL_112 wTL_sources wNL iL_sources oL_sources rfl hok (sL_sources Sc (mG Γ o ml (th) (s)) n hG hm1 hm4 (Sc.2 (nI (i + 1)).toNatClampNeg) (Sc.2 (nI (i + 2)).toNatClampNeg) (nI 1) (Or.inr rfl) hw2) (by omega) (by omega) (Nat.le_of_ble_eq_true rfl) (Nat.le_of_ble_eq_true rfl) (Nat.le_of_ble_eq_true rfl) rfl (fun v1904 h qv1904 hok => ?_) (fun e1905 h qe1905 hok => absurd qe1905 (by intro q; obtain ⟨_, q⟩ := q; cases q))
    obtain ⟨x1906, qx1906⟩ := qv1904
    obtain rfl := Sum.inl.inj qx1906
    refine t_istore [.float 1, .ref g, .ref o, .ref ((o + 17)), .int (nI i), .int (x1906), .retAddr 0] (Or.inr ⟨rfl, dL_law_711⟩) (by decide) rfl ?_
    refine q_aload_n dL_law_713 rfl ?_
    refine q_aload_n_x dL_law_714 rfl ?_
    refine q_iload dL_law_715 rfl ?_
    refine q_iconst (v := nI 1) dL_law_717 rfl ?_
    refine t_iadd_n dL_law_718 ?_
    refine q_sld dL_law_719 (by exact vp_in_nI (by omega) (by omega)) ?_
    refine q_aload_n_x dL_law_720 rfl ?_
    refine q_iload dL_law_721 rfl ?_
    refine q_iconst (v := nI 2) dL_law_723 rfl ?_
    refine t_iadd_n dL_law_724 ?_
    refine q_sld dL_law_725 (by exact vp_in_nI (by omega) (by omega)) ?_
    refine q_aload_n_x dL_law_726 rfl ?_
    refine q_iload dL_law_727 rfl ?_
    refine q_iconst (v := nI 3) dL_law_729 rfl ?_
    refine t_iadd_n dL_law_730 ?_
    refine q_sld dL_law_731 (by exact vp_in_nI (by omega) (by omega)) ?_
    refine q_if_eq (tgt := 739) dL_law_732 (by decide) (fun c1907 => ?_) (fun c1907 => ?_)
    · exact absurd c1907 c1896
    refine q_iconst (v := nI 1) dL_law_735 rfl ?_
    refine q_goto (tgt := 740) dL_law_736 (by decide) ?_
    refine t_callM (M' := mX5_sources) [.int (Sc.2 (nI (i + 1)).toNatClampNeg), .int (Sc.2 (nI (i + 2)).toNatClampNeg), .int (nI 1)] [] dL_law_740 wPL_115v wIX5_sources wSX5_sources iX5_sources oX5_sources rfl hok (sX5_sources Sc Γ n o ml (th) (s) hB hml (Sc.2 (nI (i + 1)).toNatClampNeg) (Sc.2 (nI (i + 2)).toNatClampNeg) (nI 1) (Or.inr rfl)) (Nat.le_of_ble_eq_true rfl) (Nat.le_of_ble_eq_true rfl) (Nat.le_of_ble_eq_true rfl) rfl (fun _ _ _ q => by obtain ⟨q, _⟩ := q; obtain ⟨_, q⟩ := q; cases q) (fun v1909 h thv1909 sv1909 qv1909 hok => ?_)
    obtain ⟨qv1909, hsv1909⟩ := qv1909
    obtain ⟨x1910, qx1910⟩ := qv1909
    obtain rfl := Sum.inl.inj qx1910
    refine t_istore [.float 1, .ref g, .ref o, .ref ((o + 17)), .int (nI i), .int (x1906), .int (x1910)] (Or.inr ⟨rfl, dL_law_743⟩) (by decide) rfl ?_
    refine q_goto (tgt := 944) dL_law_745 (by decide) ?_
    refine q_weak [.float 1, .ref g, .ref o, .ref (o + 17), .int (nI i), .retAddr 0, .retAddr 0] ⟨Or.inl rfl, Or.inl rfl, Or.inl rfl, Or.inl rfl, Or.inl rfl, Or.inr ⟨0, rfl⟩, Or.inr ⟨0, rfl⟩, trivial⟩ ?_
    exact q_less (by omega) (by omega) (hnext _ _ h (by omega) hok)
set_option maxRecDepth 20000 in
set_option maxHeartbeats 4000000 in
theorem arm10 (Sc : q_S) (hS : Sc.1 ≤ 3073) (Γ : Nat → q_K) (g o ml : Nat) (hG0 : ∀ Γ'' : Nat → q_K, (∀ j, j < o → Γ'' j = Γ j) → kGF Γ'' g ml) (hm1 : 1 ≤ ml) (hm4 : ml ≤ 4) (hB : mB Γ o) (hw : Γ (o + 17) = (5, 1, [])) (n : Nat) (th s i kc ks : Nat) (hs : s ≤ 1600000000) (hi : i + 6 ≤ Sc.1) (h : q_H) (hok : q_ok (mG Γ o ml th s) h) (Q : q_O → q_H → Nat → Prop) (hnext : ∀ (th' s' : Nat) (h : q_H), s' ≤ s + 8000 → q_ok (mG Γ o ml th' s') h → q_A Sc mL_law 944 [.float 1, .ref g, .ref o, .ref (o + 17), .int (nI i), .retAddr 0, .retAddr 0] [] h n kc ks Q) : q_A Sc mL_law 748 [.float 1, .ref g, .ref o, .ref (o + 17), .int (nI i), .retAddr 0, .retAddr 0] [] h n (kc + 4) (ks + 24) Q := by
  have hG : kGF (mG Γ o ml th s) g ml := hG0 _ (fun j hj => if_neg (by omega))
  have hw2 : mG Γ o ml th s (o + 17) = (5, 1, []) := (if_neg (by omega)).trans hw
  have hml := hm4
  refine q_aload_n dL_law_748 rfl ?_
  refine q_aload_n_x dL_law_749 rfl ?_
  refine q_iload dL_law_750 rfl ?_
  refine q_iconst (v := nI 1) dL_law_752 rfl ?_
  refine t_iadd_n dL_law_753 ?_
  refine q_sld dL_law_754 (by exact vp_in_nI (by omega) (by omega)) ?_
  refine q_aload_n_x dL_law_755 rfl ?_
  refine q_iload dL_law_756 rfl ?_
  refine q_iconst (v := nI 2) dL_law_758 rfl ?_
  refine t_iadd_n dL_law_759 ?_
  refine q_sld dL_law_760 (by exact vp_in_nI (by omega) (by omega)) ?_
  refine q_aload_n_x dL_law_761 rfl ?_
  refine q_iload dL_law_762 rfl ?_
  refine q_iconst (v := nI 3) dL_law_764 rfl ?_
  refine t_iadd_n dL_law_765 ?_
  refine q_sld dL_law_766 (by exact vp_in_nI (by omega) (by omega)) ?_
  refine q_aload_n dL_law_767 rfl ?_
  refine t_callS (M' := mL_timer) [.ref g, .int (Sc.2 (nI (i + 1)).toNatClampNeg), .int (Sc.2 (nI (i + 2)).toNatClampNeg), .int (Sc.2 (nI (i + 3)).toNatClampNeg), .ref ((o + 17))] [] dL_law_768 wPL_116 wTL_timer wNL iL_timer oL_timer rfl hok (sL_timer Sc (mG Γ o ml (th) (s)) n hG hm1 hm4 (Sc.2 (nI (i + 1)).toNatClampNeg) (Sc.2 (nI (i + 2)).toNatClampNeg) (Sc.2 (nI (i + 3)).toNatClampNeg) hw2) (by omega) (by omega) (Nat.le_of_ble_eq_true rfl) (Nat.le_of_ble_eq_true rfl) (Nat.le_of_ble_eq_true rfl) rfl (fun v1911 h qv1911 hok => ?_) (fun e1912 h qe1912 hok => absurd qe1912 (by intro q; obtain ⟨_, q⟩ := q; cases q))
  obtain ⟨x1913, qx1913⟩ := qv1911
  obtain rfl := Sum.inl.inj qx1913
  refine t_istore [.float 1, .ref g, .ref o, .ref ((o + 17)), .int (nI i), .int (x1913), .retAddr 0] (Or.inr ⟨rfl, dL_law_771⟩) (by decide) rfl ?_
  refine q_aload_n dL_law_773 rfl ?_
  refine q_aload_n_x dL_law_774 rfl ?_
  refine q_iload dL_law_775 rfl ?_
  refine q_iconst (v := nI 1) dL_law_777 rfl ?_
  refine t_iadd_n dL_law_778 ?_
  refine q_sld dL_law_779 (by exact vp_in_nI (by omega) (by omega)) ?_
  refine q_aload_n_x dL_law_780 rfl ?_
  refine q_iload dL_law_781 rfl ?_
  refine q_iconst (v := nI 2) dL_law_783 rfl ?_
  refine t_iadd_n dL_law_784 ?_
  refine q_sld dL_law_785 (by exact vp_in_nI (by omega) (by omega)) ?_
  refine q_aload_n_x dL_law_786 rfl ?_
  refine q_iload dL_law_787 rfl ?_
  refine q_iconst (v := nI 3) dL_law_789 rfl ?_
  refine t_iadd_n dL_law_790 ?_
  refine q_sld dL_law_791 (by exact vp_in_nI (by omega) (by omega)) ?_
  refine t_callM (M' := mX5_timer) [.int (Sc.2 (nI (i + 1)).toNatClampNeg), .int (Sc.2 (nI (i + 2)).toNatClampNeg), .int (Sc.2 (nI (i + 3)).toNatClampNeg)] [] dL_law_792 wPL_118v wIX5_timer wSX5_timer iX5_timer oX5_timer rfl hok (sX5_timer Sc Γ n o ml (th) (s) hB hml (Sc.2 (nI (i + 1)).toNatClampNeg) (Sc.2 (nI (i + 2)).toNatClampNeg) (Sc.2 (nI (i + 3)).toNatClampNeg)) (Nat.le_of_ble_eq_true rfl) (Nat.le_of_ble_eq_true rfl) (Nat.le_of_ble_eq_true rfl) rfl (fun _ _ _ q => by obtain ⟨q, _⟩ := q; obtain ⟨_, q⟩ := q; cases q) (fun v1915 h thv1915 sv1915 qv1915 hok => ?_)
  obtain ⟨qv1915, hsv1915⟩ := qv1915
  obtain ⟨x1916, qx1916⟩ := qv1915
  obtain rfl := Sum.inl.inj qx1916
  refine t_istore [.float 1, .ref g, .ref o, .ref ((o + 17)), .int (nI i), .int (x1913), .int (x1916)] (Or.inr ⟨rfl, dL_law_795⟩) (by decide) rfl ?_
  refine q_goto (tgt := 944) dL_law_797 (by decide) ?_
  refine q_weak [.float 1, .ref g, .ref o, .ref (o + 17), .int (nI i), .retAddr 0, .retAddr 0] ⟨Or.inl rfl, Or.inl rfl, Or.inl rfl, Or.inl rfl, Or.inl rfl, Or.inr ⟨0, rfl⟩, Or.inr ⟨0, rfl⟩, trivial⟩ ?_
  exact q_less (by omega) (by omega) (hnext _ _ h (by omega) hok)
set_option maxRecDepth 20000 in
set_option maxHeartbeats 4000000 in
theorem arm11 (Sc : q_S) (hS : Sc.1 ≤ 3073) (Γ : Nat → q_K) (g o ml : Nat) (hG0 : ∀ Γ'' : Nat → q_K, (∀ j, j < o → Γ'' j = Γ j) → kGF Γ'' g ml) (hm1 : 1 ≤ ml) (hm4 : ml ≤ 4) (hB : mB Γ o) (hw : Γ (o + 17) = (5, 1, [])) (n : Nat) (th s i kc ks : Nat) (hs : s ≤ 1600000000) (hi : i + 6 ≤ Sc.1) (h : q_H) (hok : q_ok (mG Γ o ml th s) h) (Q : q_O → q_H → Nat → Prop) (hnext : ∀ (th' s' : Nat) (h : q_H), s' ≤ s + 8000 → q_ok (mG Γ o ml th' s') h → q_A Sc mL_law 944 [.float 1, .ref g, .ref o, .ref (o + 17), .int (nI i), .retAddr 0, .retAddr 0] [] h n kc ks Q) : q_A Sc mL_law 800 [.float 1, .ref g, .ref o, .ref (o + 17), .int (nI i), .retAddr 0, .retAddr 0] [] h n (kc + 4) (ks + 24) Q := by
  have hG : kGF (mG Γ o ml th s) g ml := hG0 _ (fun j hj => if_neg (by omega))
  have hw2 : mG Γ o ml th s (o + 17) = (5, 1, []) := (if_neg (by omega)).trans hw
  have hml := hm4
  refine q_aload_n dL_law_800 rfl ?_
  refine q_aload_n_x dL_law_801 rfl ?_
  refine q_iload dL_law_802 rfl ?_
  refine q_iconst (v := nI 1) dL_law_804 rfl ?_
  refine t_iadd_n dL_law_805 ?_
  refine q_sld dL_law_806 (by exact vp_in_nI (by omega) (by omega)) ?_
  refine q_aload_n_x dL_law_807 rfl ?_
  refine q_iload dL_law_808 rfl ?_
  refine q_iconst (v := nI 2) dL_law_810 rfl ?_
  refine t_iadd_n dL_law_811 ?_
  refine q_sld dL_law_812 (by exact vp_in_nI (by omega) (by omega)) ?_
  refine q_aload_n dL_law_813 rfl ?_
  refine t_callS (M' := mL_groupTimer) [.ref g, .int (Sc.2 (nI (i + 1)).toNatClampNeg), .int (Sc.2 (nI (i + 2)).toNatClampNeg), .ref ((o + 17))] [] dL_law_814 wPL_119 wTL_groupTimer wNL iL_groupTimer oL_groupTimer rfl hok (sL_groupTimer Sc (mG Γ o ml (th) (s)) n hG hm1 hm4 (Sc.2 (nI (i + 1)).toNatClampNeg) (Sc.2 (nI (i + 2)).toNatClampNeg) hw2) (by omega) (by omega) (Nat.le_of_ble_eq_true rfl) (Nat.le_of_ble_eq_true rfl) (Nat.le_of_ble_eq_true rfl) rfl (fun v1917 h qv1917 hok => ?_) (fun e1918 h qe1918 hok => absurd qe1918 (by intro q; obtain ⟨_, q⟩ := q; cases q))
  obtain ⟨x1919, qx1919⟩ := qv1917
  obtain rfl := Sum.inl.inj qx1919
  refine t_istore [.float 1, .ref g, .ref o, .ref ((o + 17)), .int (nI i), .int (x1919), .retAddr 0] (Or.inr ⟨rfl, dL_law_817⟩) (by decide) rfl ?_
  refine q_aload_n dL_law_819 rfl ?_
  refine q_aload_n_x dL_law_820 rfl ?_
  refine q_iload dL_law_821 rfl ?_
  refine q_iconst (v := nI 1) dL_law_823 rfl ?_
  refine t_iadd_n dL_law_824 ?_
  refine q_sld dL_law_825 (by exact vp_in_nI (by omega) (by omega)) ?_
  refine q_aload_n_x dL_law_826 rfl ?_
  refine q_iload dL_law_827 rfl ?_
  refine q_iconst (v := nI 2) dL_law_829 rfl ?_
  refine t_iadd_n dL_law_830 ?_
  refine q_sld dL_law_831 (by exact vp_in_nI (by omega) (by omega)) ?_
  refine t_callM (M' := mX5_groupTimer) [.int (Sc.2 (nI (i + 1)).toNatClampNeg), .int (Sc.2 (nI (i + 2)).toNatClampNeg)] [] dL_law_832 wPL_121v wIX5_groupTimer wSX5_groupTimer iX5_groupTimer oX5_groupTimer rfl hok (sX5_groupTimer Sc Γ n o ml (th) (s) hB hml (Sc.2 (nI (i + 1)).toNatClampNeg) (Sc.2 (nI (i + 2)).toNatClampNeg)) (Nat.le_of_ble_eq_true rfl) (Nat.le_of_ble_eq_true rfl) (Nat.le_of_ble_eq_true rfl) rfl (fun _ _ _ q => by obtain ⟨q, _⟩ := q; obtain ⟨_, q⟩ := q; cases q) (fun v1921 h thv1921 sv1921 qv1921 hok => ?_)
  obtain ⟨qv1921, hsv1921⟩ := qv1921
  obtain ⟨x1922, qx1922⟩ := qv1921
  obtain rfl := Sum.inl.inj qx1922
  refine t_istore [.float 1, .ref g, .ref o, .ref ((o + 17)), .int (nI i), .int (x1919), .int (x1922)] (Or.inr ⟨rfl, dL_law_835⟩) (by decide) rfl ?_
  refine q_goto (tgt := 944) dL_law_837 (by decide) ?_
  refine q_weak [.float 1, .ref g, .ref o, .ref (o + 17), .int (nI i), .retAddr 0, .retAddr 0] ⟨Or.inl rfl, Or.inl rfl, Or.inl rfl, Or.inl rfl, Or.inl rfl, Or.inr ⟨0, rfl⟩, Or.inr ⟨0, rfl⟩, trivial⟩ ?_
  exact q_less (by omega) (by omega) (hnext _ _ h (by omega) hok)
set_option maxRecDepth 20000 in
set_option maxHeartbeats 4000000 in
theorem arm12 (Sc : q_S) (hS : Sc.1 ≤ 3073) (Γ : Nat → q_K) (g o ml : Nat) (hG0 : ∀ Γ'' : Nat → q_K, (∀ j, j < o → Γ'' j = Γ j) → kGF Γ'' g ml) (hm1 : 1 ≤ ml) (hm4 : ml ≤ 4) (hB : mB Γ o) (hw : Γ (o + 17) = (5, 1, [])) (n : Nat) (th s i kc ks : Nat) (hs : s ≤ 1600000000) (hi : i + 6 ≤ Sc.1) (h : q_H) (hok : q_ok (mG Γ o ml th s) h) (Q : q_O → q_H → Nat → Prop) (hnext : ∀ (th' s' : Nat) (h : q_H), s' ≤ s + 8000 → q_ok (mG Γ o ml th' s') h → q_A Sc mL_law 944 [.float 1, .ref g, .ref o, .ref (o + 17), .int (nI i), .retAddr 0, .retAddr 0] [] h n kc ks Q) : q_A Sc mL_law 840 [.float 1, .ref g, .ref o, .ref (o + 17), .int (nI i), .retAddr 0, .retAddr 0] [] h n (kc + 4) (ks + 24) Q := by
  have hG : kGF (mG Γ o ml th s) g ml := hG0 _ (fun j hj => if_neg (by omega))
  have hw2 : mG Γ o ml th s (o + 17) = (5, 1, []) := (if_neg (by omega)).trans hw
  have hml := hm4
  refine q_aload_n dL_law_840 rfl ?_
  obtain ⟨pu1923, qu1923, ru1923, gu1923, au1923, bu1923, cu1923, du1923⟩ := id hG
  refine t_callV (M' := mX4_sent) [] [] kX4 dL_law_841 wPL_122v wIX4_sent wSX4_sent iX4_sent oX4_sent rfl hok gu1923 (sX4_sent Sc (mG Γ o ml (th) (s)) n hG hm1 hm4) (by omega) (by omega) (Nat.le_of_ble_eq_true rfl) (Nat.le_of_ble_eq_true rfl) (Nat.le_of_ble_eq_true rfl) rfl (fun v1924 h qv1924 hok => ?_) (fun e1925 h qe1925 hok => absurd qe1925 (by intro q; obtain ⟨_, q⟩ := q; cases q))
  obtain ⟨x1926, qx1926⟩ := qv1924
  obtain rfl := Sum.inl.inj qx1926
  refine q_pop dL_law_844 rfl ?_
  refine q_aload_n dL_law_845 rfl ?_
  refine t_callM (M' := mX5_sent) [] [] dL_law_846 wPL_125v wIX5_sent wSX5_sent iX5_sent oX5_sent rfl hok (sX5_sent Sc Γ n o ml (th) (s) hB hml ) (Nat.le_of_ble_eq_true rfl) (Nat.le_of_ble_eq_true rfl) (Nat.le_of_ble_eq_true rfl) rfl (fun _ _ _ q => by obtain ⟨q, _⟩ := q; obtain ⟨_, q⟩ := q; cases q) (fun v1928 h thv1928 sv1928 qv1928 hok => ?_)
  obtain ⟨qv1928, hsv1928⟩ := qv1928
  obtain ⟨x1929, qx1929⟩ := qv1928
  obtain rfl := Sum.inl.inj qx1929
  refine q_pop dL_law_849 rfl ?_
  refine q_goto (tgt := 944) dL_law_850 (by decide) ?_
  refine q_weak [.float 1, .ref g, .ref o, .ref (o + 17), .int (nI i), .retAddr 0, .retAddr 0] ⟨Or.inl rfl, Or.inl rfl, Or.inl rfl, Or.inl rfl, Or.inl rfl, Or.inr ⟨0, rfl⟩, Or.inr ⟨0, rfl⟩, trivial⟩ ?_
  exact q_less (by omega) (by omega) (hnext _ _ h (by omega) hok)
set_option maxRecDepth 20000 in
set_option maxHeartbeats 4000000 in
theorem arm13 (Sc : q_S) (hS : Sc.1 ≤ 3073) (Γ : Nat → q_K) (g o ml : Nat) (hG0 : ∀ Γ'' : Nat → q_K, (∀ j, j < o → Γ'' j = Γ j) → kGF Γ'' g ml) (hm1 : 1 ≤ ml) (hm4 : ml ≤ 4) (hB : mB Γ o) (hw : Γ (o + 17) = (5, 1, [])) (n : Nat) (th s i kc ks : Nat) (hs : s ≤ 1600000000) (hi : i + 6 ≤ Sc.1) (h : q_H) (hok : q_ok (mG Γ o ml th s) h) (Q : q_O → q_H → Nat → Prop) (hnext : ∀ (th' s' : Nat) (h : q_H), s' ≤ s + 8000 → q_ok (mG Γ o ml th' s') h → q_A Sc mL_law 944 [.float 1, .ref g, .ref o, .ref (o + 17), .int (nI i), .retAddr 0, .retAddr 0] [] h n kc ks Q) : q_A Sc mL_law 853 [.float 1, .ref g, .ref o, .ref (o + 17), .int (nI i), .retAddr 0, .retAddr 0] [] h n (kc + 4) (ks + 24) Q := by
  have hG : kGF (mG Γ o ml th s) g ml := hG0 _ (fun j hj => if_neg (by omega))
  have hw2 : mG Γ o ml th s (o + 17) = (5, 1, []) := (if_neg (by omega)).trans hw
  have hml := hm4
  refine q_aload_n dL_law_853 rfl ?_
  refine q_aload_n_x dL_law_854 rfl ?_
  refine q_iload dL_law_855 rfl ?_
  refine q_iconst (v := nI 1) dL_law_857 rfl ?_
  refine t_iadd_n dL_law_858 ?_
  refine q_sld dL_law_859 (by exact vp_in_nI (by omega) (by omega)) ?_
  refine q_aload_n_x dL_law_860 rfl ?_
  refine q_iload dL_law_861 rfl ?_
  refine q_iconst (v := nI 2) dL_law_863 rfl ?_
  refine t_iadd_n dL_law_864 ?_
  refine q_sld dL_law_865 (by exact vp_in_nI (by omega) (by omega)) ?_
  refine q_aload_n dL_law_866 rfl ?_
  refine t_callS (M' := mL_asked) [.ref g, .int (Sc.2 (nI (i + 1)).toNatClampNeg), .int (Sc.2 (nI (i + 2)).toNatClampNeg), .ref ((o + 17))] [] dL_law_867 wPL_126 wTL_asked wNL iL_asked oL_asked rfl hok (sL_asked Sc (mG Γ o ml (th) (s)) n hG hm1 hm4 (Sc.2 (nI (i + 1)).toNatClampNeg) (Sc.2 (nI (i + 2)).toNatClampNeg) hw2) (by omega) (by omega) (Nat.le_of_ble_eq_true rfl) (Nat.le_of_ble_eq_true rfl) (Nat.le_of_ble_eq_true rfl) rfl (fun v1930 h qv1930 hok => ?_) (fun e1931 h qe1931 hok => absurd qe1931 (by intro q; obtain ⟨_, q⟩ := q; cases q))
  obtain ⟨x1932, qx1932⟩ := qv1930
  obtain rfl := Sum.inl.inj qx1932
  refine t_istore [.float 1, .ref g, .ref o, .ref ((o + 17)), .int (nI i), .int (x1932), .retAddr 0] (Or.inr ⟨rfl, dL_law_870⟩) (by decide) rfl ?_
  refine q_aload_n dL_law_872 rfl ?_
  refine q_aload_n_x dL_law_873 rfl ?_
  refine q_iload dL_law_874 rfl ?_
  refine q_iconst (v := nI 1) dL_law_876 rfl ?_
  refine t_iadd_n dL_law_877 ?_
  refine q_sld dL_law_878 (by exact vp_in_nI (by omega) (by omega)) ?_
  refine q_aload_n_x dL_law_879 rfl ?_
  refine q_iload dL_law_880 rfl ?_
  refine q_iconst (v := nI 2) dL_law_882 rfl ?_
  refine t_iadd_n dL_law_883 ?_
  refine q_sld dL_law_884 (by exact vp_in_nI (by omega) (by omega)) ?_
  refine t_callM (M' := mX5_asked) [.int (Sc.2 (nI (i + 1)).toNatClampNeg), .int (Sc.2 (nI (i + 2)).toNatClampNeg)] [] dL_law_885 wPL_128v wIX5_asked wSX5_asked iX5_asked oX5_asked rfl hok (sX5_asked Sc Γ n o ml (th) (s) hB hml (by omega) (Sc.2 (nI (i + 1)).toNatClampNeg) (Sc.2 (nI (i + 2)).toNatClampNeg)) (Nat.le_of_ble_eq_true rfl) (Nat.le_of_ble_eq_true rfl) (Nat.le_of_ble_eq_true rfl) rfl (fun _ _ _ q => by obtain ⟨q, _⟩ := q; obtain ⟨_, q⟩ := q; cases q) (fun v1934 h thv1934 sv1934 qv1934 hok => ?_)
  obtain ⟨qv1934, hsv1934⟩ := qv1934
  obtain ⟨x1935, qx1935⟩ := qv1934
  obtain rfl := Sum.inl.inj qx1935
  refine t_istore [.float 1, .ref g, .ref o, .ref ((o + 17)), .int (nI i), .int (x1932), .int (x1935)] (Or.inr ⟨rfl, dL_law_888⟩) (by decide) rfl ?_
  refine q_goto (tgt := 944) dL_law_890 (by decide) ?_
  refine q_weak [.float 1, .ref g, .ref o, .ref (o + 17), .int (nI i), .retAddr 0, .retAddr 0] ⟨Or.inl rfl, Or.inl rfl, Or.inl rfl, Or.inl rfl, Or.inl rfl, Or.inr ⟨0, rfl⟩, Or.inr ⟨0, rfl⟩, trivial⟩ ?_
  exact q_less (by omega) (by omega) (hnext _ _ h (by omega) hok)
set_option maxRecDepth 20000 in
set_option maxHeartbeats 4000000 in
theorem arm14 (Sc : q_S) (hS : Sc.1 ≤ 3073) (Γ : Nat → q_K) (g o ml : Nat) (hG0 : ∀ Γ'' : Nat → q_K, (∀ j, j < o → Γ'' j = Γ j) → kGF Γ'' g ml) (hm1 : 1 ≤ ml) (hm4 : ml ≤ 4) (hB : mB Γ o) (hw : Γ (o + 17) = (5, 1, [])) (n : Nat) (th s i kc ks : Nat) (hs : s ≤ 1600000000) (hi : i + 6 ≤ Sc.1) (h : q_H) (hok : q_ok (mG Γ o ml th s) h) (Q : q_O → q_H → Nat → Prop) (hnext : ∀ (th' s' : Nat) (h : q_H), s' ≤ s + 8000 → q_ok (mG Γ o ml th' s') h → q_A Sc mL_law 944 [.float 1, .ref g, .ref o, .ref (o + 17), .int (nI i), .retAddr 0, .retAddr 0] [] h n kc ks Q) : q_A Sc mL_law 893 [.float 1, .ref g, .ref o, .ref (o + 17), .int (nI i), .retAddr 0, .retAddr 0] [] h n (kc + 4) (ks + 24) Q := by
  have hG : kGF (mG Γ o ml th s) g ml := hG0 _ (fun j hj => if_neg (by omega))
  have hw2 : mG Γ o ml th s (o + 17) = (5, 1, []) := (if_neg (by omega)).trans hw
  have hml := hm4
  refine q_aload_n dL_law_893 rfl ?_
  refine q_aload_n_x dL_law_894 rfl ?_
  refine q_iload dL_law_895 rfl ?_
  refine q_iconst (v := nI 1) dL_law_897 rfl ?_
  refine t_iadd_n dL_law_898 ?_
  refine q_sld dL_law_899 (by exact vp_in_nI (by omega) (by omega)) ?_
  refine q_aload_n_x dL_law_900 rfl ?_
  refine q_iload dL_law_901 rfl ?_
  refine q_iconst (v := nI 2) dL_law_903 rfl ?_
  refine t_iadd_n dL_law_904 ?_
  refine q_sld dL_law_905 (by exact vp_in_nI (by omega) (by omega)) ?_
  refine q_aload_n dL_law_906 rfl ?_
  refine t_callS (M' := mL_told) [.ref g, .int (Sc.2 (nI (i + 1)).toNatClampNeg), .int (Sc.2 (nI (i + 2)).toNatClampNeg), .ref ((o + 17))] [] dL_law_907 wPL_129 wTL_told wNL iL_told oL_told rfl hok (sL_told Sc (mG Γ o ml (th) (s)) n hG hm1 hm4 (Sc.2 (nI (i + 1)).toNatClampNeg) (Sc.2 (nI (i + 2)).toNatClampNeg) hw2) (by omega) (by omega) (Nat.le_of_ble_eq_true rfl) (Nat.le_of_ble_eq_true rfl) (Nat.le_of_ble_eq_true rfl) rfl (fun v1936 h qv1936 hok => ?_) (fun e1937 h qe1937 hok => absurd qe1937 (by intro q; obtain ⟨_, q⟩ := q; cases q))
  obtain ⟨x1938, qx1938⟩ := qv1936
  obtain rfl := Sum.inl.inj qx1938
  refine t_istore [.float 1, .ref g, .ref o, .ref ((o + 17)), .int (nI i), .int (x1938), .retAddr 0] (Or.inr ⟨rfl, dL_law_910⟩) (by decide) rfl ?_
  refine q_aload_n dL_law_912 rfl ?_
  refine q_aload_n_x dL_law_913 rfl ?_
  refine q_iload dL_law_914 rfl ?_
  refine q_iconst (v := nI 1) dL_law_916 rfl ?_
  refine t_iadd_n dL_law_917 ?_
  refine q_sld dL_law_918 (by exact vp_in_nI (by omega) (by omega)) ?_
  refine q_aload_n_x dL_law_919 rfl ?_
  refine q_iload dL_law_920 rfl ?_
  refine q_iconst (v := nI 2) dL_law_922 rfl ?_
  refine t_iadd_n dL_law_923 ?_
  refine q_sld dL_law_924 (by exact vp_in_nI (by omega) (by omega)) ?_
  refine t_callM (M' := mX5_told) [.int (Sc.2 (nI (i + 1)).toNatClampNeg), .int (Sc.2 (nI (i + 2)).toNatClampNeg)] [] dL_law_925 wPL_131v wIX5_told wSX5_told iX5_told oX5_told rfl hok (sX5_told Sc Γ n o ml (th) (s) hB hml (Sc.2 (nI (i + 1)).toNatClampNeg) (Sc.2 (nI (i + 2)).toNatClampNeg)) (Nat.le_of_ble_eq_true rfl) (Nat.le_of_ble_eq_true rfl) (Nat.le_of_ble_eq_true rfl) rfl (fun _ _ _ q => by obtain ⟨q, _⟩ := q; obtain ⟨_, q⟩ := q; cases q) (fun v1940 h thv1940 sv1940 qv1940 hok => ?_)
  obtain ⟨qv1940, hsv1940⟩ := qv1940
  obtain ⟨x1941, qx1941⟩ := qv1940
  obtain rfl := Sum.inl.inj qx1941
  refine t_istore [.float 1, .ref g, .ref o, .ref ((o + 17)), .int (nI i), .int (x1938), .int (x1941)] (Or.inr ⟨rfl, dL_law_928⟩) (by decide) rfl ?_
  refine q_goto (tgt := 944) dL_law_930 (by decide) ?_
  refine q_weak [.float 1, .ref g, .ref o, .ref (o + 17), .int (nI i), .retAddr 0, .retAddr 0] ⟨Or.inl rfl, Or.inl rfl, Or.inl rfl, Or.inl rfl, Or.inl rfl, Or.inr ⟨0, rfl⟩, Or.inr ⟨0, rfl⟩, trivial⟩ ?_
  exact q_less (by omega) (by omega) (hnext _ _ h (by omega) hok)
set_option maxRecDepth 20000 in
set_option maxHeartbeats 4000000 in
theorem arm15 (Sc : q_S) (hS : Sc.1 ≤ 3073) (Γ : Nat → q_K) (g o ml : Nat) (hG0 : ∀ Γ'' : Nat → q_K, (∀ j, j < o → Γ'' j = Γ j) → kGF Γ'' g ml) (hm1 : 1 ≤ ml) (hm4 : ml ≤ 4) (hB : mB Γ o) (hw : Γ (o + 17) = (5, 1, [])) (n : Nat) (th s i kc ks : Nat) (hs : s ≤ 1600000000) (hi : i + 6 ≤ Sc.1) (h : q_H) (hok : q_ok (mG Γ o ml th s) h) (Q : q_O → q_H → Nat → Prop) (hnext : ∀ (th' s' : Nat) (h : q_H), s' ≤ s + 8000 → q_ok (mG Γ o ml th' s') h → q_A Sc mL_law 944 [.float 1, .ref g, .ref o, .ref (o + 17), .int (nI i), .retAddr 0, .retAddr 0] [] h n kc ks Q) : q_A Sc mL_law 933 [.float 1, .ref g, .ref o, .ref (o + 17), .int (nI i), .retAddr 0, .retAddr 0] [] h n (kc + 4) (ks + 24) Q := by
  have hG : kGF (mG Γ o ml th s) g ml := hG0 _ (fun j hj => if_neg (by omega))
  have hw2 : mG Γ o ml th s (o + 17) = (5, 1, []) := (if_neg (by omega)).trans hw
  have hml := hm4
  refine q_aload_n dL_law_933 rfl ?_
  obtain ⟨pu1942, qu1942, ru1942, gu1942, au1942, bu1942, cu1942, du1942⟩ := id hG
  refine t_callV (M' := mX4_clear) [] [] kX4 dL_law_934 wPL_132v wIX4_clear wSX4_clear iX4_clear oX4_clear rfl hok gu1942 (sX4_clear Sc (mG Γ o ml (th) (s)) n hG hm1 hm4) (by omega) (by omega) (Nat.le_of_ble_eq_true rfl) (Nat.le_of_ble_eq_true rfl) (Nat.le_of_ble_eq_true rfl) rfl (fun v1943 h qv1943 hok => ?_) (fun e1944 h qe1944 hok => absurd qe1944 (by intro q; cases q))
  obtain rfl := Sum.inl.inj qv1943
  refine q_aload_n dL_law_937 rfl ?_
  refine t_callM (M' := mX5_clear) [] [] dL_law_938 wPL_135v wIX5_clear wSX5_clear iX5_clear oX5_clear rfl hok (sX5_clear Sc Γ n o ml (th) (s) hB hml ) (Nat.le_of_ble_eq_true rfl) (Nat.le_of_ble_eq_true rfl) (Nat.le_of_ble_eq_true rfl) rfl (fun _ _ _ q => by obtain ⟨q, _⟩ := q; cases q) (fun v1946 h thv1946 sv1946 qv1946 hok => ?_)
  obtain ⟨qv1946, hsv1946⟩ := qv1946
  obtain rfl := Sum.inl.inj qv1946
  refine q_goto (tgt := 944) dL_law_941 (by decide) ?_
  refine q_weak [.float 1, .ref g, .ref o, .ref (o + 17), .int (nI i), .retAddr 0, .retAddr 0] ⟨Or.inl rfl, Or.inl rfl, Or.inl rfl, Or.inl rfl, Or.inl rfl, Or.inr ⟨0, rfl⟩, Or.inr ⟨0, rfl⟩, trivial⟩ ?_
  exact q_less (by omega) (by omega) (hnext _ _ h (by omega) hok)
set_option maxRecDepth 20000 in
set_option maxHeartbeats 4000000 in
theorem arm0 (Sc : q_S) (hS : Sc.1 ≤ 3073) (Γ : Nat → q_K) (g o ml : Nat) (hG0 : ∀ Γ'' : Nat → q_K, (∀ j, j < o → Γ'' j = Γ j) → kGF Γ'' g ml) (hm1 : 1 ≤ ml) (hm4 : ml ≤ 4) (hB : mB Γ o) (hw : Γ (o + 17) = (5, 1, [])) (n : Nat) (th s i kc ks : Nat) (hs : s ≤ 1600000000) (hi : i + 6 ≤ Sc.1) (h : q_H) (hok : q_ok (mG Γ o ml th s) h) (Q : q_O → q_H → Nat → Prop) (hnext : ∀ (th' s' : Nat) (h : q_H), s' ≤ s + 8000 → q_ok (mG Γ o ml th' s') h → q_A Sc mL_law 944 [.float 1, .ref g, .ref o, .ref (o + 17), .int (nI i), .retAddr 0, .retAddr 0] [] h n kc ks Q) : q_A Sc mL_law 128 [.float 1, .ref g, .ref o, .ref (o + 17), .int (nI i), .retAddr 0, .retAddr 0] [] h n (kc + 4) (ks + 24) Q := by
  have hG : kGF (mG Γ o ml th s) g ml := hG0 _ (fun j hj => if_neg (by omega))
  have hw2 : mG Γ o ml th s (o + 17) = (5, 1, []) := (if_neg (by omega)).trans hw
  refine q_aload_n dL_law_128 rfl ?_
  refine q_aload_n_x dL_law_129 rfl ?_
  refine q_iload dL_law_130 rfl ?_
  refine q_iconst (v := nI 1) dL_law_132 rfl ?_
  refine t_iadd_n dL_law_133 ?_
  refine q_sld dL_law_134 (by exact vp_in_nI (by omega) (by omega)) ?_
  refine q_aload_n_x dL_law_135 rfl ?_
  refine q_iload dL_law_136 rfl ?_
  refine q_iconst (v := nI 2) dL_law_138 rfl ?_
  refine t_iadd_n dL_law_139 ?_
  refine q_sld dL_law_140 (by exact vp_in_nI (by omega) (by omega)) ?_
  refine q_aload_n_x dL_law_141 rfl ?_
  refine q_iload dL_law_142 rfl ?_
  refine q_iconst (v := nI 3) dL_law_144 rfl ?_
  refine t_iadd_n dL_law_145 ?_
  refine q_sld dL_law_146 (by exact vp_in_nI (by omega) (by omega)) ?_
  refine q_aload_n_x dL_law_147 rfl ?_
  refine q_iload dL_law_148 rfl ?_
  refine q_iconst (v := nI 4) dL_law_150 rfl ?_
  refine t_iadd_n dL_law_151 ?_
  refine q_sld dL_law_152 (by exact vp_in_nI (by omega) (by omega)) ?_
  refine q_aload_n dL_law_153 rfl ?_
  refine q_callS (M' := mL_settings) [.ref g, .int (Sc.2 (nI (i + 1)).toNatClampNeg), .int (Sc.2 (nI (i + 2)).toNatClampNeg), .int (Sc.2 (nI (i + 3)).toNatClampNeg), .int (Sc.2 (nI (i + 4)).toNatClampNeg), .ref (o + 17)] [] dL_law_154 wPL_75v wTL_settings wNL iL_settings oL_settings rfl (eL_settings Sc (mG Γ o ml th s) n hG hm1 hm4 (Sc.2 (nI (i + 1)).toNatClampNeg) (Sc.2 (nI (i + 2)).toNatClampNeg) (Sc.2 (nI (i + 3)).toNatClampNeg) (Sc.2 (nI (i + 4)).toNatClampNeg) hw2 h hok) (by omega) (by omega) (Nat.le_of_ble_eq_true rfl) (Nat.le_of_ble_eq_true rfl) (Nat.le_of_ble_eq_true rfl) rfl (fun v h n' hP => ?_) (fun x h n' hP => by obtain ⟨_, _, _, _, e, _⟩ := hP; cases e)
  obtain ⟨k, v2, K, hk, e, hok, hK, hK0, rfl⟩ := hP
  obtain rfl := Sum.inl.inj e
  have hok := mG_gs (by omega) hok
  have hB2 : mB (gset Γ (o + 17) K) o := mB_gs (by omega) hB
  refine t_istore [.float 1, .ref g, .ref o, .ref (o + 17), .int (nI i), .int (nI k), .retAddr 0] (Or.inr ⟨rfl, dL_law_157⟩) (by decide) rfl ?_
  refine q_aload_n dL_law_159 rfl ?_
  refine q_aload_n_x dL_law_160 rfl ?_
  refine q_iload dL_law_161 rfl ?_
  refine q_iconst (v := nI 1) dL_law_163 rfl ?_
  refine t_iadd_n dL_law_164 ?_
  refine q_sld dL_law_165 (by exact vp_in_nI (by omega) (by omega)) ?_
  refine q_aload_n_x dL_law_166 rfl ?_
  refine q_iload dL_law_167 rfl ?_
  refine q_iconst (v := nI 2) dL_law_169 rfl ?_
  refine t_iadd_n dL_law_170 ?_
  refine q_sld dL_law_171 (by exact vp_in_nI (by omega) (by omega)) ?_
  refine q_aload_n_x dL_law_172 rfl ?_
  refine q_iload dL_law_173 rfl ?_
  refine q_iconst (v := nI 3) dL_law_175 rfl ?_
  refine t_iadd_n dL_law_176 ?_
  refine q_sld dL_law_177 (by exact vp_in_nI (by omega) (by omega)) ?_
  refine q_aload_n_x dL_law_178 rfl ?_
  refine q_iload dL_law_179 rfl ?_
  refine q_iconst (v := nI 4) dL_law_181 rfl ?_
  refine t_iadd_n dL_law_182 ?_
  refine q_sld dL_law_183 (by exact vp_in_nI (by omega) (by omega)) ?_
  refine t_callM (M' := mX5_settings) [.int (Sc.2 (nI (i + 1)).toNatClampNeg), .int (Sc.2 (nI (i + 2)).toNatClampNeg), .int (Sc.2 (nI (i + 3)).toNatClampNeg), .int (Sc.2 (nI (i + 4)).toNatClampNeg)] [] dL_law_184 wPL_78v wIX5_settings wSX5_settings iX5_settings oX5_settings rfl hok (eX5_settings Sc (gset Γ (o + 17) K) _ o ml th s hB2 hm4 (Sc.2 (nI (i + 1)).toNatClampNeg) (Sc.2 (nI (i + 2)).toNatClampNeg) (Sc.2 (nI (i + 3)).toNatClampNeg) (Sc.2 (nI (i + 4)).toNatClampNeg)) (Nat.le_of_ble_eq_true rfl) (Nat.le_of_ble_eq_true rfl) (Nat.le_of_ble_eq_true rfl) rfl (fun _ _ _ q => by obtain ⟨_, _, _, q, _⟩ := q; cases q) (fun v h th' s' qv hok => ?_)
  obtain ⟨v3, x, hk2, e, hx, rfl⟩ := qv
  obtain rfl := Sum.inl.inj e
  obtain ⟨hkk, hvv⟩ := hk.un hk2
  subst hkk
  refine t_istore [.float 1, .ref g, .ref o, .ref (o + 17), .int (nI i), .int (nI k), .int x] (Or.inr ⟨rfl, dL_law_187⟩) (by decide) rfl ?_
  refine q_aload_n dL_law_189 rfl ?_
  refine t_callM (M' := mX5_thrown) [] [] dL_law_190 wPL_79v wIX5_thrown wSX5_thrown iX5_thrown oX5_thrown rfl hok (eX5_thrown Sc _ _ o ml k _) (Nat.le_of_ble_eq_true rfl) (Nat.le_of_ble_eq_true rfl) (Nat.le_of_ble_eq_true rfl) rfl (fun _ _ _ q => by cases q.1) (fun v h th2 s2 qv hok => ?_)
  obtain ⟨e, et, es⟩ := qv
  rw [et, es] at hok
  obtain rfl := Sum.inl.inj e
  refine q_iload dL_law_193 rfl ?_
  refine q_icmp_eq (tgt := 200) dL_law_195 (by decide) (fun c => ?_) (fun c => absurd rfl c)
  have hfin : q_A Sc mL_law 217 [.float 1, .ref g, .ref o, .ref (o + 17), .int (nI i), .int (nI k), .int x] [] h n' (kc + 4 - 4) (ks + 24 - 24) Q := by
    refine q_goto (tgt := 944) dL_law_217 (by decide) ?_
    refine q_weak [.float 1, .ref g, .ref o, .ref (o + 17), .int (nI i), .retAddr 0, .retAddr 0] ⟨Or.inl rfl, Or.inl rfl, Or.inl rfl, Or.inl rfl, Or.inl rfl, Or.inr ⟨0, rfl⟩, Or.inr ⟨0, rfl⟩, trivial⟩ ?_
    exact q_less (by omega) (by omega) (hnext _ _ h (by omega) (mG_back hw hK (by omega) hok))
  refine q_iload dL_law_200 rfl ?_
  refine q_if_ne (tgt := 217) dL_law_202 (by decide) (fun c => hfin) (fun c => ?_)
  have hk0 : k = 0 := by
    rcases hk with ⟨e, -⟩ | ⟨e, -⟩ | ⟨e, -⟩
    · subst e; exact absurd c (by decide)
    · subst e; exact absurd c (by decide)
    · exact e
  have h7 : h (o + 17) = .inr (.inr (.inr (5, [(nI v2).toInt64]))) := by
    have h8 := hok (o + 17)
    rw [show mG (gset Γ (o + 17) K) o ml k _ (o + 17) = gset Γ (o + 17) K (o + 17) from if_neg (by omega), gs_at, hK0 hk0] at h8
    exact h8
  refine q_aload_n dL_law_205 rfl ?_
  refine q_iconst (v := nI 0) dL_law_206 rfl ?_
  refine q_lald dL_law_207 h7 rfl (show vp_in (nI 0) 1 from vp_in_nI (by decide) (by decide)) ?_
  rw [show [(nI v2).toInt64].getD (nI 0).toNatClampNeg 0 = (nI v2).toInt64 from by rw [nI_clamp (by decide)]; rfl]
  refine q_iload dL_law_208 rfl ?_
  refine q_i2l dL_law_210 ?_
  rw [hx hk0, ← hvv hk0]
  refine q_lcmp dL_law_211 ?_
  rw [lg_self]
  refine q_if_eq (tgt := 217) dL_law_212 (by decide) (fun c => ?_) (fun c => absurd rfl c)
  rw [hx hk0, ← hvv hk0] at hfin
  exact hfin

