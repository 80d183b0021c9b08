def Inv (Γ : Nat → q_K) (o g ml : Nat) (f e : Nat → Int32) : Prop := (∀ Γ'' : Nat → q_K, (∀ j, j < o → Γ'' j = Γ j) → kGF Γ'' g ml ∧ kGm Γ'' g ml f e) ∧ mB Γ o ∧ mE Γ o f e ∧ Γ (o + 17) = (5, 1, [])
theorem mG_back {Γ : Nat → q_K} {o ml th s w : Nat} {K k5 : q_K} {h : q_H} (hw : Γ w = k5) (hK : ∀ c, q_okc K c → q_okc k5 c) (hne : w ≠ o) (hok : q_ok (mG (gset Γ w K) o ml th s) h) : q_ok (mG Γ o ml th s) h := fun j => by
  have h1 := hok j
  by_cases hj : j = w
  · subst hj
    rw [show mG (gset Γ j K) o ml th s j = gset Γ j K j from if_neg hne, gs_at] at h1
    rw [show mG Γ o ml th s j = Γ j from if_neg hne, hw]
    exact hK _ h1
  · by_cases ho : j = o
    · subst ho
      rw [mG_o] at h1 ⊢
      exact h1
    · rw [show mG (gset Γ w K) o ml th s j = gset Γ w K j from if_neg ho, gs_ne hj] at h1
      rw [show mG Γ o ml th s j = Γ j from if_neg ho]
      exact h1
theorem lg_self (a : Int64) : lg_cmp a a = 0 := by simp [lg_cmp]
theorem mG_self {Γ : Nat → q_K} {o ml th s : Nat} (h : Γ o = (4, 5, mP o ml th s)) : mG Γ o ml th s = Γ := by
  funext j
  by_cases hj : j = o
  · subst hj
    rw [mG_o, h]
  · exact if_neg hj
theorem mB_ag {Γ Γ' : Nat → q_K} {o : Nat} (h : ∀ j, o < j → Γ' j = Γ j) (hB : mB Γ o) : mB Γ' o := ⟨(h _ (by omega)).trans hB.1, (h _ (by omega)).trans hB.2.1, (h _ (by omega)).trans hB.2.2.1, (h _ (by omega)).trans hB.2.2.2.1, (h _ (by omega)).trans hB.2.2.2.2.1, (h _ (by omega)).trans hB.2.2.2.2.2.1, (h _ (by omega)).trans hB.2.2.2.2.2.2.1, (h _ (by omega)).trans hB.2.2.2.2.2.2.2.1, (h _ (by omega)).trans hB.2.2.2.2.2.2.2.2.1, (h _ (by omega)).trans hB.2.2.2.2.2.2.2.2.2.1, trivial, trivial, (h _ (by omega)).trans hB.2.2.2.2.2.2.2.2.2.2.2.2.1, (h _ (by omega)).trans hB.2.2.2.2.2.2.2.2.2.2.2.2.2.1, (h _ (by omega)).trans hB.2.2.2.2.2.2.2.2.2.2.2.2.2.2.1, (h _ (by omega)).trans hB.2.2.2.2.2.2.2.2.2.2.2.2.2.2.2⟩
theorem Inv.cls {Γ Γ1 Γ2 : Nat → q_K} {o g ml : Nat} {f e f' e' : Nat → Int32} (hI : Inv Γ o g ml f e) (h1 : ∀ j, j < o → Γ1 j = Γ j) (hfr : fr89 Γ1 Γ2) (hgo : g + 7 + 37 * ml ≤ o) (hM : kGm Γ2 g ml f' e') : ∀ Γ'' : Nat → q_K, (∀ j, j < o → Γ'' j = Γ2 j) → kGF Γ'' g ml ∧ kGm Γ'' g ml f' e' := fun Γ'' hag => by
  refine ⟨?_, hM.of (fun j ha hb => hag j (by omega)) (fun _ _ => ⟨rfl, rfl⟩)⟩
  have hk := (hI.1 (fun j => if j < o then Γ1 j else Γ'' j) (fun j hj => (if_pos hj).trans (h1 j hj))).1
  refine hk.fr (fun j h8 h9 => ?_)
  by_cases hj : j < o
  · rw [if_pos hj] at h8 h9 ⊢
    rw [hag j hj]
    exact hfr j h8 h9
  · rw [if_neg hj]

theorem sX5_settings (Sc : q_S) (Γ : Nat → q_K) (n o ml th s : Nat) (hB : mB Γ o) (hml : ml ≤ 4) (l r q d : Int32) : q_mod Sc Γ o ml mX5_settings [.ref o, .int l, .int r, .int q, .int d] n th s (fun O th' s' => q_RI O ∧ s' ≤ s + 0) := fun h hok =>
  q_mono (fun O h' n' hq => by
    obtain ⟨th', s', ⟨v, x, -, h1, -, h2⟩, h3, h4⟩ := hq
    exact ⟨th', s', ⟨⟨x, h1⟩, by omega⟩, h3, h4⟩) (eX5_settings Sc Γ n o ml th s hB hml l r q d h hok)

set_option maxRecDepth 20000 in
set_option maxHeartbeats 4000000 in
theorem arm0 (Sc : q_S) (hS : Sc.1 ≤ 3073) (g o ml : Nat) (hgo : g + 7 + 37 * ml ≤ o) (hm1 : 1 ≤ ml) (hm4 : ml ≤ 4) (n : Nat) (Γ : Nat → q_K) (f e : Nat → Int32) (hI : Inv Γ o g ml f e) (th s i kc ks : Nat) (hs : s ≤ 1600000000) (hi : i + 6 ≤ Sc.1) (h : q_H) (hok : q_ok (mG Γ o ml th s) h) (Q : q_O → q_H → Nat → Prop) (hnext : ∀ (Γ' : Nat → q_K) (f' e' : Nat → Int32) (th' s' : Nat) (h : q_H), Inv Γ' o g ml f' e' → s' ≤ s + 8000 → q_ok (mG Γ' o ml th' s') h → q_A Sc mL_law 944 [.float 1, .ref g, .ref o, .ref (o + 17), .int (nI i), .retAddr 0, .retAddr 0] [] h n kc ks Q) : q_A Sc mL_law 128 [.float 1, .ref g, .ref o, .ref (o + 17), .int (nI i), .retAddr 0, .retAddr 0] [] h n (kc + 4) (ks + 24) Q := by
  obtain ⟨hG0, hB, hE, hw⟩ := id hI
  have hG := (hG0 (mG Γ o ml th s) (fun j hj => if_neg (by omega))).1
  have hM := (hG0 (mG Γ o ml th s) (fun j hj => if_neg (by omega))).2
  have hw2 : mG Γ o ml th s (o + 17) = (5, 1, []) := (if_neg (by omega)).trans hw
  have hml := hm4
  refine q_aload_n dL_law_128 rfl ?_
  refine q_aload_n_x dL_law_129 rfl ?_
  refine q_iload dL_law_130 rfl ?_
  refine q_iconst (v := nI 1) dL_law_132 rfl ?_
  refine t_iadd_n dL_law_133 ?_
  refine q_sld dL_law_134 (by exact vp_in_nI (by omega) (by omega)) ?_
  refine q_aload_n_x dL_law_135 rfl ?_
  refine q_iload dL_law_136 rfl ?_
  refine q_iconst (v := nI 2) dL_law_138 rfl ?_
  refine t_iadd_n dL_law_139 ?_
  refine q_sld dL_law_140 (by exact vp_in_nI (by omega) (by omega)) ?_
  refine q_aload_n_x dL_law_141 rfl ?_
  refine q_iload dL_law_142 rfl ?_
  refine q_iconst (v := nI 3) dL_law_144 rfl ?_
  refine t_iadd_n dL_law_145 ?_
  refine q_sld dL_law_146 (by exact vp_in_nI (by omega) (by omega)) ?_
  refine q_aload_n_x dL_law_147 rfl ?_
  refine q_iload dL_law_148 rfl ?_
  refine q_iconst (v := nI 4) dL_law_150 rfl ?_
  refine t_iadd_n dL_law_151 ?_
  refine q_sld dL_law_152 (by exact vp_in_nI (by omega) (by omega)) ?_
  refine q_aload_n dL_law_153 rfl ?_
  refine t_callS (M' := mL_settings) [.ref g, .int (Sc.2 (nI (i + 1)).toNatClampNeg), .int (Sc.2 (nI (i + 2)).toNatClampNeg), .int (Sc.2 (nI (i + 3)).toNatClampNeg), .int (Sc.2 (nI (i + 4)).toNatClampNeg), .ref ((o + 17))] [] dL_law_154 wPL_75 wTL_settings wNL iL_settings oL_settings rfl hok (sL_settings Sc (mG Γ o ml (th) (s)) n hG hm1 hm4 (Sc.2 (nI (i + 1)).toNatClampNeg) (Sc.2 (nI (i + 2)).toNatClampNeg) (Sc.2 (nI (i + 3)).toNatClampNeg) (Sc.2 (nI (i + 4)).toNatClampNeg) hw2) (by omega) (by omega) (Nat.le_of_ble_eq_true rfl) (Nat.le_of_ble_eq_true rfl) (Nat.le_of_ble_eq_true rfl) rfl (fun v1567 h qv1567 hok => ?_) (fun e1568 h qe1568 hok => absurd qe1568 (by intro q; obtain ⟨_, q⟩ := q; cases q))
  obtain ⟨x1569, qx1569⟩ := qv1567
  obtain rfl := Sum.inl.inj qx1569
  refine t_istore [.float 1, .ref g, .ref o, .ref ((o + 17)), .int (nI i), .int (x1569), .retAddr 0] (Or.inr ⟨rfl, dL_law_157⟩) (by decide) rfl ?_
  refine q_aload_n dL_law_159 rfl ?_
  refine q_aload_n_x dL_law_160 rfl ?_
  refine q_iload dL_law_161 rfl ?_
  refine q_iconst (v := nI 1) dL_law_163 rfl ?_
  refine t_iadd_n dL_law_164 ?_
  refine q_sld dL_law_165 (by exact vp_in_nI (by omega) (by omega)) ?_
  refine q_aload_n_x dL_law_166 rfl ?_
  refine q_iload dL_law_167 rfl ?_
  refine q_iconst (v := nI 2) dL_law_169 rfl ?_
  refine t_iadd_n dL_law_170 ?_
  refine q_sld dL_law_171 (by exact vp_in_nI (by omega) (by omega)) ?_
  refine q_aload_n_x dL_law_172 rfl ?_
  refine q_iload dL_law_173 rfl ?_
  refine q_iconst (v := nI 3) dL_law_175 rfl ?_
  refine t_iadd_n dL_law_176 ?_
  refine q_sld dL_law_177 (by exact vp_in_nI (by omega) (by omega)) ?_
  refine q_aload_n_x dL_law_178 rfl ?_
  refine q_iload dL_law_179 rfl ?_
  refine q_iconst (v := nI 4) dL_law_181 rfl ?_
  refine t_iadd_n dL_law_182 ?_
  refine q_sld dL_law_183 (by exact vp_in_nI (by omega) (by omega)) ?_
  refine t_callM (M' := mX5_settings) [.int (Sc.2 (nI (i + 1)).toNatClampNeg), .int (Sc.2 (nI (i + 2)).toNatClampNeg), .int (Sc.2 (nI (i + 3)).toNatClampNeg), .int (Sc.2 (nI (i + 4)).toNatClampNeg)] [] dL_law_184 wPL_78v wIX5_settings wSX5_settings iX5_settings oX5_settings rfl hok (sX5_settings Sc Γ n o ml (th) (s) hB hml (Sc.2 (nI (i + 1)).toNatClampNeg) (Sc.2 (nI (i + 2)).toNatClampNeg) (Sc.2 (nI (i + 3)).toNatClampNeg) (Sc.2 (nI (i + 4)).toNatClampNeg)) (Nat.le_of_ble_eq_true rfl) (Nat.le_of_ble_eq_true rfl) (Nat.le_of_ble_eq_true rfl) rfl (fun _ _ _ q => by obtain ⟨⟨_, q⟩, _⟩ := q; cases q) (fun v1571 h thv1571 sv1571 qv1571 hok => ?_)
  obtain ⟨qv1571, hsv1571⟩ := qv1571
  obtain ⟨x1572, qx1572⟩ := qv1571
  obtain rfl := Sum.inl.inj qx1572
  refine t_istore [.float 1, .ref g, .ref o, .ref ((o + 17)), .int (nI i), .int (x1569), .int (x1572)] (Or.inr ⟨rfl, dL_law_187⟩) (by decide) rfl ?_
  refine q_goto (tgt := 944) dL_law_189 (by decide) ?_
  refine q_weak [.float 1, .ref g, .ref o, .ref (o + 17), .int (nI i), .retAddr 0, .retAddr 0] ⟨Or.inl rfl, Or.inl rfl, Or.inl rfl, Or.inl rfl, Or.inl rfl, Or.inr ⟨0, rfl⟩, Or.inr ⟨0, rfl⟩, trivial⟩ ?_
  exact q_less (by omega) (by omega) (hnext Γ f e _ _ h hI (by omega) hok)
set_option maxRecDepth 20000 in
set_option maxHeartbeats 4000000 in
theorem arm1 (Sc : q_S) (hS : Sc.1 ≤ 3073) (g o ml : Nat) (hgo : g + 7 + 37 * ml ≤ o) (hm1 : 1 ≤ ml) (hm4 : ml ≤ 4) (n : Nat) (Γ : Nat → q_K) (f e : Nat → Int32) (hI : Inv Γ o g ml f e) (th s i kc ks : Nat) (hs : s ≤ 1600000000) (hi : i + 6 ≤ Sc.1) (h : q_H) (hok : q_ok (mG Γ o ml th s) h) (Q : q_O → q_H → Nat → Prop) (hnext : ∀ (Γ' : Nat → q_K) (f' e' : Nat → Int32) (th' s' : Nat) (h : q_H), Inv Γ' o g ml f' e' → s' ≤ s + 8000 → q_ok (mG Γ' o ml th' s') h → q_A Sc mL_law 944 [.float 1, .ref g, .ref o, .ref (o + 17), .int (nI i), .retAddr 0, .retAddr 0] [] h n kc ks Q) : q_A Sc mL_law 192 [.float 1, .ref g, .ref o, .ref (o + 17), .int (nI i), .retAddr 0, .retAddr 0] [] h n (kc + 4) (ks + 24) Q := by
  obtain ⟨hG0, hB, hE, hw⟩ := id hI
  have hG := (hG0 (mG Γ o ml th s) (fun j hj => if_neg (by omega))).1
  have hM := (hG0 (mG Γ o ml th s) (fun j hj => if_neg (by omega))).2
  have hw2 : mG Γ o ml th s (o + 17) = (5, 1, []) := (if_neg (by omega)).trans hw
  have hml := hm4
  refine q_aload_n dL_law_192 rfl ?_
  refine q_aload_n_x dL_law_193 rfl ?_
  refine q_iload dL_law_194 rfl ?_
  refine q_iconst (v := nI 1) dL_law_196 rfl ?_
  refine t_iadd_n dL_law_197 ?_
  refine q_sld dL_law_198 (by exact vp_in_nI (by omega) (by omega)) ?_
  refine q_aload_n_x dL_law_199 rfl ?_
  refine q_iload dL_law_200 rfl ?_
  refine q_iconst (v := nI 2) dL_law_202 rfl ?_
  refine t_iadd_n dL_law_203 ?_
  refine q_sld dL_law_204 (by exact vp_in_nI (by omega) (by omega)) ?_
  refine q_aload_n_x dL_law_205 rfl ?_
  refine q_iload dL_law_206 rfl ?_
  refine q_iconst (v := nI 3) dL_law_208 rfl ?_
  refine t_iadd_n dL_law_209 ?_
  refine q_sld dL_law_210 (by exact vp_in_nI (by omega) (by omega)) ?_
  refine q_aload_n_x dL_law_211 rfl ?_
  refine q_iload dL_law_212 rfl ?_
  refine q_iconst (v := nI 4) dL_law_214 rfl ?_
  refine t_iadd_n dL_law_215 ?_
  refine q_sld dL_law_216 (by exact vp_in_nI (by omega) (by omega)) ?_
  refine q_aload_n dL_law_217 rfl ?_
  refine t_callS (M' := mL_report) [.ref g, .int (Sc.2 (nI (i + 1)).toNatClampNeg), .int (Sc.2 (nI (i + 2)).toNatClampNeg), .int (Sc.2 (nI (i + 3)).toNatClampNeg), .int (Sc.2 (nI (i + 4)).toNatClampNeg), .ref ((o + 17))] [] dL_law_218 wPL_79 wTL_report wNL iL_report oL_report rfl hok (sL_report Sc (mG Γ o ml (th) (s)) n hG hm1 hm4 (Sc.2 (nI (i + 1)).toNatClampNeg) (Sc.2 (nI (i + 2)).toNatClampNeg) (Sc.2 (nI (i + 3)).toNatClampNeg) (Sc.2 (nI (i + 4)).toNatClampNeg) hw2) (by omega) (by omega) (Nat.le_of_ble_eq_true rfl) (Nat.le_of_ble_eq_true rfl) (Nat.le_of_ble_eq_true rfl) rfl (fun v1573 h qv1573 hok => ?_) (fun e1574 h qe1574 hok => absurd qe1574 (by intro q; obtain ⟨_, q⟩ := q; cases q))
  obtain ⟨x1575, qx1575⟩ := qv1573
  obtain rfl := Sum.inl.inj qx1575
  refine t_istore [.float 1, .ref g, .ref o, .ref ((o + 17)), .int (nI i), .int (x1575), .retAddr 0] (Or.inr ⟨rfl, dL_law_221⟩) (by decide) rfl ?_
  refine q_aload_n dL_law_223 rfl ?_
  refine q_aload_n_x dL_law_224 rfl ?_
  refine q_iload dL_law_225 rfl ?_
  refine q_iconst (v := nI 1) dL_law_227 rfl ?_
  refine t_iadd_n dL_law_228 ?_
  refine q_sld dL_law_229 (by exact vp_in_nI (by omega) (by omega)) ?_
  refine q_aload_n_x dL_law_230 rfl ?_
  refine q_iload dL_law_231 rfl ?_
  refine q_iconst (v := nI 2) dL_law_233 rfl ?_
  refine t_iadd_n dL_law_234 ?_
  refine q_sld dL_law_235 (by exact vp_in_nI (by omega) (by omega)) ?_
  refine q_aload_n_x dL_law_236 rfl ?_
  refine q_iload dL_law_237 rfl ?_
  refine q_iconst (v := nI 3) dL_law_239 rfl ?_
  refine t_iadd_n dL_law_240 ?_
  refine q_sld dL_law_241 (by exact vp_in_nI (by omega) (by omega)) ?_
  refine q_aload_n_x dL_law_242 rfl ?_
  refine q_iload dL_law_243 rfl ?_
  refine q_iconst (v := nI 4) dL_law_245 rfl ?_
  refine t_iadd_n dL_law_246 ?_
  refine q_sld dL_law_247 (by exact vp_in_nI (by omega) (by omega)) ?_
  refine t_callM (M' := mX5_report) [.int (Sc.2 (nI (i + 1)).toNatClampNeg), .int (Sc.2 (nI (i + 2)).toNatClampNeg), .int (Sc.2 (nI (i + 3)).toNatClampNeg), .int (Sc.2 (nI (i + 4)).toNatClampNeg)] [] dL_law_248 wPL_81v wIX5_report wSX5_report iX5_report oX5_report rfl hok (sX5_report Sc Γ n o ml (th) (s) hB hml (by omega) (Sc.2 (nI (i + 1)).toNatClampNeg) (Sc.2 (nI (i + 2)).toNatClampNeg) (Sc.2 (nI (i + 3)).toNatClampNeg) (Sc.2 (nI (i + 4)).toNatClampNeg)) (Nat.le_of_ble_eq_true rfl) (Nat.le_of_ble_eq_true rfl) (Nat.le_of_ble_eq_true rfl) rfl (fun _ _ _ q => by obtain ⟨q, _⟩ := q; obtain ⟨_, q⟩ := q; cases q) (fun v1577 h thv1577 sv1577 qv1577 hok => ?_)
  obtain ⟨qv1577, hsv1577⟩ := qv1577
  obtain ⟨x1578, qx1578⟩ := qv1577
  obtain rfl := Sum.inl.inj qx1578
  refine t_istore [.float 1, .ref g, .ref o, .ref ((o + 17)), .int (nI i), .int (x1575), .int (x1578)] (Or.inr ⟨rfl, dL_law_251⟩) (by decide) rfl ?_
  refine q_goto (tgt := 944) dL_law_253 (by decide) ?_
  refine q_weak [.float 1, .ref g, .ref o, .ref (o + 17), .int (nI i), .retAddr 0, .retAddr 0] ⟨Or.inl rfl, Or.inl rfl, Or.inl rfl, Or.inl rfl, Or.inl rfl, Or.inr ⟨0, rfl⟩, Or.inr ⟨0, rfl⟩, trivial⟩ ?_
  exact q_less (by omega) (by omega) (hnext Γ f e _ _ h hI (by omega) hok)
set_option maxRecDepth 20000 in
set_option maxHeartbeats 4000000 in
theorem arm2 (Sc : q_S) (hS : Sc.1 ≤ 3073) (g o ml : Nat) (hgo : g + 7 + 37 * ml ≤ o) (hm1 : 1 ≤ ml) (hm4 : ml ≤ 4) (n : Nat) (Γ : Nat → q_K) (f e : Nat → Int32) (hI : Inv Γ o g ml f e) (th s i kc ks : Nat) (hs : s ≤ 1600000000) (hi : i + 6 ≤ Sc.1) (h : q_H) (hok : q_ok (mG Γ o ml th s) h) (Q : q_O → q_H → Nat → Prop) (hnext : ∀ (Γ' : Nat → q_K) (f' e' : Nat → Int32) (th' s' : Nat) (h : q_H), Inv Γ' o g ml f' e' → s' ≤ s + 8000 → q_ok (mG Γ' o ml th' s') h → q_A Sc mL_law 944 [.float 1, .ref g, .ref o, .ref (o + 17), .int (nI i), .retAddr 0, .retAddr 0] [] h n kc ks Q) : q_A Sc mL_law 256 [.float 1, .ref g, .ref o, .ref (o + 17), .int (nI i), .retAddr 0, .retAddr 0] [] h n (kc + 4) (ks + 24) Q := by
  obtain ⟨hG0, hB, hE, hw⟩ := id hI
  have hG := (hG0 (mG Γ o ml th s) (fun j hj => if_neg (by omega))).1
  have hM := (hG0 (mG Γ o ml th s) (fun j hj => if_neg (by omega))).2
  have hw2 : mG Γ o ml th s (o + 17) = (5, 1, []) := (if_neg (by omega)).trans hw
  have hml := hm4
  refine q_aload_n dL_law_256 rfl ?_
  refine q_aload_n_x dL_law_257 rfl ?_
  refine q_iload dL_law_258 rfl ?_
  refine q_iconst (v := nI 1) dL_law_260 rfl ?_
  refine t_iadd_n dL_law_261 ?_
  refine q_sld dL_law_262 (by exact vp_in_nI (by omega) (by omega)) ?_
  refine q_aload_n_x dL_law_263 rfl ?_
  refine q_iload dL_law_264 rfl ?_
  refine q_iconst (v := nI 2) dL_law_266 rfl ?_
  refine t_iadd_n dL_law_267 ?_
  refine q_sld dL_law_268 (by exact vp_in_nI (by omega) (by omega)) ?_
  refine q_aload_n_x dL_law_269 rfl ?_
  refine q_iload dL_law_270 rfl ?_
  refine q_iconst (v := nI 3) dL_law_272 rfl ?_
  refine t_iadd_n dL_law_273 ?_
  refine q_sld dL_law_274 (by exact vp_in_nI (by omega) (by omega)) ?_
  refine q_aload_n_x dL_law_275 rfl ?_
  refine q_iload dL_law_276 rfl ?_
  refine q_iconst (v := nI 4) dL_law_278 rfl ?_
  refine t_iadd_n dL_law_279 ?_
  refine q_sld dL_law_280 (by exact vp_in_nI (by omega) (by omega)) ?_
  refine q_aload_n_x dL_law_281 rfl ?_
  refine q_iload dL_law_282 rfl ?_
  refine q_iconst (v := nI 5) dL_law_284 rfl ?_
  refine t_iadd_n dL_law_285 ?_
  refine q_sld dL_law_286 (by exact vp_in_nI (by omega) (by omega)) ?_
  refine q_if_eq (tgt := 294) dL_law_287 (by decide) (fun c1579 => ?_) (fun c1579 => ?_)
  ·
    refine q_iconst (v := nI 0) dL_law_294 rfl ?_
    refine q_aload_n dL_law_295 rfl ?_
    refine t_callS (M' := mL_query) [.ref g, .int (Sc.2 (nI (i + 1)).toNatClampNeg), .int (Sc.2 (nI (i + 2)).toNatClampNeg), .int (Sc.2 (nI (i + 3)).toNatClampNeg), .int (Sc.2 (nI (i + 4)).toNatClampNeg), .int (nI 0), .ref ((o + 17))] [] dL_law_296 wPL_82 wTL_query wNL iL_query oL_query rfl hok (sL_query Sc (mG Γ o ml (th) (s)) n hG hm1 hm4 (Sc.2 (nI (i + 1)).toNatClampNeg) (Sc.2 (nI (i + 2)).toNatClampNeg) (Sc.2 (nI (i + 3)).toNatClampNeg) (Sc.2 (nI (i + 4)).toNatClampNeg) (nI 0) (Or.inl rfl) hw2) (by omega) (by omega) (Nat.le_of_ble_eq_true rfl) (Nat.le_of_ble_eq_true rfl) (Nat.le_of_ble_eq_true rfl) rfl (fun v1580 h qv1580 hok => ?_) (fun e1581 h qe1581 hok => absurd qe1581 (by intro q; obtain ⟨_, q⟩ := q; cases q))
    obtain ⟨x1582, qx1582⟩ := qv1580
    obtain rfl := Sum.inl.inj qx1582
    refine t_istore [.float 1, .ref g, .ref o, .ref ((o + 17)), .int (nI i), .int (x1582), .retAddr 0] (Or.inr ⟨rfl, dL_law_299⟩) (by decide) rfl ?_
    refine q_aload_n dL_law_301 rfl ?_
    refine q_aload_n_x dL_law_302 rfl ?_
    refine q_iload dL_law_303 rfl ?_
    refine q_iconst (v := nI 1) dL_law_305 rfl ?_
    refine t_iadd_n dL_law_306 ?_
    refine q_sld dL_law_307 (by exact vp_in_nI (by omega) (by omega)) ?_
    refine q_aload_n_x dL_law_308 rfl ?_
    refine q_iload dL_law_309 rfl ?_
    refine q_iconst (v := nI 2) dL_law_311 rfl ?_
    refine t_iadd_n dL_law_312 ?_
    refine q_sld dL_law_313 (by exact vp_in_nI (by omega) (by omega)) ?_
    refine q_aload_n_x dL_law_314 rfl ?_
    refine q_iload dL_law_315 rfl ?_
    refine q_iconst (v := nI 3) dL_law_317 rfl ?_
    refine t_iadd_n dL_law_318 ?_
    refine q_sld dL_law_319 (by exact vp_in_nI (by omega) (by omega)) ?_
    refine q_aload_n_x dL_law_320 rfl ?_
    refine q_iload dL_law_321 rfl ?_
    refine q_iconst (v := nI 4) dL_law_323 rfl ?_
    refine t_iadd_n dL_law_324 ?_
    refine q_sld dL_law_325 (by exact vp_in_nI (by omega) (by omega)) ?_
    refine q_aload_n_x dL_law_326 rfl ?_
    refine q_iload dL_law_327 rfl ?_
    refine q_iconst (v := nI 5) dL_law_329 rfl ?_
    refine t_iadd_n dL_law_330 ?_
    refine q_sld dL_law_331 (by exact vp_in_nI (by omega) (by omega)) ?_
    refine q_if_eq (tgt := 339) dL_law_332 (by decide) (fun c1583 => ?_) (fun c1583 => ?_)
    rotate_left
    · exact absurd c1579 c1583
    refine q_iconst (v := nI 0) dL_law_339 rfl ?_
    refine t_callM (M' := mX5_query) [.int (Sc.2 (nI (i + 1)).toNatClampNeg), .int (Sc.2 (nI (i + 2)).toNatClampNeg), .int (Sc.2 (nI (i + 3)).toNatClampNeg), .int (Sc.2 (nI (i + 4)).toNatClampNeg), .int (nI 0)] [] dL_law_340 wPL_85v wIX5_query wSX5_query iX5_query oX5_query rfl hok (sX5_query Sc Γ n o ml (th) (s) hB hml (by omega) (Sc.2 (nI (i + 1)).toNatClampNeg) (Sc.2 (nI (i + 2)).toNatClampNeg) (Sc.2 (nI (i + 3)).toNatClampNeg) (Sc.2 (nI (i + 4)).toNatClampNeg) (nI 0) (Or.inl rfl)) (Nat.le_of_ble_eq_true rfl) (Nat.le_of_ble_eq_true rfl) (Nat.le_of_ble_eq_true rfl) rfl (fun _ _ _ q => by obtain ⟨q, _⟩ := q; obtain ⟨_, q, _⟩ := q; cases q) (fun v1585 h thv1585 sv1585 qv1585 hok => ?_)
    obtain ⟨qv1585, hsv1585⟩ := qv1585
    obtain ⟨x1586, qx1586, bx1586⟩ := qv1585
    obtain rfl := Sum.inl.inj qx1586
    refine t_istore [.float 1, .ref g, .ref o, .ref ((o + 17)), .int (nI i), .int (x1582), .int (x1586)] (Or.inr ⟨rfl, dL_law_343⟩) (by decide) rfl ?_
    refine q_goto (tgt := 944) dL_law_345 (by decide) ?_
    refine q_weak [.float 1, .ref g, .ref o, .ref (o + 17), .int (nI i), .retAddr 0, .retAddr 0] ⟨Or.inl rfl, Or.inl rfl, Or.inl rfl, Or.inl rfl, Or.inl rfl, Or.inr ⟨0, rfl⟩, Or.inr ⟨0, rfl⟩, trivial⟩ ?_
    exact q_less (by omega) (by omega) (hnext Γ f e _ _ h hI (by omega) hok)
  ·
    refine q_iconst (v := nI 1) dL_law_290 rfl ?_
    refine q_goto (tgt := 295) dL_law_291 (by decide) ?_
    refine q_aload_n dL_law_295 rfl ?_
    refine t_callS (M' := mL_query) [.ref g, .int (Sc.2 (nI (i + 1)).toNatClampNeg), .int (Sc.2 (nI (i + 2)).toNatClampNeg), .int (Sc.2 (nI (i + 3)).toNatClampNeg), .int (Sc.2 (nI (i + 4)).toNatClampNeg), .int (nI 1), .ref ((o + 17))] [] dL_law_296 wPL_82 wTL_query wNL iL_query oL_query rfl hok (sL_query Sc (mG Γ o ml (th) (s)) n hG hm1 hm4 (Sc.2 (nI (i + 1)).toNatClampNeg) (Sc.2 (nI (i + 2)).toNatClampNeg) (Sc.2 (nI (i + 3)).toNatClampNeg) (Sc.2 (nI (i + 4)).toNatClampNeg) (nI 1) (Or.inr rfl) hw2) (by omega) (by omega) (Nat.le_of_ble_eq_true rfl) (Nat.le_of_ble_eq_true rfl) (Nat.le_of_ble_eq_true rfl) rfl (fun v1587 h qv1587 hok => ?_) (fun e1588 h qe1588 hok => absurd qe1588 (by intro q; obtain ⟨_, q⟩ := q; cases q))
    obtain ⟨x1589, qx1589⟩ := qv1587
    obtain rfl := Sum.inl.inj qx1589
    refine t_istore [.float 1, .ref g, .ref o, .ref ((o + 17)), .int (nI i), .int (x1589), .retAddr 0] (Or.inr ⟨rfl, dL_law_299⟩) (by decide) rfl ?_
    refine q_aload_n dL_law_301 rfl ?_
    refine q_aload_n_x dL_law_302 rfl ?_
    refine q_iload dL_law_303 rfl ?_
    refine q_iconst (v := nI 1) dL_law_305 rfl ?_
    refine t_iadd_n dL_law_306 ?_
    refine q_sld dL_law_307 (by exact vp_in_nI (by omega) (by omega)) ?_
    refine q_aload_n_x dL_law_308 rfl ?_
    refine q_iload dL_law_309 rfl ?_
    refine q_iconst (v := nI 2) dL_law_311 rfl ?_
    refine t_iadd_n dL_law_312 ?_
    refine q_sld dL_law_313 (by exact vp_in_nI (by omega) (by omega)) ?_
    refine q_aload_n_x dL_law_314 rfl ?_
    refine q_iload dL_law_315 rfl ?_
    refine q_iconst (v := nI 3) dL_law_317 rfl ?_
    refine t_iadd_n dL_law_318 ?_
    refine q_sld dL_law_319 (by exact vp_in_nI (by omega) (by omega)) ?_
    refine q_aload_n_x dL_law_320 rfl ?_
    refine q_iload dL_law_321 rfl ?_
    refine q_iconst (v := nI 4) dL_law_323 rfl ?_
    refine t_iadd_n dL_law_324 ?_
    refine q_sld dL_law_325 (by exact vp_in_nI (by omega) (by omega)) ?_
    refine q_aload_n_x dL_law_326 rfl ?_
    refine q_iload dL_law_327 rfl ?_
    refine q_iconst (v := nI 5) dL_law_329 rfl ?_
    refine t_iadd_n dL_law_330 ?_
    refine q_sld dL_law_331 (by exact vp_in_nI (by omega) (by omega)) ?_
    refine q_if_eq (tgt := 339) dL_law_332 (by decide) (fun c1590 => ?_) (fun c1590 => ?_)
    · exact absurd c1590 c1579
    refine q_iconst (v := nI 1) dL_law_335 rfl ?_
    refine q_goto (tgt := 340) dL_law_336 (by decide) ?_
    refine t_callM (M' := mX5_query) [.int (Sc.2 (nI (i + 1)).toNatClampNeg), .int (Sc.2 (nI (i + 2)).toNatClampNeg), .int (Sc.2 (nI (i + 3)).toNatClampNeg), .int (Sc.2 (nI (i + 4)).toNatClampNeg), .int (nI 1)] [] dL_law_340 wPL_85v wIX5_query wSX5_query iX5_query oX5_query rfl hok (sX5_query Sc Γ n o ml (th) (s) hB hml (by omega) (Sc.2 (nI (i + 1)).toNatClampNeg) (Sc.2 (nI (i + 2)).toNatClampNeg) (Sc.2 (nI (i + 3)).toNatClampNeg) (Sc.2 (nI (i + 4)).toNatClampNeg) (nI 1) (Or.inr rfl)) (Nat.le_of_ble_eq_true rfl) (Nat.le_of_ble_eq_true rfl) (Nat.le_of_ble_eq_true rfl) rfl (fun _ _ _ q => by obtain ⟨q, _⟩ := q; obtain ⟨_, q, _⟩ := q; cases q) (fun v1592 h thv1592 sv1592 qv1592 hok => ?_)
    obtain ⟨qv1592, hsv1592⟩ := qv1592
    obtain ⟨x1593, qx1593, bx1593⟩ := qv1592
    obtain rfl := Sum.inl.inj qx1593
    refine t_istore [.float 1, .ref g, .ref o, .ref ((o + 17)), .int (nI i), .int (x1589), .int (x1593)] (Or.inr ⟨rfl, dL_law_343⟩) (by decide) rfl ?_
    refine q_goto (tgt := 944) dL_law_345 (by decide) ?_
    refine q_weak [.float 1, .ref g, .ref o, .ref (o + 17), .int (nI i), .retAddr 0, .retAddr 0] ⟨Or.inl rfl, Or.inl rfl, Or.inl rfl, Or.inl rfl, Or.inl rfl, Or.inr ⟨0, rfl⟩, Or.inr ⟨0, rfl⟩, trivial⟩ ?_
    exact q_less (by omega) (by omega) (hnext Γ f e _ _ h hI (by omega) hok)
set_option maxRecDepth 20000 in
set_option maxHeartbeats 4000000 in
theorem arm3 (Sc : q_S) (hS : Sc.1 ≤ 3073) (g o ml : Nat) (hgo : g + 7 + 37 * ml ≤ o) (hm1 : 1 ≤ ml) (hm4 : ml ≤ 4) (n : Nat) (Γ : Nat → q_K) (f e : Nat → Int32) (hI : Inv Γ o g ml f e) (th s i kc ks : Nat) (hs : s ≤ 1600000000) (hi : i + 6 ≤ Sc.1) (h : q_H) (hok : q_ok (mG Γ o ml th s) h) (Q : q_O → q_H → Nat → Prop) (hnext : ∀ (Γ' : Nat → q_K) (f' e' : Nat → Int32) (th' s' : Nat) (h : q_H), Inv Γ' o g ml f' e' → s' ≤ s + 8000 → q_ok (mG Γ' o ml th' s') h → q_A Sc mL_law 944 [.float 1, .ref g, .ref o, .ref (o + 17), .int (nI i), .retAddr 0, .retAddr 0] [] h n kc ks Q) : q_A Sc mL_law 348 [.float 1, .ref g, .ref o, .ref (o + 17), .int (nI i), .retAddr 0, .retAddr 0] [] h n (kc + 4) (ks + 24) Q := by
  obtain ⟨hG0, hB, hE, hw⟩ := id hI
  have hG := (hG0 (mG Γ o ml th s) (fun j hj => if_neg (by omega))).1
  have hM := (hG0 (mG Γ o ml th s) (fun j hj => if_neg (by omega))).2
  have hw2 : mG Γ o ml th s (o + 17) = (5, 1, []) := (if_neg (by omega)).trans hw
  have hml := hm4
  refine q_aload_n dL_law_348 rfl ?_
  refine q_aload_n_x dL_law_349 rfl ?_
  refine q_iload dL_law_350 rfl ?_
  refine q_iconst (v := nI 1) dL_law_352 rfl ?_
  refine t_iadd_n dL_law_353 ?_
  refine q_sld dL_law_354 (by exact vp_in_nI (by omega) (by omega)) ?_
  refine q_aload_n dL_law_355 rfl ?_
  refine t_callS (M' := mL_tick) [.ref g, .int (Sc.2 (nI (i + 1)).toNatClampNeg), .ref ((o + 17))] [] dL_law_356 wPL_86 wTL_tick wNL iL_tick oL_tick rfl hok (sL_tick Sc (mG Γ o ml (th) (s)) n hG hm1 hm4 (Sc.2 (nI (i + 1)).toNatClampNeg) hw2) (by omega) (by omega) (Nat.le_of_ble_eq_true rfl) (Nat.le_of_ble_eq_true rfl) (Nat.le_of_ble_eq_true rfl) rfl (fun v1594 h qv1594 hok => ?_) (fun e1595 h qe1595 hok => absurd qe1595 (by intro q; obtain ⟨_, q⟩ := q; cases q))
  obtain ⟨x1596, qx1596⟩ := qv1594
  obtain rfl := Sum.inl.inj qx1596
  refine t_istore [.float 1, .ref g, .ref o, .ref ((o + 17)), .int (nI i), .int (x1596), .retAddr 0] (Or.inr ⟨rfl, dL_law_359⟩) (by decide) rfl ?_
  refine q_aload_n dL_law_361 rfl ?_
  refine q_aload_n_x dL_law_362 rfl ?_
  refine q_iload dL_law_363 rfl ?_
  refine q_iconst (v := nI 1) dL_law_365 rfl ?_
  refine t_iadd_n dL_law_366 ?_
  refine q_sld dL_law_367 (by exact vp_in_nI (by omega) (by omega)) ?_
  refine t_callM (M' := mX5_tick) [.int (Sc.2 (nI (i + 1)).toNatClampNeg)] [] dL_law_368 wPL_89v wIX5_tick wSX5_tick iX5_tick oX5_tick rfl hok (sX5_tick Sc Γ n o ml (th) (s) hB hml (by omega) (Sc.2 (nI (i + 1)).toNatClampNeg)) (Nat.le_of_ble_eq_true rfl) (Nat.le_of_ble_eq_true rfl) (Nat.le_of_ble_eq_true rfl) rfl (fun _ _ _ q => by obtain ⟨q, _⟩ := q; obtain ⟨_, q⟩ := q; cases q) (fun v1598 h thv1598 sv1598 qv1598 hok => ?_)
  obtain ⟨qv1598, hsv1598⟩ := qv1598
  obtain ⟨x1599, qx1599⟩ := qv1598
  obtain rfl := Sum.inl.inj qx1599
  refine t_istore [.float 1, .ref g, .ref o, .ref ((o + 17)), .int (nI i), .int (x1596), .int (x1599)] (Or.inr ⟨rfl, dL_law_371⟩) (by decide) rfl ?_
  refine q_goto (tgt := 944) dL_law_373 (by decide) ?_
  refine q_weak [.float 1, .ref g, .ref o, .ref (o + 17), .int (nI i), .retAddr 0, .retAddr 0] ⟨Or.inl rfl, Or.inl rfl, Or.inl rfl, Or.inl rfl, Or.inl rfl, Or.inr ⟨0, rfl⟩, Or.inr ⟨0, rfl⟩, trivial⟩ ?_
  exact q_less (by omega) (by omega) (hnext Γ f e _ _ h hI (by omega) hok)
set_option maxRecDepth 20000 in
set_option maxHeartbeats 4000000 in
theorem arm6 (Sc : q_S) (hS : Sc.1 ≤ 3073) (g o ml : Nat) (hgo : g + 7 + 37 * ml ≤ o) (hm1 : 1 ≤ ml) (hm4 : ml ≤ 4) (n : Nat) (Γ : Nat → q_K) (f e : Nat → Int32) (hI : Inv Γ o g ml f e) (th s i kc ks : Nat) (hs : s ≤ 1600000000) (hi : i + 6 ≤ Sc.1) (h : q_H) (hok : q_ok (mG Γ o ml th s) h) (Q : q_O → q_H → Nat → Prop) (hnext : ∀ (Γ' : Nat → q_K) (f' e' : Nat → Int32) (th' s' : Nat) (h : q_H), Inv Γ' o g ml f' e' → s' ≤ s + 8000 → q_ok (mG Γ' o ml th' s') h → q_A Sc mL_law 944 [.float 1, .ref g, .ref o, .ref (o + 17), .int (nI i), .retAddr 0, .retAddr 0] [] h n kc ks Q) : q_A Sc mL_law 536 [.float 1, .ref g, .ref o, .ref (o + 17), .int (nI i), .retAddr 0, .retAddr 0] [] h n (kc + 4) (ks + 24) Q := by
  obtain ⟨hG0, hB, hE, hw⟩ := id hI
  have hG := (hG0 (mG Γ o ml th s) (fun j hj => if_neg (by omega))).1
  have hM := (hG0 (mG Γ o ml th s) (fun j hj => if_neg (by omega))).2
  have hw2 : mG Γ o ml th s (o + 17) = (5, 1, []) := (if_neg (by omega)).trans hw
  have hml := hm4
  refine q_aload_n dL_law_536 rfl ?_
  refine q_aload_n_x dL_law_537 rfl ?_
  refine q_iload dL_law_538 rfl ?_
  refine q_iconst (v := nI 1) dL_law_540 rfl ?_
  refine t_iadd_n dL_law_541 ?_
  refine q_sld dL_law_542 (by exact vp_in_nI (by omega) (by omega)) ?_
  refine q_aload_n_x dL_law_543 rfl ?_
  refine q_iload dL_law_544 rfl ?_
  refine q_iconst (v := nI 2) dL_law_546 rfl ?_
  refine t_iadd_n dL_law_547 ?_
  refine q_sld dL_law_548 (by exact vp_in_nI (by omega) (by omega)) ?_
  refine q_aload_n_x dL_law_549 rfl ?_
  refine q_iload dL_law_550 rfl ?_
  refine q_iconst (v := nI 3) dL_law_552 rfl ?_
  refine t_iadd_n dL_law_553 ?_
  refine q_sld dL_law_554 (by exact vp_in_nI (by omega) (by omega)) ?_
  refine q_aload_n dL_law_555 rfl ?_
  refine t_callS (M' := mL_wanted) [.ref g, .int (Sc.2 (nI (i + 1)).toNatClampNeg), .int (Sc.2 (nI (i + 2)).toNatClampNeg), .int (Sc.2 (nI (i + 3)).toNatClampNeg), .ref ((o + 17))] [] dL_law_556 wPL_102 wTL_wanted wNL iL_wanted oL_wanted rfl hok (sL_wanted Sc (mG Γ o ml (th) (s)) n hG hM hm1 hm4 (Sc.2 (nI (i + 1)).toNatClampNeg) (Sc.2 (nI (i + 2)).toNatClampNeg) (Sc.2 (nI (i + 3)).toNatClampNeg) hw2) (by omega) (by omega) (Nat.le_of_ble_eq_true rfl) (Nat.le_of_ble_eq_true rfl) (Nat.le_of_ble_eq_true rfl) rfl (fun v1600 h qv1600 hok => ?_) (fun e1601 h qe1601 hok => absurd qe1601 (by intro q; obtain ⟨_, q⟩ := q; cases q))
  obtain ⟨x1602, qx1602⟩ := qv1600
  obtain rfl := Sum.inl.inj qx1602
  refine t_istore [.float 1, .ref g, .ref o, .ref ((o + 17)), .int (nI i), .int (x1602), .retAddr 0] (Or.inr ⟨rfl, dL_law_559⟩) (by decide) rfl ?_
  refine q_aload_n dL_law_561 rfl ?_
  refine q_aload_n_x dL_law_562 rfl ?_
  refine q_iload dL_law_563 rfl ?_
  refine q_iconst (v := nI 1) dL_law_565 rfl ?_
  refine t_iadd_n dL_law_566 ?_
  refine q_sld dL_law_567 (by exact vp_in_nI (by omega) (by omega)) ?_
  refine q_aload_n_x dL_law_568 rfl ?_
  refine q_iload dL_law_569 rfl ?_
  refine q_iconst (v := nI 2) dL_law_571 rfl ?_
  refine t_iadd_n dL_law_572 ?_
  refine q_sld dL_law_573 (by exact vp_in_nI (by omega) (by omega)) ?_
  refine q_aload_n_x dL_law_574 rfl ?_
  refine q_iload dL_law_575 rfl ?_
  refine q_iconst (v := nI 3) dL_law_577 rfl ?_
  refine t_iadd_n dL_law_578 ?_
  refine q_sld dL_law_579 (by exact vp_in_nI (by omega) (by omega)) ?_
  refine t_callM (M' := mX5_wanted) [.int (Sc.2 (nI (i + 1)).toNatClampNeg), .int (Sc.2 (nI (i + 2)).toNatClampNeg), .int (Sc.2 (nI (i + 3)).toNatClampNeg)] [] dL_law_580 wPL_105v wIX5_wanted wSX5_wanted iX5_wanted oX5_wanted rfl hok (sX5_wanted Sc Γ n o ml (th) (s) f e hE hml (Sc.2 (nI (i + 1)).toNatClampNeg) (Sc.2 (nI (i + 2)).toNatClampNeg) (Sc.2 (nI (i + 3)).toNatClampNeg)) (Nat.le_of_ble_eq_true rfl) (Nat.le_of_ble_eq_true rfl) (Nat.le_of_ble_eq_true rfl) rfl (fun _ _ _ q => by obtain ⟨⟨_, q⟩, _⟩ := q; cases q) (fun v1604 h thv1604 sv1604 qv1604 hok => ?_)
  obtain ⟨qv1604, hsv1604⟩ := qv1604
  obtain ⟨x1605, qx1605⟩ := qv1604
  obtain rfl := Sum.inl.inj qx1605
  refine t_istore [.float 1, .ref g, .ref o, .ref ((o + 17)), .int (nI i), .int (x1602), .int (x1605)] (Or.inr ⟨rfl, dL_law_583⟩) (by decide) rfl ?_
  refine q_goto (tgt := 944) dL_law_585 (by decide) ?_
  refine q_weak [.float 1, .ref g, .ref o, .ref (o + 17), .int (nI i), .retAddr 0, .retAddr 0] ⟨Or.inl rfl, Or.inl rfl, Or.inl rfl, Or.inl rfl, Or.inl rfl, Or.inr ⟨0, rfl⟩, Or.inr ⟨0, rfl⟩, trivial⟩ ?_
  exact q_less (by omega) (by omega) (hnext Γ f e _ _ h hI (by omega) hok)
set_option maxRecDepth 20000 in
set_option maxHeartbeats 4000000 in
theorem arm7 (Sc : q_S) (hS : Sc.1 ≤ 3073) (g o ml : Nat) (hgo : g + 7 + 37 * ml ≤ o) (hm1 : 1 ≤ ml) (hm4 : ml ≤ 4) (n : Nat) (Γ : Nat → q_K) (f e : Nat → Int32) (hI : Inv Γ o g ml f e) (th s i kc ks : Nat) (hs : s ≤ 1600000000) (hi : i + 6 ≤ Sc.1) (h : q_H) (hok : q_ok (mG Γ o ml th s) h) (Q : q_O → q_H → Nat → Prop) (hnext : ∀ (Γ' : Nat → q_K) (f' e' : Nat → Int32) (th' s' : Nat) (h : q_H), Inv Γ' o g ml f' e' → s' ≤ s + 8000 → q_ok (mG Γ' o ml th' s') h → q_A Sc mL_law 944 [.float 1, .ref g, .ref o, .ref (o + 17), .int (nI i), .retAddr 0, .retAddr 0] [] h n kc ks Q) : q_A Sc mL_law 588 [.float 1, .ref g, .ref o, .ref (o + 17), .int (nI i), .retAddr 0, .retAddr 0] [] h n (kc + 4) (ks + 24) Q := by
  obtain ⟨hG0, hB, hE, hw⟩ := id hI
  have hG := (hG0 (mG Γ o ml th s) (fun j hj => if_neg (by omega))).1
  have hM := (hG0 (mG Γ o ml th s) (fun j hj => if_neg (by omega))).2
  have hw2 : mG Γ o ml th s (o + 17) = (5, 1, []) := (if_neg (by omega)).trans hw
  have hml := hm4
  refine q_aload_n dL_law_588 rfl ?_
  refine q_aload_n_x dL_law_589 rfl ?_
  refine q_iload dL_law_590 rfl ?_
  refine q_iconst (v := nI 1) dL_law_592 rfl ?_
  refine t_iadd_n dL_law_593 ?_
  refine q_sld dL_law_594 (by exact vp_in_nI (by omega) (by omega)) ?_
  refine q_aload_n_x dL_law_595 rfl ?_
  refine q_iload dL_law_596 rfl ?_
  refine q_iconst (v := nI 2) dL_law_598 rfl ?_
  refine t_iadd_n dL_law_599 ?_
  refine q_sld dL_law_600 (by exact vp_in_nI (by omega) (by omega)) ?_
  refine q_aload_n_x dL_law_601 rfl ?_
  refine q_iload dL_law_602 rfl ?_
  refine q_iconst (v := nI 3) dL_law_604 rfl ?_
  refine t_iadd_n dL_law_605 ?_
  refine q_sld dL_law_606 (by exact vp_in_nI (by omega) (by omega)) ?_
  refine q_aload_n dL_law_607 rfl ?_
  refine t_callS (M' := mL_passed) [.ref g, .int (Sc.2 (nI (i + 1)).toNatClampNeg), .int (Sc.2 (nI (i + 2)).toNatClampNeg), .int (Sc.2 (nI (i + 3)).toNatClampNeg), .ref ((o + 17))] [] dL_law_608 wPL_106 wTL_passed wNL iL_passed oL_passed rfl hok (sL_passed Sc (mG Γ o ml (th) (s)) n hG hm1 hm4 (Sc.2 (nI (i + 1)).toNatClampNeg) (Sc.2 (nI (i + 2)).toNatClampNeg) (Sc.2 (nI (i + 3)).toNatClampNeg) hw2) (by omega) (by omega) (Nat.le_of_ble_eq_true rfl) (Nat.le_of_ble_eq_true rfl) (Nat.le_of_ble_eq_true rfl) rfl (fun v1606 h qv1606 hok => ?_) (fun e1607 h qe1607 hok => absurd qe1607 (by intro q; obtain ⟨_, q⟩ := q; cases q))
  obtain ⟨x1608, qx1608⟩ := qv1606
  obtain rfl := Sum.inl.inj qx1608
  refine t_istore [.float 1, .ref g, .ref o, .ref ((o + 17)), .int (nI i), .int (x1608), .retAddr 0] (Or.inr ⟨rfl, dL_law_611⟩) (by decide) rfl ?_
  refine q_aload_n dL_law_613 rfl ?_
  refine q_aload_n_x dL_law_614 rfl ?_
  refine q_iload dL_law_615 rfl ?_
  refine q_iconst (v := nI 1) dL_law_617 rfl ?_
  refine t_iadd_n dL_law_618 ?_
  refine q_sld dL_law_619 (by exact vp_in_nI (by omega) (by omega)) ?_
  refine q_aload_n_x dL_law_620 rfl ?_
  refine q_iload dL_law_621 rfl ?_
  refine q_iconst (v := nI 2) dL_law_623 rfl ?_
  refine t_iadd_n dL_law_624 ?_
  refine q_sld dL_law_625 (by exact vp_in_nI (by omega) (by omega)) ?_
  refine q_aload_n_x dL_law_626 rfl ?_
  refine q_iload dL_law_627 rfl ?_
  refine q_iconst (v := nI 3) dL_law_629 rfl ?_
  refine t_iadd_n dL_law_630 ?_
  refine q_sld dL_law_631 (by exact vp_in_nI (by omega) (by omega)) ?_
  refine t_callM (M' := mX5_passed) [.int (Sc.2 (nI (i + 1)).toNatClampNeg), .int (Sc.2 (nI (i + 2)).toNatClampNeg), .int (Sc.2 (nI (i + 3)).toNatClampNeg)] [] dL_law_632 wPL_108v wIX5_passed wSX5_passed iX5_passed oX5_passed rfl hok (sX5_passed Sc Γ n o ml (th) (s) hB hml (Sc.2 (nI (i + 1)).toNatClampNeg) (Sc.2 (nI (i + 2)).toNatClampNeg) (Sc.2 (nI (i + 3)).toNatClampNeg)) (Nat.le_of_ble_eq_true rfl) (Nat.le_of_ble_eq_true rfl) (Nat.le_of_ble_eq_true rfl) rfl (fun _ _ _ q => by obtain ⟨q, _⟩ := q; obtain ⟨_, q⟩ := q; cases q) (fun v1610 h thv1610 sv1610 qv1610 hok => ?_)
  obtain ⟨qv1610, hsv1610⟩ := qv1610
  obtain ⟨x1611, qx1611⟩ := qv1610
  obtain rfl := Sum.inl.inj qx1611
  refine t_istore [.float 1, .ref g, .ref o, .ref ((o + 17)), .int (nI i), .int (x1608), .int (x1611)] (Or.inr ⟨rfl, dL_law_635⟩) (by decide) rfl ?_
  refine q_goto (tgt := 944) dL_law_637 (by decide) ?_
  refine q_weak [.float 1, .ref g, .ref o, .ref (o + 17), .int (nI i), .retAddr 0, .retAddr 0] ⟨Or.inl rfl, Or.inl rfl, Or.inl rfl, Or.inl rfl, Or.inl rfl, Or.inr ⟨0, rfl⟩, Or.inr ⟨0, rfl⟩, trivial⟩ ?_
  exact q_less (by omega) (by omega) (hnext Γ f e _ _ h hI (by omega) hok)
set_option maxRecDepth 20000 in
set_option maxHeartbeats 4000000 in
theorem arm8 (Sc : q_S) (hS : Sc.1 ≤ 3073) (g o ml : Nat) (hgo : g + 7 + 37 * ml ≤ o) (hm1 : 1 ≤ ml) (hm4 : ml ≤ 4) (n : Nat) (Γ : Nat → q_K) (f e : Nat → Int32) (hI : Inv Γ o g ml f e) (th s i kc ks : Nat) (hs : s ≤ 1600000000) (hi : i + 6 ≤ Sc.1) (h : q_H) (hok : q_ok (mG Γ o ml th s) h) (Q : q_O → q_H → Nat → Prop) (hnext : ∀ (Γ' : Nat → q_K) (f' e' : Nat → Int32) (th' s' : Nat) (h : q_H), Inv Γ' o g ml f' e' → s' ≤ s + 8000 → q_ok (mG Γ' o ml th' s') h → q_A Sc mL_law 944 [.float 1, .ref g, .ref o, .ref (o + 17), .int (nI i), .retAddr 0, .retAddr 0] [] h n kc ks Q) : q_A Sc mL_law 640 [.float 1, .ref g, .ref o, .ref (o + 17), .int (nI i), .retAddr 0, .retAddr 0] [] h n (kc + 4) (ks + 24) Q := by
  obtain ⟨hG0, hB, hE, hw⟩ := id hI
  have hG := (hG0 (mG Γ o ml th s) (fun j hj => if_neg (by omega))).1
  have hM := (hG0 (mG Γ o ml th s) (fun j hj => if_neg (by omega))).2
  have hw2 : mG Γ o ml th s (o + 17) = (5, 1, []) := (if_neg (by omega)).trans hw
  have hml := hm4
  refine q_aload_n dL_law_640 rfl ?_
  refine q_aload_n_x dL_law_641 rfl ?_
  refine q_iload dL_law_642 rfl ?_
  refine q_iconst (v := nI 1) dL_law_644 rfl ?_
  refine t_iadd_n dL_law_645 ?_
  refine q_sld dL_law_646 (by exact vp_in_nI (by omega) (by omega)) ?_
  refine q_aload_n_x dL_law_647 rfl ?_
  refine q_iload dL_law_648 rfl ?_
  refine q_iconst (v := nI 2) dL_law_650 rfl ?_
  refine t_iadd_n dL_law_651 ?_
  refine q_sld dL_law_652 (by exact vp_in_nI (by omega) (by omega)) ?_
  refine q_aload_n dL_law_653 rfl ?_
  refine t_callS (M' := mL_mode) [.ref g, .int (Sc.2 (nI (i + 1)).toNatClampNeg), .int (Sc.2 (nI (i + 2)).toNatClampNeg), .ref ((o + 17))] [] dL_law_654 wPL_109 wTL_mode wNL iL_mode oL_mode rfl hok (sL_mode Sc (mG Γ o ml (th) (s)) n hG hm1 hm4 (Sc.2 (nI (i + 1)).toNatClampNeg) (Sc.2 (nI (i + 2)).toNatClampNeg) hw2) (by omega) (by omega) (Nat.le_of_ble_eq_true rfl) (Nat.le_of_ble_eq_true rfl) (Nat.le_of_ble_eq_true rfl) rfl (fun v1612 h qv1612 hok => ?_) (fun e1613 h qe1613 hok => absurd qe1613 (by intro q; obtain ⟨_, q⟩ := q; cases q))
  obtain ⟨x1614, qx1614⟩ := qv1612
  obtain rfl := Sum.inl.inj qx1614
  refine t_istore [.float 1, .ref g, .ref o, .ref ((o + 17)), .int (nI i), .int (x1614), .retAddr 0] (Or.inr ⟨rfl, dL_law_657⟩) (by decide) rfl ?_
  refine q_aload_n dL_law_659 rfl ?_
  refine q_aload_n_x dL_law_660 rfl ?_
  refine q_iload dL_law_661 rfl ?_
  refine q_iconst (v := nI 1) dL_law_663 rfl ?_
  refine t_iadd_n dL_law_664 ?_
  refine q_sld dL_law_665 (by exact vp_in_nI (by omega) (by omega)) ?_
  refine q_aload_n_x dL_law_666 rfl ?_
  refine q_iload dL_law_667 rfl ?_
  refine q_iconst (v := nI 2) dL_law_669 rfl ?_
  refine t_iadd_n dL_law_670 ?_
  refine q_sld dL_law_671 (by exact vp_in_nI (by omega) (by omega)) ?_
  refine t_callM (M' := mX5_mode) [.int (Sc.2 (nI (i + 1)).toNatClampNeg), .int (Sc.2 (nI (i + 2)).toNatClampNeg)] [] dL_law_672 wPL_111v wIX5_mode wSX5_mode iX5_mode oX5_mode rfl hok (sX5_mode Sc Γ n o ml (th) (s) hB hml (Sc.2 (nI (i + 1)).toNatClampNeg) (Sc.2 (nI (i + 2)).toNatClampNeg)) (Nat.le_of_ble_eq_true rfl) (Nat.le_of_ble_eq_true rfl) (Nat.le_of_ble_eq_true rfl) rfl (fun _ _ _ q => by obtain ⟨q, _⟩ := q; obtain ⟨_, q⟩ := q; cases q) (fun v1616 h thv1616 sv1616 qv1616 hok => ?_)
  obtain ⟨qv1616, hsv1616⟩ := qv1616
  obtain ⟨x1617, qx1617⟩ := qv1616
  obtain rfl := Sum.inl.inj qx1617
  refine t_istore [.float 1, .ref g, .ref o, .ref ((o + 17)), .int (nI i), .int (x1614), .int (x1617)] (Or.inr ⟨rfl, dL_law_675⟩) (by decide) rfl ?_
  refine q_goto (tgt := 944) dL_law_677 (by decide) ?_
  refine q_weak [.float 1, .ref g, .ref o, .ref (o + 17), .int (nI i), .retAddr 0, .retAddr 0] ⟨Or.inl rfl, Or.inl rfl, Or.inl rfl, Or.inl rfl, Or.inl rfl, Or.inr ⟨0, rfl⟩, Or.inr ⟨0, rfl⟩, trivial⟩ ?_
  exact q_less (by omega) (by omega) (hnext Γ f e _ _ h hI (by omega) hok)
set_option maxRecDepth 20000 in
set_option maxHeartbeats 4000000 in
theorem arm9 (Sc : q_S) (hS : Sc.1 ≤ 3073) (g o ml : Nat) (hgo : g + 7 + 37 * ml ≤ o) (hm1 : 1 ≤ ml) (hm4 : ml ≤ 4) (n : Nat) (Γ : Nat → q_K) (f e : Nat → Int32) (hI : Inv Γ o g ml f e) (th s i kc ks : Nat) (hs : s ≤ 1600000000) (hi : i + 6 ≤ Sc.1) (h : q_H) (hok : q_ok (mG Γ o ml th s) h) (Q : q_O → q_H → Nat → Prop) (hnext : ∀ (Γ' : Nat → q_K) (f' e' : Nat → Int32) (th' s' : Nat) (h : q_H), Inv Γ' o g ml f' e' → s' ≤ s + 8000 → q_ok (mG Γ' o ml th' s') h → q_A Sc mL_law 944 [.float 1, .ref g, .ref o, .ref (o + 17), .int (nI i), .retAddr 0, .retAddr 0] [] h n kc ks Q) : q_A Sc mL_law 680 [.float 1, .ref g, .ref o, .ref (o + 17), .int (nI i), .retAddr 0, .retAddr 0] [] h n (kc + 4) (ks + 24) Q := by
  obtain ⟨hG0, hB, hE, hw⟩ := id hI
  have hG := (hG0 (mG Γ o ml th s) (fun j hj => if_neg (by omega))).1
  have hM := (hG0 (mG Γ o ml th s) (fun j hj => if_neg (by omega))).2
  have hw2 : mG Γ o ml th s (o + 17) = (5, 1, []) := (if_neg (by omega)).trans hw
  have hml := hm4
  refine q_aload_n dL_law_680 rfl ?_
  refine q_aload_n_x dL_law_681 rfl ?_
  refine q_iload dL_law_682 rfl ?_
  refine q_iconst (v := nI 1) dL_law_684 rfl ?_
  refine t_iadd_n dL_law_685 ?_
  refine q_sld dL_law_686 (by exact vp_in_nI (by omega) (by omega)) ?_
  refine q_aload_n_x dL_law_687 rfl ?_
  refine q_iload dL_law_688 rfl ?_
  refine q_iconst (v := nI 2) dL_law_690 rfl ?_
  refine t_iadd_n dL_law_691 ?_
  refine q_sld dL_law_692 (by exact vp_in_nI (by omega) (by omega)) ?_
  refine q_aload_n_x dL_law_693 rfl ?_
  refine q_iload dL_law_694 rfl ?_
  refine q_iconst (v := nI 3) dL_law_696 rfl ?_
  refine t_iadd_n dL_law_697 ?_
  refine q_sld dL_law_698 (by exact vp_in_nI (by omega) (by omega)) ?_
  refine q_if_eq (tgt := 706) dL_law_699 (by decide) (fun c1618 => ?_) (fun c1618 => ?_)
  ·
    refine q_iconst (v := nI 0) dL_law_706 rfl ?_
    refine q_aload_n dL_law_707 rfl ?_
    refine t_callS (M' := mL_sources) [.ref g, .int (Sc.2 (nI (i + 1)).toNatClampNeg), .int (Sc.2 (nI (i + 2)).toNatClampNeg), .int (nI 0), .ref ((o + 17))] [] dL_law_708 wPL_112 wTL_sources wNL iL_sources oL_sources rfl hok (sL_sources Sc (mG Γ o ml (th) (s)) n hG hm1 hm4 (Sc.2 (nI (i + 1)).toNatClampNeg) (Sc.2 (nI (i + 2)).toNatClampNeg) (nI 0) (Or.inl rfl) hw2) (by omega) (by omega) (Nat.le_of_ble_eq_true rfl) (Nat.le_of_ble_eq_true rfl) (Nat.le_of_ble_eq_true rfl) rfl (fun v1619 h qv1619 hok => ?_) (fun e1620 h qe1620 hok => absurd qe1620 (by intro q; obtain ⟨_, q⟩ := q; cases q))
    obtain ⟨x1621, qx1621⟩ := qv1619
    obtain rfl := Sum.inl.inj qx1621
    refine t_istore [.float 1, .ref g, .ref o, .ref ((o + 17)), .int (nI i), .int (x1621), .retAddr 0] (Or.inr ⟨rfl, dL_law_711⟩) (by decide) rfl ?_
    refine q_aload_n dL_law_713 rfl ?_
    refine q_aload_n_x dL_law_714 rfl ?_
    refine q_iload dL_law_715 rfl ?_
    refine q_iconst (v := nI 1) dL_law_717 rfl ?_
    refine t_iadd_n dL_law_718 ?_
    refine q_sld dL_law_719 (by exact vp_in_nI (by omega) (by omega)) ?_
    refine q_aload_n_x dL_law_720 rfl ?_
    refine q_iload dL_law_721 rfl ?_
    refine q_iconst (v := nI 2) dL_law_723 rfl ?_
    refine t_iadd_n dL_law_724 ?_
    refine q_sld dL_law_725 (by exact vp_in_nI (by omega) (by omega)) ?_
    refine q_aload_n_x dL_law_726 rfl ?_
    refine q_iload dL_law_727 rfl ?_
    refine q_iconst (v := nI 3) dL_law_729 rfl ?_
    refine t_iadd_n dL_law_730 ?_
    refine q_sld dL_law_731 (by exact vp_in_nI (by omega) (by omega)) ?_
    refine q_if_eq (tgt := 739) dL_law_732 (by decide) (fun c1622 => ?_) (fun c1622 => ?_)
    rotate_left
    · exact absurd c1618 c1622
    refine q_iconst (v := nI 0) dL_law_739 rfl ?_
    refine t_callM (M' := mX5_sources) [.int (Sc.2 (nI (i + 1)).toNatClampNeg), .int (Sc.2 (nI (i + 2)).toNatClampNeg), .int (nI 0)] [] dL_law_740 wPL_115v wIX5_sources wSX5_sources iX5_sources oX5_sources rfl hok (sX5_sources Sc Γ n o ml (th) (s) hB hml (Sc.2 (nI (i + 1)).toNatClampNeg) (Sc.2 (nI (i + 2)).toNatClampNeg) (nI 0) (Or.inl rfl)) (Nat.le_of_ble_eq_true rfl) (Nat.le_of_ble_eq_true rfl) (Nat.le_of_ble_eq_true rfl) rfl (fun _ _ _ q => by obtain ⟨q, _⟩ := q; obtain ⟨_, q⟩ := q; cases q) (fun v1624 h thv1624 sv1624 qv1624 hok => ?_)
    obtain ⟨qv1624, hsv1624⟩ := qv1624
    obtain ⟨x1625, qx1625⟩ := qv1624
    obtain rfl := Sum.inl.inj qx1625
    refine t_istore [.float 1, .ref g, .ref o, .ref ((o + 17)), .int (nI i), .int (x1621), .int (x1625)] (Or.inr ⟨rfl, dL_law_743⟩) (by decide) rfl ?_
    refine q_goto (tgt := 944) dL_law_745 (by decide) ?_
    refine q_weak [.float 1, .ref g, .ref o, .ref (o + 17), .int (nI i), .retAddr 0, .retAddr 0] ⟨Or.inl rfl, Or.inl rfl, Or.inl rfl, Or.inl rfl, Or.inl rfl, Or.inr ⟨0, rfl⟩, Or.inr ⟨0, rfl⟩, trivial⟩ ?_
    exact q_less (by omega) (by omega) (hnext Γ f e _ _ h hI (by omega) hok)
  ·
    refine q_iconst (v := nI 1) dL_law_702 rfl ?_
    refine q_goto (tgt := 707) dL_law_703 (by decide) ?_
    refine q_aload_n dL_law_707 rfl ?_
    refine t_callS (M' := mL_sources) [.ref g, .int (Sc.2 (nI (i + 1)).toNatClampNeg), .int (Sc.2 (nI (i + 2)).toNatClampNeg), .int (nI 1), .ref ((o + 17))] [] dL_law_708 wPL_112 wTL_sources wNL iL_sources oL_sources rfl hok (sL_sources Sc (mG Γ o ml (th) (s)) n hG hm1 hm4 (Sc.2 (nI (i + 1)).toNatClampNeg) (Sc.2 (nI (i + 2)).toNatClampNeg) (nI 1) (Or.inr rfl) hw2) (by omega) (by omega) (Nat.le_of_ble_eq_true rfl) (Nat.le_of_ble_eq_true rfl) (Nat.le_of_ble_eq_true rfl) rfl (fun v1626 h qv1626 hok => ?_) (fun e1627 h qe1627 hok => absurd qe1627 (by intro q; obtain ⟨_, q⟩ := q; cases q))
    obtain ⟨x1628, qx1628⟩ := qv1626
    obtain rfl := Sum.inl.inj qx1628
    refine t_istore [.float 1, .ref g, .ref o, .ref ((o + 17)), .int (nI i), .int (x1628), .retAddr 0] (Or.inr ⟨rfl, dL_law_711⟩) (by decide) rfl ?_
    refine q_aload_n dL_law_713 rfl ?_
    refine q_aload_n_x dL_law_714 rfl ?_
    refine q_iload dL_law_715 rfl ?_
    refine q_iconst (v := nI 1) dL_law_717 rfl ?_
    refine t_iadd_n dL_law_718 ?_
    refine q_sld dL_law_719 (by exact vp_in_nI (by omega) (by omega)) ?_
    refine q_aload_n_x dL_law_720 rfl ?_
    refine q_iload dL_law_721 rfl ?_
    refine q_iconst (v := nI 2) dL_law_723 rfl ?_
    refine t_iadd_n dL_law_724 ?_
    refine q_sld dL_law_725 (by exact vp_in_nI (by omega) (by omega)) ?_
    refine q_aload_n_x dL_law_726 rfl ?_
    refine q_iload dL_law_727 rfl ?_
    refine q_iconst (v := nI 3) dL_law_729 rfl ?_
    refine t_iadd_n dL_law_730 ?_
    refine q_sld dL_law_731 (by exact vp_in_nI (by omega) (by omega)) ?_
    refine q_if_eq (tgt := 739) dL_law_732 (by decide) (fun c1629 => ?_) (fun c1629 => ?_)
    · exact absurd c1629 c1618
    refine q_iconst (v := nI 1) dL_law_735 rfl ?_
    refine q_goto (tgt := 740) dL_law_736 (by decide) ?_
    refine t_callM (M' := mX5_sources) [.int (Sc.2 (nI (i + 1)).toNatClampNeg), .int (Sc.2 (nI (i + 2)).toNatClampNeg), .int (nI 1)] [] dL_law_740 wPL_115v wIX5_sources wSX5_sources iX5_sources oX5_sources rfl hok (sX5_sources Sc Γ n o ml (th) (s) hB hml (Sc.2 (nI (i + 1)).toNatClampNeg) (Sc.2 (nI (i + 2)).toNatClampNeg) (nI 1) (Or.inr rfl)) (Nat.le_of_ble_eq_true rfl) (Nat.le_of_ble_eq_true rfl) (Nat.le_of_ble_eq_true rfl) rfl (fun _ _ _ q => by obtain ⟨q, _⟩ := q; obtain ⟨_, q⟩ := q; cases q) (fun v1631 h thv1631 sv1631 qv1631 hok => ?_)
    obtain ⟨qv1631, hsv1631⟩ := qv1631
    obtain ⟨x1632, qx1632⟩ := qv1631
    obtain rfl := Sum.inl.inj qx1632
    refine t_istore [.float 1, .ref g, .ref o, .ref ((o + 17)), .int (nI i), .int (x1628), .int (x1632)] (Or.inr ⟨rfl, dL_law_743⟩) (by decide) rfl ?_
    refine q_goto (tgt := 944) dL_law_745 (by decide) ?_
    refine q_weak [.float 1, .ref g, .ref o, .ref (o + 17), .int (nI i), .retAddr 0, .retAddr 0] ⟨Or.inl rfl, Or.inl rfl, Or.inl rfl, Or.inl rfl, Or.inl rfl, Or.inr ⟨0, rfl⟩, Or.inr ⟨0, rfl⟩, trivial⟩ ?_
    exact q_less (by omega) (by omega) (hnext Γ f e _ _ h hI (by omega) hok)
set_option maxRecDepth 20000 in
set_option maxHeartbeats 4000000 in
theorem arm10 (Sc : q_S) (hS : Sc.1 ≤ 3073) (g o ml : Nat) (hgo : g + 7 + 37 * ml ≤ o) (hm1 : 1 ≤ ml) (hm4 : ml ≤ 4) (n : Nat) (Γ : Nat → q_K) (f e : Nat → Int32) (hI : Inv Γ o g ml f e) (th s i kc ks : Nat) (hs : s ≤ 1600000000) (hi : i + 6 ≤ Sc.1) (h : q_H) (hok : q_ok (mG Γ o ml th s) h) (Q : q_O → q_H → Nat → Prop) (hnext : ∀ (Γ' : Nat → q_K) (f' e' : Nat → Int32) (th' s' : Nat) (h : q_H), Inv Γ' o g ml f' e' → s' ≤ s + 8000 → q_ok (mG Γ' o ml th' s') h → q_A Sc mL_law 944 [.float 1, .ref g, .ref o, .ref (o + 17), .int (nI i), .retAddr 0, .retAddr 0] [] h n kc ks Q) : q_A Sc mL_law 748 [.float 1, .ref g, .ref o, .ref (o + 17), .int (nI i), .retAddr 0, .retAddr 0] [] h n (kc + 4) (ks + 24) Q := by
  obtain ⟨hG0, hB, hE, hw⟩ := id hI
  have hG := (hG0 (mG Γ o ml th s) (fun j hj => if_neg (by omega))).1
  have hM := (hG0 (mG Γ o ml th s) (fun j hj => if_neg (by omega))).2
  have hw2 : mG Γ o ml th s (o + 17) = (5, 1, []) := (if_neg (by omega)).trans hw
  have hml := hm4
  refine q_aload_n dL_law_748 rfl ?_
  refine q_aload_n_x dL_law_749 rfl ?_
  refine q_iload dL_law_750 rfl ?_
  refine q_iconst (v := nI 1) dL_law_752 rfl ?_
  refine t_iadd_n dL_law_753 ?_
  refine q_sld dL_law_754 (by exact vp_in_nI (by omega) (by omega)) ?_
  refine q_aload_n_x dL_law_755 rfl ?_
  refine q_iload dL_law_756 rfl ?_
  refine q_iconst (v := nI 2) dL_law_758 rfl ?_
  refine t_iadd_n dL_law_759 ?_
  refine q_sld dL_law_760 (by exact vp_in_nI (by omega) (by omega)) ?_
  refine q_aload_n_x dL_law_761 rfl ?_
  refine q_iload dL_law_762 rfl ?_
  refine q_iconst (v := nI 3) dL_law_764 rfl ?_
  refine t_iadd_n dL_law_765 ?_
  refine q_sld dL_law_766 (by exact vp_in_nI (by omega) (by omega)) ?_
  refine q_aload_n dL_law_767 rfl ?_
  refine t_callS (M' := mL_timer) [.ref g, .int (Sc.2 (nI (i + 1)).toNatClampNeg), .int (Sc.2 (nI (i + 2)).toNatClampNeg), .int (Sc.2 (nI (i + 3)).toNatClampNeg), .ref ((o + 17))] [] dL_law_768 wPL_116 wTL_timer wNL iL_timer oL_timer rfl hok (sL_timer Sc (mG Γ o ml (th) (s)) n hG hm1 hm4 (Sc.2 (nI (i + 1)).toNatClampNeg) (Sc.2 (nI (i + 2)).toNatClampNeg) (Sc.2 (nI (i + 3)).toNatClampNeg) hw2) (by omega) (by omega) (Nat.le_of_ble_eq_true rfl) (Nat.le_of_ble_eq_true rfl) (Nat.le_of_ble_eq_true rfl) rfl (fun v1633 h qv1633 hok => ?_) (fun e1634 h qe1634 hok => absurd qe1634 (by intro q; obtain ⟨_, q⟩ := q; cases q))
  obtain ⟨x1635, qx1635⟩ := qv1633
  obtain rfl := Sum.inl.inj qx1635
  refine t_istore [.float 1, .ref g, .ref o, .ref ((o + 17)), .int (nI i), .int (x1635), .retAddr 0] (Or.inr ⟨rfl, dL_law_771⟩) (by decide) rfl ?_
  refine q_aload_n dL_law_773 rfl ?_
  refine q_aload_n_x dL_law_774 rfl ?_
  refine q_iload dL_law_775 rfl ?_
  refine q_iconst (v := nI 1) dL_law_777 rfl ?_
  refine t_iadd_n dL_law_778 ?_
  refine q_sld dL_law_779 (by exact vp_in_nI (by omega) (by omega)) ?_
  refine q_aload_n_x dL_law_780 rfl ?_
  refine q_iload dL_law_781 rfl ?_
  refine q_iconst (v := nI 2) dL_law_783 rfl ?_
  refine t_iadd_n dL_law_784 ?_
  refine q_sld dL_law_785 (by exact vp_in_nI (by omega) (by omega)) ?_
  refine q_aload_n_x dL_law_786 rfl ?_
  refine q_iload dL_law_787 rfl ?_
  refine q_iconst (v := nI 3) dL_law_789 rfl ?_
  refine t_iadd_n dL_law_790 ?_
  refine q_sld dL_law_791 (by exact vp_in_nI (by omega) (by omega)) ?_
  refine t_callM (M' := mX5_timer) [.int (Sc.2 (nI (i + 1)).toNatClampNeg), .int (Sc.2 (nI (i + 2)).toNatClampNeg), .int (Sc.2 (nI (i + 3)).toNatClampNeg)] [] dL_law_792 wPL_118v wIX5_timer wSX5_timer iX5_timer oX5_timer rfl hok (sX5_timer Sc Γ n o ml (th) (s) hB hml (Sc.2 (nI (i + 1)).toNatClampNeg) (Sc.2 (nI (i + 2)).toNatClampNeg) (Sc.2 (nI (i + 3)).toNatClampNeg)) (Nat.le_of_ble_eq_true rfl) (Nat.le_of_ble_eq_true rfl) (Nat.le_of_ble_eq_true rfl) rfl (fun _ _ _ q => by obtain ⟨q, _⟩ := q; obtain ⟨_, q⟩ := q; cases q) (fun v1637 h thv1637 sv1637 qv1637 hok => ?_)
  obtain ⟨qv1637, hsv1637⟩ := qv1637
  obtain ⟨x1638, qx1638⟩ := qv1637
  obtain rfl := Sum.inl.inj qx1638
  refine t_istore [.float 1, .ref g, .ref o, .ref ((o + 17)), .int (nI i), .int (x1635), .int (x1638)] (Or.inr ⟨rfl, dL_law_795⟩) (by decide) rfl ?_
  refine q_goto (tgt := 944) dL_law_797 (by decide) ?_
  refine q_weak [.float 1, .ref g, .ref o, .ref (o + 17), .int (nI i), .retAddr 0, .retAddr 0] ⟨Or.inl rfl, Or.inl rfl, Or.inl rfl, Or.inl rfl, Or.inl rfl, Or.inr ⟨0, rfl⟩, Or.inr ⟨0, rfl⟩, trivial⟩ ?_
  exact q_less (by omega) (by omega) (hnext Γ f e _ _ h hI (by omega) hok)
set_option maxRecDepth 20000 in
set_option maxHeartbeats 4000000 in
theorem arm11 (Sc : q_S) (hS : Sc.1 ≤ 3073) (g o ml : Nat) (hgo : g + 7 + 37 * ml ≤ o) (hm1 : 1 ≤ ml) (hm4 : ml ≤ 4) (n : Nat) (Γ : Nat → q_K) (f e : Nat → Int32) (hI : Inv Γ o g ml f e) (th s i kc ks : Nat) (hs : s ≤ 1600000000) (hi : i + 6 ≤ Sc.1) (h : q_H) (hok : q_ok (mG Γ o ml th s) h) (Q : q_O → q_H → Nat → Prop) (hnext : ∀ (Γ' : Nat → q_K) (f' e' : Nat → Int32) (th' s' : Nat) (h : q_H), Inv Γ' o g ml f' e' → s' ≤ s + 8000 → q_ok (mG Γ' o ml th' s') h → q_A Sc mL_law 944 [.float 1, .ref g, .ref o, .ref (o + 17), .int (nI i), .retAddr 0, .retAddr 0] [] h n kc ks Q) : q_A Sc mL_law 800 [.float 1, .ref g, .ref o, .ref (o + 17), .int (nI i), .retAddr 0, .retAddr 0] [] h n (kc + 4) (ks + 24) Q := by
  obtain ⟨hG0, hB, hE, hw⟩ := id hI
  have hG := (hG0 (mG Γ o ml th s) (fun j hj => if_neg (by omega))).1
  have hM := (hG0 (mG Γ o ml th s) (fun j hj => if_neg (by omega))).2
  have hw2 : mG Γ o ml th s (o + 17) = (5, 1, []) := (if_neg (by omega)).trans hw
  have hml := hm4
  refine q_aload_n dL_law_800 rfl ?_
  refine q_aload_n_x dL_law_801 rfl ?_
  refine q_iload dL_law_802 rfl ?_
  refine q_iconst (v := nI 1) dL_law_804 rfl ?_
  refine t_iadd_n dL_law_805 ?_
  refine q_sld dL_law_806 (by exact vp_in_nI (by omega) (by omega)) ?_
  refine q_aload_n_x dL_law_807 rfl ?_
  refine q_iload dL_law_808 rfl ?_
  refine q_iconst (v := nI 2) dL_law_810 rfl ?_
  refine t_iadd_n dL_law_811 ?_
  refine q_sld dL_law_812 (by exact vp_in_nI (by omega) (by omega)) ?_
  refine q_aload_n dL_law_813 rfl ?_
  refine t_callS (M' := mL_groupTimer) [.ref g, .int (Sc.2 (nI (i + 1)).toNatClampNeg), .int (Sc.2 (nI (i + 2)).toNatClampNeg), .ref ((o + 17))] [] dL_law_814 wPL_119 wTL_groupTimer wNL iL_groupTimer oL_groupTimer rfl hok (sL_groupTimer Sc (mG Γ o ml (th) (s)) n hG hm1 hm4 (Sc.2 (nI (i + 1)).toNatClampNeg) (Sc.2 (nI (i + 2)).toNatClampNeg) hw2) (by omega) (by omega) (Nat.le_of_ble_eq_true rfl) (Nat.le_of_ble_eq_true rfl) (Nat.le_of_ble_eq_true rfl) rfl (fun v1639 h qv1639 hok => ?_) (fun e1640 h qe1640 hok => absurd qe1640 (by intro q; obtain ⟨_, q⟩ := q; cases q))
  obtain ⟨x1641, qx1641⟩ := qv1639
  obtain rfl := Sum.inl.inj qx1641
  refine t_istore [.float 1, .ref g, .ref o, .ref ((o + 17)), .int (nI i), .int (x1641), .retAddr 0] (Or.inr ⟨rfl, dL_law_817⟩) (by decide) rfl ?_
  refine q_aload_n dL_law_819 rfl ?_
  refine q_aload_n_x dL_law_820 rfl ?_
  refine q_iload dL_law_821 rfl ?_
  refine q_iconst (v := nI 1) dL_law_823 rfl ?_
  refine t_iadd_n dL_law_824 ?_
  refine q_sld dL_law_825 (by exact vp_in_nI (by omega) (by omega)) ?_
  refine q_aload_n_x dL_law_826 rfl ?_
  refine q_iload dL_law_827 rfl ?_
  refine q_iconst (v := nI 2) dL_law_829 rfl ?_
  refine t_iadd_n dL_law_830 ?_
  refine q_sld dL_law_831 (by exact vp_in_nI (by omega) (by omega)) ?_
  refine t_callM (M' := mX5_groupTimer) [.int (Sc.2 (nI (i + 1)).toNatClampNeg), .int (Sc.2 (nI (i + 2)).toNatClampNeg)] [] dL_law_832 wPL_121v wIX5_groupTimer wSX5_groupTimer iX5_groupTimer oX5_groupTimer rfl hok (sX5_groupTimer Sc Γ n o ml (th) (s) hB hml (Sc.2 (nI (i + 1)).toNatClampNeg) (Sc.2 (nI (i + 2)).toNatClampNeg)) (Nat.le_of_ble_eq_true rfl) (Nat.le_of_ble_eq_true rfl) (Nat.le_of_ble_eq_true rfl) rfl (fun _ _ _ q => by obtain ⟨q, _⟩ := q; obtain ⟨_, q⟩ := q; cases q) (fun v1643 h thv1643 sv1643 qv1643 hok => ?_)
  obtain ⟨qv1643, hsv1643⟩ := qv1643
  obtain ⟨x1644, qx1644⟩ := qv1643
  obtain rfl := Sum.inl.inj qx1644
  refine t_istore [.float 1, .ref g, .ref o, .ref ((o + 17)), .int (nI i), .int (x1641), .int (x1644)] (Or.inr ⟨rfl, dL_law_835⟩) (by decide) rfl ?_
  refine q_goto (tgt := 944) dL_law_837 (by decide) ?_
  refine q_weak [.float 1, .ref g, .ref o, .ref (o + 17), .int (nI i), .retAddr 0, .retAddr 0] ⟨Or.inl rfl, Or.inl rfl, Or.inl rfl, Or.inl rfl, Or.inl rfl, Or.inr ⟨0, rfl⟩, Or.inr ⟨0, rfl⟩, trivial⟩ ?_
  exact q_less (by omega) (by omega) (hnext Γ f e _ _ h hI (by omega) hok)
set_option maxRecDepth 20000 in
set_option maxHeartbeats 4000000 in
theorem arm12 (Sc : q_S) (hS : Sc.1 ≤ 3073) (g o ml : Nat) (hgo : g + 7 + 37 * ml ≤ o) (hm1 : 1 ≤ ml) (hm4 : ml ≤ 4) (n : Nat) (Γ : Nat → q_K) (f e : Nat → Int32) (hI : Inv Γ o g ml f e) (th s i kc ks : Nat) (hs : s ≤ 1600000000) (hi : i + 6 ≤ Sc.1) (h : q_H) (hok : q_ok (mG Γ o ml th s) h) (Q : q_O → q_H → Nat → Prop) (hnext : ∀ (Γ' : Nat → q_K) (f' e' : Nat → Int32) (th' s' : Nat) (h : q_H), Inv Γ' o g ml f' e' → s' ≤ s + 8000 → q_ok (mG Γ' o ml th' s') h → q_A Sc mL_law 944 [.float 1, .ref g, .ref o, .ref (o + 17), .int (nI i), .retAddr 0, .retAddr 0] [] h n kc ks Q) : q_A Sc mL_law 840 [.float 1, .ref g, .ref o, .ref (o + 17), .int (nI i), .retAddr 0, .retAddr 0] [] h n (kc + 4) (ks + 24) Q := by
  obtain ⟨hG0, hB, hE, hw⟩ := id hI
  have hG := (hG0 (mG Γ o ml th s) (fun j hj => if_neg (by omega))).1
  have hM := (hG0 (mG Γ o ml th s) (fun j hj => if_neg (by omega))).2
  have hw2 : mG Γ o ml th s (o + 17) = (5, 1, []) := (if_neg (by omega)).trans hw
  have hml := hm4
  refine q_aload_n dL_law_840 rfl ?_
  obtain ⟨pu1645, qu1645, ru1645, gu1645, au1645, bu1645, cu1645, du1645⟩ := id hG
  refine t_callV (M' := mX4_sent) [] [] kX4 dL_law_841 wPL_122v wIX4_sent wSX4_sent iX4_sent oX4_sent rfl hok gu1645 (sX4_sent Sc (mG Γ o ml (th) (s)) n hG hm1 hm4) (by omega) (by omega) (Nat.le_of_ble_eq_true rfl) (Nat.le_of_ble_eq_true rfl) (Nat.le_of_ble_eq_true rfl) rfl (fun v1646 h qv1646 hok => ?_) (fun e1647 h qe1647 hok => absurd qe1647 (by intro q; obtain ⟨_, q⟩ := q; cases q))
  obtain ⟨x1648, qx1648⟩ := qv1646
  obtain rfl := Sum.inl.inj qx1648
  refine q_pop dL_law_844 rfl ?_
  refine q_aload_n dL_law_845 rfl ?_
  refine t_callM (M' := mX5_sent) [] [] dL_law_846 wPL_125v wIX5_sent wSX5_sent iX5_sent oX5_sent rfl hok (sX5_sent Sc Γ n o ml (th) (s) hB hml ) (Nat.le_of_ble_eq_true rfl) (Nat.le_of_ble_eq_true rfl) (Nat.le_of_ble_eq_true rfl) rfl (fun _ _ _ q => by obtain ⟨q, _⟩ := q; obtain ⟨_, q⟩ := q; cases q) (fun v1650 h thv1650 sv1650 qv1650 hok => ?_)
  obtain ⟨qv1650, hsv1650⟩ := qv1650
  obtain ⟨x1651, qx1651⟩ := qv1650
  obtain rfl := Sum.inl.inj qx1651
  refine q_pop dL_law_849 rfl ?_
  refine q_goto (tgt := 944) dL_law_850 (by decide) ?_
  refine q_weak [.float 1, .ref g, .ref o, .ref (o + 17), .int (nI i), .retAddr 0, .retAddr 0] ⟨Or.inl rfl, Or.inl rfl, Or.inl rfl, Or.inl rfl, Or.inl rfl, Or.inr ⟨0, rfl⟩, Or.inr ⟨0, rfl⟩, trivial⟩ ?_
  exact q_less (by omega) (by omega) (hnext Γ f e _ _ h hI (by omega) hok)
set_option maxRecDepth 20000 in
set_option maxHeartbeats 4000000 in
theorem arm13 (Sc : q_S) (hS : Sc.1 ≤ 3073) (g o ml : Nat) (hgo : g + 7 + 37 * ml ≤ o) (hm1 : 1 ≤ ml) (hm4 : ml ≤ 4) (n : Nat) (Γ : Nat → q_K) (f e : Nat → Int32) (hI : Inv Γ o g ml f e) (th s i kc ks : Nat) (hs : s ≤ 1600000000) (hi : i + 6 ≤ Sc.1) (h : q_H) (hok : q_ok (mG Γ o ml th s) h) (Q : q_O → q_H → Nat → Prop) (hnext : ∀ (Γ' : Nat → q_K) (f' e' : Nat → Int32) (th' s' : Nat) (h : q_H), Inv Γ' o g ml f' e' → s' ≤ s + 8000 → q_ok (mG Γ' o ml th' s') h → q_A Sc mL_law 944 [.float 1, .ref g, .ref o, .ref (o + 17), .int (nI i), .retAddr 0, .retAddr 0] [] h n kc ks Q) : q_A Sc mL_law 853 [.float 1, .ref g, .ref o, .ref (o + 17), .int (nI i), .retAddr 0, .retAddr 0] [] h n (kc + 4) (ks + 24) Q := by
  obtain ⟨hG0, hB, hE, hw⟩ := id hI
  have hG := (hG0 (mG Γ o ml th s) (fun j hj => if_neg (by omega))).1
  have hM := (hG0 (mG Γ o ml th s) (fun j hj => if_neg (by omega))).2
  have hw2 : mG Γ o ml th s (o + 17) = (5, 1, []) := (if_neg (by omega)).trans hw
  have hml := hm4
  refine q_aload_n dL_law_853 rfl ?_
  refine q_aload_n_x dL_law_854 rfl ?_
  refine q_iload dL_law_855 rfl ?_
  refine q_iconst (v := nI 1) dL_law_857 rfl ?_
  refine t_iadd_n dL_law_858 ?_
  refine q_sld dL_law_859 (by exact vp_in_nI (by omega) (by omega)) ?_
  refine q_aload_n_x dL_law_860 rfl ?_
  refine q_iload dL_law_861 rfl ?_
  refine q_iconst (v := nI 2) dL_law_863 rfl ?_
  refine t_iadd_n dL_law_864 ?_
  refine q_sld dL_law_865 (by exact vp_in_nI (by omega) (by omega)) ?_
  refine q_aload_n dL_law_866 rfl ?_
  refine t_callS (M' := mL_asked) [.ref g, .int (Sc.2 (nI (i + 1)).toNatClampNeg), .int (Sc.2 (nI (i + 2)).toNatClampNeg), .ref ((o + 17))] [] dL_law_867 wPL_126 wTL_asked wNL iL_asked oL_asked rfl hok (sL_asked Sc (mG Γ o ml (th) (s)) n hG hm1 hm4 (Sc.2 (nI (i + 1)).toNatClampNeg) (Sc.2 (nI (i + 2)).toNatClampNeg) hw2) (by omega) (by omega) (Nat.le_of_ble_eq_true rfl) (Nat.le_of_ble_eq_true rfl) (Nat.le_of_ble_eq_true rfl) rfl (fun v1652 h qv1652 hok => ?_) (fun e1653 h qe1653 hok => absurd qe1653 (by intro q; obtain ⟨_, q⟩ := q; cases q))
  obtain ⟨x1654, qx1654⟩ := qv1652
  obtain rfl := Sum.inl.inj qx1654
  refine t_istore [.float 1, .ref g, .ref o, .ref ((o + 17)), .int (nI i), .int (x1654), .retAddr 0] (Or.inr ⟨rfl, dL_law_870⟩) (by decide) rfl ?_
  refine q_aload_n dL_law_872 rfl ?_
  refine q_aload_n_x dL_law_873 rfl ?_
  refine q_iload dL_law_874 rfl ?_
  refine q_iconst (v := nI 1) dL_law_876 rfl ?_
  refine t_iadd_n dL_law_877 ?_
  refine q_sld dL_law_878 (by exact vp_in_nI (by omega) (by omega)) ?_
  refine q_aload_n_x dL_law_879 rfl ?_
  refine q_iload dL_law_880 rfl ?_
  refine q_iconst (v := nI 2) dL_law_882 rfl ?_
  refine t_iadd_n dL_law_883 ?_
  refine q_sld dL_law_884 (by exact vp_in_nI (by omega) (by omega)) ?_
  refine t_callM (M' := mX5_asked) [.int (Sc.2 (nI (i + 1)).toNatClampNeg), .int (Sc.2 (nI (i + 2)).toNatClampNeg)] [] dL_law_885 wPL_128v wIX5_asked wSX5_asked iX5_asked oX5_asked rfl hok (sX5_asked Sc Γ n o ml (th) (s) hB hml (by omega) (Sc.2 (nI (i + 1)).toNatClampNeg) (Sc.2 (nI (i + 2)).toNatClampNeg)) (Nat.le_of_ble_eq_true rfl) (Nat.le_of_ble_eq_true rfl) (Nat.le_of_ble_eq_true rfl) rfl (fun _ _ _ q => by obtain ⟨q, _⟩ := q; obtain ⟨_, q⟩ := q; cases q) (fun v1656 h thv1656 sv1656 qv1656 hok => ?_)
  obtain ⟨qv1656, hsv1656⟩ := qv1656
  obtain ⟨x1657, qx1657⟩ := qv1656
  obtain rfl := Sum.inl.inj qx1657
  refine t_istore [.float 1, .ref g, .ref o, .ref ((o + 17)), .int (nI i), .int (x1654), .int (x1657)] (Or.inr ⟨rfl, dL_law_888⟩) (by decide) rfl ?_
  refine q_goto (tgt := 944) dL_law_890 (by decide) ?_
  refine q_weak [.float 1, .ref g, .ref o, .ref (o + 17), .int (nI i), .retAddr 0, .retAddr 0] ⟨Or.inl rfl, Or.inl rfl, Or.inl rfl, Or.inl rfl, Or.inl rfl, Or.inr ⟨0, rfl⟩, Or.inr ⟨0, rfl⟩, trivial⟩ ?_
  exact q_less (by omega) (by omega) (hnext Γ f e _ _ h hI (by omega) hok)
set_option maxRecDepth 20000 in
set_option maxHeartbeats 4000000 in
theorem arm14 (Sc : q_S) (hS : Sc.1 ≤ 3073) (g o ml : Nat) (hgo : g + 7 + 37 * ml ≤ o) (hm1 : 1 ≤ ml) (hm4 : ml ≤ 4) (n : Nat) (Γ : Nat → q_K) (f e : Nat → Int32) (hI : Inv Γ o g ml f e) (th s i kc ks : Nat) (hs : s ≤ 1600000000) (hi : i + 6 ≤ Sc.1) (h : q_H) (hok : q_ok (mG Γ o ml th s) h) (Q : q_O → q_H → Nat → Prop) (hnext : ∀ (Γ' : Nat → q_K) (f' e' : Nat → Int32) (th' s' : Nat) (h : q_H), Inv Γ' o g ml f' e' → s' ≤ s + 8000 → q_ok (mG Γ' o ml th' s') h → q_A Sc mL_law 944 [.float 1, .ref g, .ref o, .ref (o + 17), .int (nI i), .retAddr 0, .retAddr 0] [] h n kc ks Q) : q_A Sc mL_law 893 [.float 1, .ref g, .ref o, .ref (o + 17), .int (nI i), .retAddr 0, .retAddr 0] [] h n (kc + 4) (ks + 24) Q := by
  obtain ⟨hG0, hB, hE, hw⟩ := id hI
  have hG := (hG0 (mG Γ o ml th s) (fun j hj => if_neg (by omega))).1
  have hM := (hG0 (mG Γ o ml th s) (fun j hj => if_neg (by omega))).2
  have hw2 : mG Γ o ml th s (o + 17) = (5, 1, []) := (if_neg (by omega)).trans hw
  have hml := hm4
  refine q_aload_n dL_law_893 rfl ?_
  refine q_aload_n_x dL_law_894 rfl ?_
  refine q_iload dL_law_895 rfl ?_
  refine q_iconst (v := nI 1) dL_law_897 rfl ?_
  refine t_iadd_n dL_law_898 ?_
  refine q_sld dL_law_899 (by exact vp_in_nI (by omega) (by omega)) ?_
  refine q_aload_n_x dL_law_900 rfl ?_
  refine q_iload dL_law_901 rfl ?_
  refine q_iconst (v := nI 2) dL_law_903 rfl ?_
  refine t_iadd_n dL_law_904 ?_
  refine q_sld dL_law_905 (by exact vp_in_nI (by omega) (by omega)) ?_
  refine q_aload_n dL_law_906 rfl ?_
  refine t_callS (M' := mL_told) [.ref g, .int (Sc.2 (nI (i + 1)).toNatClampNeg), .int (Sc.2 (nI (i + 2)).toNatClampNeg), .ref ((o + 17))] [] dL_law_907 wPL_129 wTL_told wNL iL_told oL_told rfl hok (sL_told Sc (mG Γ o ml (th) (s)) n hG hm1 hm4 (Sc.2 (nI (i + 1)).toNatClampNeg) (Sc.2 (nI (i + 2)).toNatClampNeg) hw2) (by omega) (by omega) (Nat.le_of_ble_eq_true rfl) (Nat.le_of_ble_eq_true rfl) (Nat.le_of_ble_eq_true rfl) rfl (fun v1658 h qv1658 hok => ?_) (fun e1659 h qe1659 hok => absurd qe1659 (by intro q; obtain ⟨_, q⟩ := q; cases q))
  obtain ⟨x1660, qx1660⟩ := qv1658
  obtain rfl := Sum.inl.inj qx1660
  refine t_istore [.float 1, .ref g, .ref o, .ref ((o + 17)), .int (nI i), .int (x1660), .retAddr 0] (Or.inr ⟨rfl, dL_law_910⟩) (by decide) rfl ?_
  refine q_aload_n dL_law_912 rfl ?_
  refine q_aload_n_x dL_law_913 rfl ?_
  refine q_iload dL_law_914 rfl ?_
  refine q_iconst (v := nI 1) dL_law_916 rfl ?_
  refine t_iadd_n dL_law_917 ?_
  refine q_sld dL_law_918 (by exact vp_in_nI (by omega) (by omega)) ?_
  refine q_aload_n_x dL_law_919 rfl ?_
  refine q_iload dL_law_920 rfl ?_
  refine q_iconst (v := nI 2) dL_law_922 rfl ?_
  refine t_iadd_n dL_law_923 ?_
  refine q_sld dL_law_924 (by exact vp_in_nI (by omega) (by omega)) ?_
  refine t_callM (M' := mX5_told) [.int (Sc.2 (nI (i + 1)).toNatClampNeg), .int (Sc.2 (nI (i + 2)).toNatClampNeg)] [] dL_law_925 wPL_131v wIX5_told wSX5_told iX5_told oX5_told rfl hok (sX5_told Sc Γ n o ml (th) (s) hB hml (Sc.2 (nI (i + 1)).toNatClampNeg) (Sc.2 (nI (i + 2)).toNatClampNeg)) (Nat.le_of_ble_eq_true rfl) (Nat.le_of_ble_eq_true rfl) (Nat.le_of_ble_eq_true rfl) rfl (fun _ _ _ q => by obtain ⟨q, _⟩ := q; obtain ⟨_, q⟩ := q; cases q) (fun v1662 h thv1662 sv1662 qv1662 hok => ?_)
  obtain ⟨qv1662, hsv1662⟩ := qv1662
  obtain ⟨x1663, qx1663⟩ := qv1662
  obtain rfl := Sum.inl.inj qx1663
  refine t_istore [.float 1, .ref g, .ref o, .ref ((o + 17)), .int (nI i), .int (x1660), .int (x1663)] (Or.inr ⟨rfl, dL_law_928⟩) (by decide) rfl ?_
  refine q_goto (tgt := 944) dL_law_930 (by decide) ?_
  refine q_weak [.float 1, .ref g, .ref o, .ref (o + 17), .int (nI i), .retAddr 0, .retAddr 0] ⟨Or.inl rfl, Or.inl rfl, Or.inl rfl, Or.inl rfl, Or.inl rfl, Or.inr ⟨0, rfl⟩, Or.inr ⟨0, rfl⟩, trivial⟩ ?_
  exact q_less (by omega) (by omega) (hnext Γ f e _ _ h hI (by omega) hok)
set_option maxHeartbeats 4000000 in
theorem arm15 (Sc : q_S) (hS : Sc.1 ≤ 3073) (g o ml : Nat) (hgo : g + 7 + 37 * ml ≤ o) (hm1 : 1 ≤ ml) (hm4 : ml ≤ 4) (n : Nat) (Γ : Nat → q_K) (f e : Nat → Int32) (hI : Inv Γ o g ml f e) (th s i kc ks : Nat) (hs : s ≤ 1600000000) (hi : i + 6 ≤ Sc.1) (h : q_H) (hok : q_ok (mG Γ o ml th s) h) (Q : q_O → q_H → Nat → Prop) (hnext : ∀ (Γ' : Nat → q_K) (f' e' : Nat → Int32) (th' s' : Nat) (h : q_H), Inv Γ' o g ml f' e' → s' ≤ s + 8000 → q_ok (mG Γ' o ml th' s') h → q_A Sc mL_law 944 [.float 1, .ref g, .ref o, .ref (o + 17), .int (nI i), .retAddr 0, .retAddr 0] [] h n kc ks Q) : q_A Sc mL_law 933 [.float 1, .ref g, .ref o, .ref (o + 17), .int (nI i), .retAddr 0, .retAddr 0] [] h n (kc + 4) (ks + 24) Q := by
  obtain ⟨hG0, hB, hE, hw⟩ := id hI
  have hG := (hG0 (mG Γ o ml th s) (fun j hj => if_neg (by omega))).1
  have hM := (hG0 (mG Γ o ml th s) (fun j hj => if_neg (by omega))).2
  have hw2 : mG Γ o ml th s (o + 17) = (5, 1, []) := (if_neg (by omega)).trans hw
  have hml := hm4
  refine q_aload_n dL_law_933 rfl ?_
  obtain ⟨fs, hf1, -⟩ := hok.o hM.1
  refine q_callV (M' := mX4_clear) [] [] kX4 dL_law_934 wPL_132v wIX4_clear wSX4_clear iX4_clear oX4_clear rfl hf1 (eX4_clear Sc _ n hG hM hm1 hm4 h hok) (by omega) (by omega) (Nat.le_of_ble_eq_true rfl) (Nat.le_of_ble_eq_true rfl) (Nat.le_of_ble_eq_true rfl) rfl (fun v h n' hP => ?_) (fun x h n' hP => by cases hP.1)
  obtain ⟨ev, rfl, Γ2, hok, hfr, hf2, hf3, hM2⟩ := hP
  obtain rfl := Sum.inl.inj ev
  have ho2 : Γ2 o = (4, 5, mP o ml th s) := (hf2 o (by omega)).trans mG_o
  have hag : ∀ j, o < j → Γ2 j = Γ j := fun j hj => (hf2 j (by omega)).trans (mG_ne (by omega))
  rw [← mG_self ho2] at hok
  have hB2 := mB_ag hag hB
  have hE2 : mE Γ2 o f e := ⟨(hag _ (by omega)).trans hE.1, (hag _ (by omega)).trans hE.2⟩
  refine q_aload_n dL_law_937 rfl ?_
  obtain ⟨fs, hf1, -⟩ := hok.o mG_o
  refine q_callV (M' := mX5_clear) [] [] kX5 dL_law_938 wPL_135v wIX5_clear wSX5_clear iX5_clear oX5_clear rfl hf1 (eX5_clear Sc Γ2 _ o ml th s hB2 f e hE2 h hok) (by omega) (by omega) (Nat.le_of_ble_eq_true rfl) (Nat.le_of_ble_eq_true rfl) (Nat.le_of_ble_eq_true rfl) rfl (fun v h n' hP => ?_) (fun x h n' hP => by cases hP.1)
  obtain ⟨ev, rfl, hok⟩ := hP
  obtain rfl := Sum.inl.inj ev
  refine q_goto (tgt := 944) dL_law_941 (by decide) ?_
  refine q_less (by omega) (by omega) (hnext (mS Γ2 o z0 z0) z0 z0 0 0 h ⟨fun Γ'' hq => hI.cls (fun j hj => mG_ne (by omega)) hfr hgo hM2 Γ'' (fun j hj => (hq j hj).trans ((gs_ne (by omega)).trans (gs_ne (by omega)))), mB_gs (Or.inr (Or.inl rfl)) (mB_gs (Or.inl rfl) hB2), ⟨(gs_ne (by omega)).trans gs_at, gs_at⟩, (gs_ne (by omega)).trans ((gs_ne (by omega)).trans ((hag _ (by omega)).trans hw))⟩ (by omega) hok)

set_option maxRecDepth 20000 in
set_option maxHeartbeats 4000000 in
theorem arm4 (Sc : q_S) (hS : Sc.1 ≤ 3073) (g o ml : Nat) (hgo : g + 7 + 37 * ml ≤ o) (hm1 : 1 ≤ ml) (hm4 : ml ≤ 4) (n : Nat) (Γ : Nat → q_K) (f e : Nat → Int32) (hI : Inv Γ o g ml f e) (th s i kc ks : Nat) (hs : s ≤ 1600000000) (hi : i + 6 ≤ Sc.1) (h : q_H) (hok : q_ok (mG Γ o ml th s) h) (Q : q_O → q_H → Nat → Prop) (hnext : ∀ (Γ' : Nat → q_K) (f' e' : Nat → Int32) (th' s' : Nat) (h : q_H), Inv Γ' o g ml f' e' → s' ≤ s + 8000 → q_ok (mG Γ' o ml th' s') h → q_A Sc mL_law 944 [.float 1, .ref g, .ref o, .ref (o + 17), .int (nI i), .retAddr 0, .retAddr 0] [] h n kc ks Q) : q_A Sc mL_law 376 [.float 1, .ref g, .ref o, .ref (o + 17), .int (nI i), .retAddr 0, .retAddr 0] [] h n (kc + 4) (ks + 24) Q := by
  obtain ⟨hG0, hB, hE, hw⟩ := id hI
  have hG := (hG0 (mG Γ o ml th s) (fun j hj => if_neg (by omega))).1
  have hM := (hG0 (mG Γ o ml th s) (fun j hj => if_neg (by omega))).2
  have hw2 : mG Γ o ml th s (o + 17) = (5, 1, []) := (if_neg (by omega)).trans hw
  have hml := hm4
  refine q_aload_n dL_law_376 rfl ?_
  refine q_aload_n_x dL_law_377 rfl ?_
  refine q_iload dL_law_378 rfl ?_
  refine q_iconst (v := nI 1) dL_law_380 rfl ?_
  refine t_iadd_n dL_law_381 ?_
  refine q_sld dL_law_382 (by exact vp_in_nI (by omega) (by omega)) ?_
  refine q_aload_n_x dL_law_383 rfl ?_
  refine q_iload dL_law_384 rfl ?_
  refine q_iconst (v := nI 2) dL_law_386 rfl ?_
  refine t_iadd_n dL_law_387 ?_
  refine q_sld dL_law_388 (by exact vp_in_nI (by omega) (by omega)) ?_
  refine q_aload_n_x dL_law_389 rfl ?_
  refine q_iload dL_law_390 rfl ?_
  refine q_iconst (v := nI 3) dL_law_392 rfl ?_
  refine t_iadd_n dL_law_393 ?_
  refine q_sld dL_law_394 (by exact vp_in_nI (by omega) (by omega)) ?_
  refine q_aload_n_x dL_law_395 rfl ?_
  refine q_iload dL_law_396 rfl ?_
  refine q_iconst (v := nI 4) dL_law_398 rfl ?_
  refine t_iadd_n dL_law_399 ?_
  refine q_sld dL_law_400 (by exact vp_in_nI (by omega) (by omega)) ?_
  refine q_if_eq (tgt := 408) dL_law_401 (by decide) (fun c1664 => ?_) (fun c1664 => ?_)
  ·
    refine q_iconst (v := nI 0) dL_law_408 rfl ?_
    refine q_aload_n_x dL_law_409 rfl ?_
    refine q_iload dL_law_410 rfl ?_
    refine q_iconst (v := nI 5) dL_law_412 rfl ?_
    refine t_iadd_n dL_law_413 ?_
    refine q_sld dL_law_414 (by exact vp_in_nI (by omega) (by omega)) ?_
    refine q_aload_n dL_law_415 rfl ?_
    refine q_callS (M' := mL_member) [.ref g, .int (Sc.2 (nI (i + 1)).toNatClampNeg), .int (Sc.2 (nI (i + 2)).toNatClampNeg), .int (Sc.2 (nI (i + 3)).toNatClampNeg), .int (nI 0), .int (Sc.2 (nI (i + 5)).toNatClampNeg), .ref (o + 17)] [] dL_law_416 wPL_90v wTL_member wNL iL_member oL_member rfl (eL_member Sc (mG Γ o ml th s) n hG hM hm1 hm4 (Sc.2 (nI (i + 1)).toNatClampNeg) (Sc.2 (nI (i + 2)).toNatClampNeg) (Sc.2 (nI (i + 3)).toNatClampNeg) (nI 0) (Sc.2 (nI (i + 5)).toNatClampNeg) (Or.inl rfl) (by omega) hw2 h hok) (by omega) (by omega) (Nat.le_of_ble_eq_true rfl) (Nat.le_of_ble_eq_true rfl) (Nat.le_of_ble_eq_true rfl) rfl (fun v h n' hP => ?_) (fun x h n' hP => by obtain ⟨⟨_, e⟩, _⟩ := hP; cases e)
    obtain ⟨⟨x5, ev⟩, rfl, Γ2, hok, hfr, hf2, hf3, hM2⟩ := hP
    obtain rfl := Sum.inl.inj ev
    have ho2 : Γ2 o = (4, 5, mP o ml th s) := (hf2 o (by omega)).trans mG_o
    have hag : ∀ j, o < j → Γ2 j = Γ j := fun j hj => (hf2 j (by omega)).trans (mG_ne (by omega))
    rw [← mG_self ho2] at hok
    have hB2 := mB_ag hag hB
    have hE2 : mE Γ2 o f e := ⟨(hag _ (by omega)).trans hE.1, (hag _ (by omega)).trans hE.2⟩
    refine t_istore [.float 1, .ref g, .ref o, .ref (o + 17), .int (nI i), .int x5, .retAddr 0] (Or.inr ⟨rfl, dL_law_419⟩) (by decide) rfl ?_
    refine q_aload_n dL_law_421 rfl ?_
    refine q_aload_n_x dL_law_422 rfl ?_
    refine q_iload dL_law_423 rfl ?_
    refine q_iconst (v := nI 1) dL_law_425 rfl ?_
    refine t_iadd_n dL_law_426 ?_
    refine q_sld dL_law_427 (by exact vp_in_nI (by omega) (by omega)) ?_
    refine q_aload_n_x dL_law_428 rfl ?_
    refine q_iload dL_law_429 rfl ?_
    refine q_iconst (v := nI 2) dL_law_431 rfl ?_
    refine t_iadd_n dL_law_432 ?_
    refine q_sld dL_law_433 (by exact vp_in_nI (by omega) (by omega)) ?_
    refine q_aload_n_x dL_law_434 rfl ?_
    refine q_iload dL_law_435 rfl ?_
    refine q_iconst (v := nI 3) dL_law_437 rfl ?_
    refine t_iadd_n dL_law_438 ?_
    refine q_sld dL_law_439 (by exact vp_in_nI (by omega) (by omega)) ?_
    refine q_aload_n_x dL_law_440 rfl ?_
    refine q_iload dL_law_441 rfl ?_
    refine q_iconst (v := nI 4) dL_law_443 rfl ?_
    refine t_iadd_n dL_law_444 ?_
    refine q_sld dL_law_445 (by exact vp_in_nI (by omega) (by omega)) ?_
    refine q_if_eq (tgt := 453) dL_law_446 (by decide) (fun c1665 => ?_) (fun c1665 => ?_)
    rotate_left
    · exact absurd c1664 c1665
    refine q_iconst (v := nI 0) dL_law_453 rfl ?_
    refine q_aload_n_x dL_law_454 rfl ?_
    refine q_iload dL_law_455 rfl ?_
    refine q_iconst (v := nI 5) dL_law_457 rfl ?_
    refine t_iadd_n dL_law_458 ?_
    refine q_sld dL_law_459 (by exact vp_in_nI (by omega) (by omega)) ?_
    obtain ⟨fs9, hf9, -⟩ := hok.o mG_o
    refine q_callV (M' := mX5_member) [.int (Sc.2 (nI (i + 1)).toNatClampNeg), .int (Sc.2 (nI (i + 2)).toNatClampNeg), .int (Sc.2 (nI (i + 3)).toNatClampNeg), .int (nI 0), .int (Sc.2 (nI (i + 5)).toNatClampNeg)] [] kX5 dL_law_460 wPL_93v wIX5_member wSX5_member iX5_member oX5_member rfl hf9 (eX5_member Sc Γ2 _ o ml th s f e hB2 hE2 hml hs (Sc.2 (nI (i + 1)).toNatClampNeg) (Sc.2 (nI (i + 2)).toNatClampNeg) (Sc.2 (nI (i + 3)).toNatClampNeg) (nI 0) (Sc.2 (nI (i + 5)).toNatClampNeg) (Or.inl rfl) h hok) (by omega) (by omega) (Nat.le_of_ble_eq_true rfl) (Nat.le_of_ble_eq_true rfl) (Nat.le_of_ble_eq_true rfl) rfl (fun v h n' hP => ?_) (fun x h n' hP => by obtain ⟨_, _, ⟨_, e⟩, _⟩ := hP; cases e)
    obtain ⟨th', s', ⟨x6, ev⟩, hs6, hok, rfl⟩ := hP
    obtain rfl := Sum.inl.inj ev
    refine t_istore [.float 1, .ref g, .ref o, .ref (o + 17), .int (nI i), .int x5, .int x6] (Or.inr ⟨rfl, dL_law_463⟩) (by decide) rfl ?_
    refine q_goto (tgt := 944) dL_law_465 (by decide) ?_
    refine q_weak [.float 1, .ref g, .ref o, .ref (o + 17), .int (nI i), .retAddr 0, .retAddr 0] ⟨Or.inl rfl, Or.inl rfl, Or.inl rfl, Or.inl rfl, Or.inl rfl, Or.inr ⟨0, rfl⟩, Or.inr ⟨0, rfl⟩, trivial⟩ ?_
    refine q_less (by omega) (by omega) (hnext _ _ _ th' s' h ⟨fun Γ'' hq => hI.cls (fun j hj => mG_ne (by omega)) hfr hgo hM2 Γ'' (fun j hj => (hq j hj).trans ((gs_ne (by omega)).trans (gs_ne (by omega)))), mB_gs (Or.inr (Or.inl rfl)) (mB_gs (Or.inl rfl) hB2), ⟨(gs_ne (by omega)).trans gs_at, gs_at⟩, (gs_ne (by omega)).trans ((gs_ne (by omega)).trans ((hag _ (by omega)).trans hw))⟩ (by omega) hok)
  ·
    refine q_iconst (v := nI 1) dL_law_404 rfl ?_
    refine q_goto (tgt := 409) dL_law_405 (by decide) ?_
    refine q_aload_n_x dL_law_409 rfl ?_
    refine q_iload dL_law_410 rfl ?_
    refine q_iconst (v := nI 5) dL_law_412 rfl ?_
    refine t_iadd_n dL_law_413 ?_
    refine q_sld dL_law_414 (by exact vp_in_nI (by omega) (by omega)) ?_
    refine q_aload_n dL_law_415 rfl ?_
    refine q_callS (M' := mL_member) [.ref g, .int (Sc.2 (nI (i + 1)).toNatClampNeg), .int (Sc.2 (nI (i + 2)).toNatClampNeg), .int (Sc.2 (nI (i + 3)).toNatClampNeg), .int (nI 1), .int (Sc.2 (nI (i + 5)).toNatClampNeg), .ref (o + 17)] [] dL_law_416 wPL_90v wTL_member wNL iL_member oL_member rfl (eL_member Sc (mG Γ o ml th s) n hG hM hm1 hm4 (Sc.2 (nI (i + 1)).toNatClampNeg) (Sc.2 (nI (i + 2)).toNatClampNeg) (Sc.2 (nI (i + 3)).toNatClampNeg) (nI 1) (Sc.2 (nI (i + 5)).toNatClampNeg) (Or.inr rfl) (by omega) hw2 h hok) (by omega) (by omega) (Nat.le_of_ble_eq_true rfl) (Nat.le_of_ble_eq_true rfl) (Nat.le_of_ble_eq_true rfl) rfl (fun v h n' hP => ?_) (fun x h n' hP => by obtain ⟨⟨_, e⟩, _⟩ := hP; cases e)
    obtain ⟨⟨x5, ev⟩, rfl, Γ2, hok, hfr, hf2, hf3, hM2⟩ := hP
    obtain rfl := Sum.inl.inj ev
    have ho2 : Γ2 o = (4, 5, mP o ml th s) := (hf2 o (by omega)).trans mG_o
    have hag : ∀ j, o < j → Γ2 j = Γ j := fun j hj => (hf2 j (by omega)).trans (mG_ne (by omega))
    rw [← mG_self ho2] at hok
    have hB2 := mB_ag hag hB
    have hE2 : mE Γ2 o f e := ⟨(hag _ (by omega)).trans hE.1, (hag _ (by omega)).trans hE.2⟩
    refine t_istore [.float 1, .ref g, .ref o, .ref (o + 17), .int (nI i), .int x5, .retAddr 0] (Or.inr ⟨rfl, dL_law_419⟩) (by decide) rfl ?_
    refine q_aload_n dL_law_421 rfl ?_
    refine q_aload_n_x dL_law_422 rfl ?_
    refine q_iload dL_law_423 rfl ?_
    refine q_iconst (v := nI 1) dL_law_425 rfl ?_
    refine t_iadd_n dL_law_426 ?_
    refine q_sld dL_law_427 (by exact vp_in_nI (by omega) (by omega)) ?_
    refine q_aload_n_x dL_law_428 rfl ?_
    refine q_iload dL_law_429 rfl ?_
    refine q_iconst (v := nI 2) dL_law_431 rfl ?_
    refine t_iadd_n dL_law_432 ?_
    refine q_sld dL_law_433 (by exact vp_in_nI (by omega) (by omega)) ?_
    refine q_aload_n_x dL_law_434 rfl ?_
    refine q_iload dL_law_435 rfl ?_
    refine q_iconst (v := nI 3) dL_law_437 rfl ?_
    refine t_iadd_n dL_law_438 ?_
    refine q_sld dL_law_439 (by exact vp_in_nI (by omega) (by omega)) ?_
    refine q_aload_n_x dL_law_440 rfl ?_
    refine q_iload dL_law_441 rfl ?_
    refine q_iconst (v := nI 4) dL_law_443 rfl ?_
    refine t_iadd_n dL_law_444 ?_
    refine q_sld dL_law_445 (by exact vp_in_nI (by omega) (by omega)) ?_
    refine q_if_eq (tgt := 453) dL_law_446 (by decide) (fun c1666 => ?_) (fun c1666 => ?_)
    · exact absurd c1666 c1664
    refine q_iconst (v := nI 1) dL_law_449 rfl ?_
    refine q_goto (tgt := 454) dL_law_450 (by decide) ?_
    refine q_aload_n_x dL_law_454 rfl ?_
    refine q_iload dL_law_455 rfl ?_
    refine q_iconst (v := nI 5) dL_law_457 rfl ?_
    refine t_iadd_n dL_law_458 ?_
    refine q_sld dL_law_459 (by exact vp_in_nI (by omega) (by omega)) ?_
    obtain ⟨fs9, hf9, -⟩ := hok.o mG_o
    refine q_callV (M' := mX5_member) [.int (Sc.2 (nI (i + 1)).toNatClampNeg), .int (Sc.2 (nI (i + 2)).toNatClampNeg), .int (Sc.2 (nI (i + 3)).toNatClampNeg), .int (nI 1), .int (Sc.2 (nI (i + 5)).toNatClampNeg)] [] kX5 dL_law_460 wPL_93v wIX5_member wSX5_member iX5_member oX5_member rfl hf9 (eX5_member Sc Γ2 _ o ml th s f e hB2 hE2 hml hs (Sc.2 (nI (i + 1)).toNatClampNeg) (Sc.2 (nI (i + 2)).toNatClampNeg) (Sc.2 (nI (i + 3)).toNatClampNeg) (nI 1) (Sc.2 (nI (i + 5)).toNatClampNeg) (Or.inr rfl) h hok) (by omega) (by omega) (Nat.le_of_ble_eq_true rfl) (Nat.le_of_ble_eq_true rfl) (Nat.le_of_ble_eq_true rfl) rfl (fun v h n' hP => ?_) (fun x h n' hP => by obtain ⟨_, _, ⟨_, e⟩, _⟩ := hP; cases e)
    obtain ⟨th', s', ⟨x6, ev⟩, hs6, hok, rfl⟩ := hP
    obtain rfl := Sum.inl.inj ev
    refine t_istore [.float 1, .ref g, .ref o, .ref (o + 17), .int (nI i), .int x5, .int x6] (Or.inr ⟨rfl, dL_law_463⟩) (by decide) rfl ?_
    refine q_goto (tgt := 944) dL_law_465 (by decide) ?_
    refine q_weak [.float 1, .ref g, .ref o, .ref (o + 17), .int (nI i), .retAddr 0, .retAddr 0] ⟨Or.inl rfl, Or.inl rfl, Or.inl rfl, Or.inl rfl, Or.inl rfl, Or.inr ⟨0, rfl⟩, Or.inr ⟨0, rfl⟩, trivial⟩ ?_
    refine q_less (by omega) (by omega) (hnext _ _ _ th' s' h ⟨fun Γ'' hq => hI.cls (fun j hj => mG_ne (by omega)) hfr hgo hM2 Γ'' (fun j hj => (hq j hj).trans ((gs_ne (by omega)).trans (gs_ne (by omega)))), mB_gs (Or.inr (Or.inl rfl)) (mB_gs (Or.inl rfl) hB2), ⟨(gs_ne (by omega)).trans gs_at, gs_at⟩, (gs_ne (by omega)).trans ((gs_ne (by omega)).trans ((hag _ (by omega)).trans hw))⟩ (by omega) hok)
set_option maxRecDepth 20000 in
set_option maxHeartbeats 4000000 in
theorem arm5 (Sc : q_S) (hS : Sc.1 ≤ 3073) (g o ml : Nat) (hgo : g + 7 + 37 * ml ≤ o) (hm1 : 1 ≤ ml) (hm4 : ml ≤ 4) (n : Nat) (Γ : Nat → q_K) (f e : Nat → Int32) (hI : Inv Γ o g ml f e) (th s i kc ks : Nat) (hs : s ≤ 1600000000) (hi : i + 6 ≤ Sc.1) (h : q_H) (hok : q_ok (mG Γ o ml th s) h) (Q : q_O → q_H → Nat → Prop) (hnext : ∀ (Γ' : Nat → q_K) (f' e' : Nat → Int32) (th' s' : Nat) (h : q_H), Inv Γ' o g ml f' e' → s' ≤ s + 8000 → q_ok (mG Γ' o ml th' s') h → q_A Sc mL_law 944 [.float 1, .ref g, .ref o, .ref (o + 17), .int (nI i), .retAddr 0, .retAddr 0] [] h n kc ks Q) : q_A Sc mL_law 468 [.float 1, .ref g, .ref o, .ref (o + 17), .int (nI i), .retAddr 0, .retAddr 0] [] h n (kc + 4) (ks + 24) Q := by
  obtain ⟨hG0, hB, hE, hw⟩ := id hI
  have hG := (hG0 (mG Γ o ml th s) (fun j hj => if_neg (by omega))).1
  have hM := (hG0 (mG Γ o ml th s) (fun j hj => if_neg (by omega))).2
  have hw2 : mG Γ o ml th s (o + 17) = (5, 1, []) := (if_neg (by omega)).trans hw
  have hml := hm4
  refine q_aload_n dL_law_468 rfl ?_
  refine q_aload_n_x dL_law_469 rfl ?_
  refine q_iload dL_law_470 rfl ?_
  refine q_iconst (v := nI 1) dL_law_472 rfl ?_
  refine t_iadd_n dL_law_473 ?_
  refine q_sld dL_law_474 (by exact vp_in_nI (by omega) (by omega)) ?_
  refine q_aload_n_x dL_law_475 rfl ?_
  refine q_iload dL_law_476 rfl ?_
  refine q_iconst (v := nI 2) dL_law_478 rfl ?_
  refine t_iadd_n dL_law_479 ?_
  refine q_sld dL_law_480 (by exact vp_in_nI (by omega) (by omega)) ?_
  refine q_aload_n dL_law_481 rfl ?_
  refine q_callS (M' := mL_answer) [.ref g, .int (Sc.2 (nI (i + 1)).toNatClampNeg), .int (Sc.2 (nI (i + 2)).toNatClampNeg), .ref (o + 17)] [] dL_law_482 wPL_94v wTL_answer wNL iL_answer oL_answer rfl (eL_answer Sc (mG Γ o ml th s) n hG hM hm1 hm4 (Sc.2 (nI (i + 1)).toNatClampNeg) (Sc.2 (nI (i + 2)).toNatClampNeg) hw2 h hok) (by omega) (by omega) (Nat.le_of_ble_eq_true rfl) (Nat.le_of_ble_eq_true rfl) (Nat.le_of_ble_eq_true rfl) rfl (fun v h n' hP => ?_) (fun x h n' hP => by obtain ⟨_, _, e, _⟩ := hP; cases e)
  obtain ⟨k, K, ev, hok, hK, hkk, rfl⟩ := hP
  obtain rfl := Sum.inl.inj ev
  have hok := mG_gs (by omega) hok
  have hE2 : mE (gset Γ (o + 17) K) o f e := ⟨(gs_ne (by omega)).trans hE.1, (gs_ne (by omega)).trans hE.2⟩
  have hB2 : mB (gset Γ (o + 17) K) o := mB_gs (Or.inr (Or.inr (by omega))) hB
  refine t_istore [.float 1, .ref g, .ref o, .ref (o + 17), .int (nI i), .int (nI k), .retAddr 0] (Or.inr ⟨rfl, dL_law_485⟩) (by decide) rfl ?_
  refine q_aload_n dL_law_487 rfl ?_
  refine q_aload_n_x dL_law_488 rfl ?_
  refine q_iload dL_law_489 rfl ?_
  refine q_iconst (v := nI 1) dL_law_491 rfl ?_
  refine t_iadd_n dL_law_492 ?_
  refine q_sld dL_law_493 (by exact vp_in_nI (by omega) (by omega)) ?_
  refine q_aload_n_x dL_law_494 rfl ?_
  refine q_iload dL_law_495 rfl ?_
  refine q_iconst (v := nI 2) dL_law_497 rfl ?_
  refine t_iadd_n dL_law_498 ?_
  refine q_sld dL_law_499 (by exact vp_in_nI (by omega) (by omega)) ?_
  obtain ⟨fs9, hf9, -⟩ := hok.o mG_o
  refine q_callV (M' := mX5_answer) [.int (Sc.2 (nI (i + 1)).toNatClampNeg), .int (Sc.2 (nI (i + 2)).toNatClampNeg)] [] kX5 dL_law_500 wPL_97v wIX5_answer wSX5_answer iX5_answer oX5_answer rfl hf9 (eX5_answer Sc (gset Γ (o + 17) K) _ o ml th s f e hB2 hE2 hml hs (Sc.2 (nI (i + 1)).toNatClampNeg) (Sc.2 (nI (i + 2)).toNatClampNeg) h hok) (by omega) (by omega) (Nat.le_of_ble_eq_true rfl) (Nat.le_of_ble_eq_true rfl) (Nat.le_of_ble_eq_true rfl) rfl (fun v h n' hP => ?_) (fun x h n' hP => by obtain ⟨_, _, ⟨_, _, e⟩ | ⟨_, _, _, e⟩, _⟩ := hP <;> cases e)
  obtain ⟨th', s', hth, hs2, hok, rfl⟩ := hP
  have hcmp : th' = k ∧ ∃ x, v = some (.int x) ∧ (k = 0 → ∃ y : Nat, K = (7, y, []) ∧ x = nI y) := by
    rcases hth with ⟨hy, rfl, ew⟩ | ⟨hn, rfl, x, ew⟩
    · rcases hkk with ⟨-, rfl, hKy⟩ | ⟨hn, -⟩
      · exact ⟨rfl, _, Sum.inl.inj ew, fun _ => ⟨_, hKy, rfl⟩⟩
      · exact absurd hy hn
    · rcases hkk with ⟨hy, -⟩ | ⟨-, rfl⟩
      · exact absurd hy hn
      · exact ⟨rfl, x, Sum.inl.inj ew, fun q => absurd q (by decide)⟩
  obtain ⟨rfl, x, rfl, hc0⟩ := hcmp
  refine t_istore [.float 1, .ref g, .ref o, .ref (o + 17), .int (nI i), (.int (nI th')), .int x] (Or.inr ⟨rfl, dL_law_503⟩) (by decide) rfl ?_
  refine q_aload_n dL_law_505 rfl ?_
  refine t_callM (M' := mX5_thrown) [] [] dL_law_506 wPL_98v wIX5_thrown wSX5_thrown iX5_thrown oX5_thrown rfl hok (eX5_thrown Sc _ _ o ml th' _) (Nat.le_of_ble_eq_true rfl) (Nat.le_of_ble_eq_true rfl) (Nat.le_of_ble_eq_true rfl) rfl (fun _ _ _ q => by cases q.1) (fun v h th2 s2 qv hok => ?_)
  obtain ⟨ev, et, es⟩ := qv
  rw [et, es] at hok
  obtain rfl := Sum.inl.inj ev
  refine q_iload dL_law_509 rfl ?_
  refine q_icmp_eq (tgt := 516) dL_law_511 (by decide) (fun c => ?_) (fun c => absurd rfl c)
  have hfin : q_A Sc mL_law 533 [.float 1, .ref g, .ref o, .ref (o + 17), .int (nI i), (.int (nI th')), .int x] [] h n' (kc + 4 - 2) (ks + 24 - 12) Q := by
    refine q_goto (tgt := 944) dL_law_533 (by decide) ?_
    refine q_weak [.float 1, .ref g, .ref o, .ref (o + 17), .int (nI i), .retAddr 0, .retAddr 0] ⟨Or.inl rfl, Or.inl rfl, Or.inl rfl, Or.inl rfl, Or.inl rfl, Or.inr ⟨0, rfl⟩, Or.inr ⟨0, rfl⟩, trivial⟩ ?_
    exact q_less (by omega) (by omega) (hnext Γ f e _ _ h hI (by omega) (mG_back hw hK (by omega) hok))
  refine q_iload dL_law_516 rfl ?_
  refine q_if_ne (tgt := 533) dL_law_518 (by decide) (fun c => hfin) (fun c => ?_)
  have hk0 : th' = 0 := by
    rcases hkk with ⟨-, e, -⟩ | ⟨-, e⟩
    · exact e
    · subst e; exact absurd c (by decide)
  obtain ⟨y, hKy, hxy⟩ := hc0 hk0
  have h7 : h (o + 17) = .inr (.inr (.inr (5, [(nI y).toInt64]))) := by
    have h8 := hok (o + 17)
    rw [show mG (gset Γ (o + 17) K) o ml th' s' (o + 17) = gset Γ (o + 17) K (o + 17) from if_neg (by omega), gs_at, hKy] at h8
    exact h8
  refine q_aload_n dL_law_521 rfl ?_
  refine q_iconst (v := nI 0) dL_law_522 rfl ?_
  refine q_lald dL_law_523 h7 rfl (show vp_in (nI 0) 1 from vp_in_nI (by decide) (by decide)) ?_
  rw [show [(nI y).toInt64].getD (nI 0).toNatClampNeg 0 = (nI y).toInt64 from by rw [nI_clamp (by decide)]; rfl]
  refine q_iload dL_law_524 rfl ?_
  refine q_i2l dL_law_526 ?_
  refine q_lcmp dL_law_527 ?_
  rw [show lg_cmp (nI y).toInt64 x.toInt64 = 0 from by rw [hxy]; exact lg_self _]
  exact q_if_eq (tgt := 533) dL_law_528 (by decide) (fun _ => hfin) (fun q => absurd rfl q)

