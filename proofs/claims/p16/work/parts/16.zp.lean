theorem lg_self (a : Int64) : lg_cmp a a = 0 := by simp [lg_cmp]
theorem uX5_thrown (Sc : q_S) (Γ : Nat → q_K) (n : Nat) (V : q_V) (o ml : Nat) (H : sM Γ o ml) (hm1 : 1 ≤ ml) (hml : ml ≤ 4) (x : Int32) (hx : V o 0 = x) : q_fn Sc Γ mX5_thrown [.ref o] n V (some (.int x)) V := by
  rw [← hx]
  exact eX5_thrown Sc Γ n V o ml H hm1 hml
theorem sb_w {V S : q_V} {X many o b : Nat} {x : Int32} (hXo : X + 7 + 37 * many = o) (hS : SB V o b) (hC : aC (X + 2 + 37 * many + 5) V S) : SB (vset S (o + 17) 0 x) o b := SB.cg hS (by rw [vs_nr (by omega), hC o (by omega)])
theorem rel_w {V : q_V} {X many o : Nat} {x : Int32} (hm4 : many ≤ 4) (h : Rel V V X many o) : Rel V (vset V (o + 17) 0 x) X many o := h.cg hm4 (fun _ _ _ => rfl) (fun j q h1 h2 h3 => by rw [vs_nr (by omega)])
set_option maxRecDepth 20000 in
set_option maxHeartbeats 4000000 in
theorem arm0 (Sc : q_S) (hS : Sc.1 ≤ 3073) (Γ : Nat → q_K) (n X o many : Nat) (HG : sGF Γ X many) (HM : sM Γ o many) (hw : Γ (o + 17) = (5, 1, [])) (hm1 : 1 ≤ many) (hm4 : many ≤ 4) (hXo : X + 7 + 37 * many = o) (V : q_V) (b i kc ks : Nat) (hb : b + 8004 ≤ 2000000000) (hi : i + 6 ≤ Sc.1) (hR : Rel V V X many o) (hSB : SB V o b) (h : q_H) (hok : q_ok (gX Γ V) h) (Q : q_O → q_H → Nat → Prop) (hnext : ∀ (V' : q_V) (h : q_H), Rel V' V' X many o → SB V' o (b + 8004) → q_ok (gX Γ V') h → q_A Sc mL_law 944 [.float 1, .ref X, .ref o, .ref (o + 17), .int (nI i), .retAddr 0, .retAddr 0] [] h n kc ks Q) : q_A Sc mL_law 128 [.float 1, .ref X, .ref o, .ref (o + 17), .int (nI i), .retAddr 0, .retAddr 0] [] h n (kc + 4) (ks + 24) Q := by
  obtain ⟨p1, hp1⟩ : ∃ p, p = Sc.2 (nI (i + 1)).toNatClampNeg := ⟨_, rfl⟩
  obtain ⟨p2, hp2⟩ : ∃ p, p = Sc.2 (nI (i + 2)).toNatClampNeg := ⟨_, rfl⟩
  obtain ⟨p3, hp3⟩ : ∃ p, p = Sc.2 (nI (i + 3)).toNatClampNeg := ⟨_, rfl⟩
  obtain ⟨p4, hp4⟩ : ∃ p, p = Sc.2 (nI (i + 4)).toNatClampNeg := ⟨_, rfl⟩
  obtain ⟨p5, hp5⟩ : ∃ p, p = Sc.2 (nI (i + 5)).toNatClampNeg := ⟨_, rfl⟩
  refine q_aload_n dL_law_128 rfl ?_
  refine q_aload_n_x dL_law_129 rfl ?_
  refine q_iload dL_law_130 rfl ?_
  refine q_iconst (v := nI 1) dL_law_132 rfl ?_
  refine t_iadd_n dL_law_133 ?_
  refine q_sld dL_law_134 (by exact vp_in_nI (by omega) (by omega)) ?_
  rw [← hp1]
  refine q_aload_n_x dL_law_135 rfl ?_
  refine q_iload dL_law_136 rfl ?_
  refine q_iconst (v := nI 2) dL_law_138 rfl ?_
  refine t_iadd_n dL_law_139 ?_
  refine q_sld dL_law_140 (by exact vp_in_nI (by omega) (by omega)) ?_
  rw [← hp2]
  refine q_aload_n_x dL_law_141 rfl ?_
  refine q_iload dL_law_142 rfl ?_
  refine q_iconst (v := nI 3) dL_law_144 rfl ?_
  refine t_iadd_n dL_law_145 ?_
  refine q_sld dL_law_146 (by exact vp_in_nI (by omega) (by omega)) ?_
  rw [← hp3]
  refine q_aload_n_x dL_law_147 rfl ?_
  refine q_iload dL_law_148 rfl ?_
  refine q_iconst (v := nI 4) dL_law_150 rfl ?_
  refine t_iadd_n dL_law_151 ?_
  refine q_sld dL_law_152 (by exact vp_in_nI (by omega) (by omega)) ?_
  rw [← hp4]
  refine q_aload_n dL_law_153 rfl ?_
  refine w_callS (M' := mL_settings) [.ref X, .int (p1), .int (p2), .int (p3), .int (p4), .ref (o + 17)] [] dL_law_154 wPL_75 wTL_settings wNL iL_settings oL_settings rfl hok (hL_settings Sc Γ n V X many HG hm1 hm4 p1 p2 p3 p4 (o + 17) hw) (by omega) (by omega) (Nat.le_of_ble_eq_true rfl) (Nat.le_of_ble_eq_true rfl) (Nat.le_of_ble_eq_true rfl) rfl (fun v h F hp hok => ?_) (fun x h F hp hok => ?_)
  rotate_left
  · rcases hp with ⟨-, e, -⟩ | ⟨-, -, e, -⟩ | ⟨-, -, e, -⟩ <;> cases e
  rcases hp with ⟨c1, e, rfl⟩ | ⟨c1, c2, e, rfl⟩ | ⟨c1, c2, e, rfl⟩
  ·
    obtain rfl := Sum.inl.inj e
    refine t_istore [.float 1, .ref X, .ref o, .ref (o + 17), .int (nI i), .int (nI 1), .retAddr 0] (Or.inr ⟨rfl, dL_law_157⟩) (by decide) rfl ?_
    refine q_aload_n dL_law_159 rfl ?_
    refine q_aload_n_x dL_law_160 rfl ?_
    refine q_iload dL_law_161 rfl ?_
    refine q_iconst (v := nI 1) dL_law_163 rfl ?_
    refine t_iadd_n dL_law_164 ?_
    refine q_sld dL_law_165 (by exact vp_in_nI (by omega) (by omega)) ?_
    rw [← hp1]
    refine q_aload_n_x dL_law_166 rfl ?_
    refine q_iload dL_law_167 rfl ?_
    refine q_iconst (v := nI 2) dL_law_169 rfl ?_
    refine t_iadd_n dL_law_170 ?_
    refine q_sld dL_law_171 (by exact vp_in_nI (by omega) (by omega)) ?_
    rw [← hp2]
    refine q_aload_n_x dL_law_172 rfl ?_
    refine q_iload dL_law_173 rfl ?_
    refine q_iconst (v := nI 3) dL_law_175 rfl ?_
    refine t_iadd_n dL_law_176 ?_
    refine q_sld dL_law_177 (by exact vp_in_nI (by omega) (by omega)) ?_
    rw [← hp3]
    refine q_aload_n_x dL_law_178 rfl ?_
    refine q_iload dL_law_179 rfl ?_
    refine q_iconst (v := nI 4) dL_law_181 rfl ?_
    refine t_iadd_n dL_law_182 ?_
    refine q_sld dL_law_183 (by exact vp_in_nI (by omega) (by omega)) ?_
    rw [← hp4]
    refine w_callV (M' := mX5_settings) [.int (p1), .int (p2), .int (p3), .int (p4)] [] kX5 dL_law_184 wPL_78v wIX5_settings wSX5_settings iX5_settings oX5_settings rfl hok HM.1 (pX5_settings Sc Γ n V o many HM hm1 hm4 p1 p2 p3 p4) (Nat.zero_le _) (Nat.zero_le _) (Nat.le_of_ble_eq_true rfl) (Nat.le_of_ble_eq_true rfl) (Nat.le_of_ble_eq_true rfl) rfl (fun v h F hp hok => ?_) (fun x h F hp hok => by rcases hp with ⟨-, e, -⟩ | ⟨-, -, e, -⟩ | ⟨-, -, e, -⟩ <;> cases e)
    rcases hp with ⟨d1, e, rfl⟩ | ⟨d1, d2, e, rfl⟩ | ⟨d1, d2, e, rfl⟩
    ·
      obtain rfl := Sum.inl.inj e
      refine t_istore [.float 1, .ref X, .ref o, .ref (o + 17), .int (nI i), .int (nI 1), .int (nI 0)] (Or.inr ⟨rfl, dL_law_187⟩) (by decide) rfl ?_
      refine q_goto (tgt := 944) dL_law_189 (by decide) ?_
      refine q_weak [.float 1, .ref X, .ref o, .ref (o + 17), .int (nI i), .retAddr 0, .retAddr 0] ⟨Or.inl rfl, Or.inl rfl, Or.inl rfl, Or.inl rfl, Or.inl rfl, Or.inr ⟨0, rfl⟩, Or.inr ⟨0, rfl⟩, trivial⟩ ?_
      exact q_less (by omega) (by omega) (hnext _ h (rel_bad hXo hm4 hR) (SB.mo (sb_bad hSB) (by omega)) hok)
    ·
      exact absurd d1 c1
    ·
      exact absurd d1 c1
  ·
    obtain rfl := Sum.inl.inj e
    refine t_istore [.float 1, .ref X, .ref o, .ref (o + 17), .int (nI i), .int (nI 2), .retAddr 0] (Or.inr ⟨rfl, dL_law_157⟩) (by decide) rfl ?_
    refine q_aload_n dL_law_159 rfl ?_
    refine q_aload_n_x dL_law_160 rfl ?_
    refine q_iload dL_law_161 rfl ?_
    refine q_iconst (v := nI 1) dL_law_163 rfl ?_
    refine t_iadd_n dL_law_164 ?_
    refine q_sld dL_law_165 (by exact vp_in_nI (by omega) (by omega)) ?_
    rw [← hp1]
    refine q_aload_n_x dL_law_166 rfl ?_
    refine q_iload dL_law_167 rfl ?_
    refine q_iconst (v := nI 2) dL_law_169 rfl ?_
    refine t_iadd_n dL_law_170 ?_
    refine q_sld dL_law_171 (by exact vp_in_nI (by omega) (by omega)) ?_
    rw [← hp2]
    refine q_aload_n_x dL_law_172 rfl ?_
    refine q_iload dL_law_173 rfl ?_
    refine q_iconst (v := nI 3) dL_law_175 rfl ?_
    refine t_iadd_n dL_law_176 ?_
    refine q_sld dL_law_177 (by exact vp_in_nI (by omega) (by omega)) ?_
    rw [← hp3]
    refine q_aload_n_x dL_law_178 rfl ?_
    refine q_iload dL_law_179 rfl ?_
    refine q_iconst (v := nI 4) dL_law_181 rfl ?_
    refine t_iadd_n dL_law_182 ?_
    refine q_sld dL_law_183 (by exact vp_in_nI (by omega) (by omega)) ?_
    rw [← hp4]
    refine w_callV (M' := mX5_settings) [.int (p1), .int (p2), .int (p3), .int (p4)] [] kX5 dL_law_184 wPL_78v wIX5_settings wSX5_settings iX5_settings oX5_settings rfl hok HM.1 (pX5_settings Sc Γ n V o many HM hm1 hm4 p1 p2 p3 p4) (Nat.zero_le _) (Nat.zero_le _) (Nat.le_of_ble_eq_true rfl) (Nat.le_of_ble_eq_true rfl) (Nat.le_of_ble_eq_true rfl) rfl (fun v h F hp hok => ?_) (fun x h F hp hok => by rcases hp with ⟨-, e, -⟩ | ⟨-, -, e, -⟩ | ⟨-, -, e, -⟩ <;> cases e)
    rcases hp with ⟨d1, e, rfl⟩ | ⟨d1, d2, e, rfl⟩ | ⟨d1, d2, e, rfl⟩
    ·
      exact absurd c1 d1
    ·
      obtain rfl := Sum.inl.inj e
      refine t_istore [.float 1, .ref X, .ref o, .ref (o + 17), .int (nI i), .int (nI 2), .int (nI 0)] (Or.inr ⟨rfl, dL_law_187⟩) (by decide) rfl ?_
      refine q_goto (tgt := 944) dL_law_189 (by decide) ?_
      refine q_weak [.float 1, .ref X, .ref o, .ref (o + 17), .int (nI i), .retAddr 0, .retAddr 0] ⟨Or.inl rfl, Or.inl rfl, Or.inl rfl, Or.inl rfl, Or.inl rfl, Or.inr ⟨0, rfl⟩, Or.inr ⟨0, rfl⟩, trivial⟩ ?_
      exact q_less (by omega) (by omega) (hnext _ h (rel_bad hXo hm4 hR) (SB.mo (sb_bad hSB) (by omega)) hok)
    ·
      exact absurd d2 c2
  ·
    obtain rfl := Sum.inl.inj e
    refine t_istore [.float 1, .ref X, .ref o, .ref (o + 17), .int (nI i), .int (nI 0), .retAddr 0] (Or.inr ⟨rfl, dL_law_157⟩) (by decide) rfl ?_
    refine q_aload_n dL_law_159 rfl ?_
    refine q_aload_n_x dL_law_160 rfl ?_
    refine q_iload dL_law_161 rfl ?_
    refine q_iconst (v := nI 1) dL_law_163 rfl ?_
    refine t_iadd_n dL_law_164 ?_
    refine q_sld dL_law_165 (by exact vp_in_nI (by omega) (by omega)) ?_
    rw [← hp1]
    refine q_aload_n_x dL_law_166 rfl ?_
    refine q_iload dL_law_167 rfl ?_
    refine q_iconst (v := nI 2) dL_law_169 rfl ?_
    refine t_iadd_n dL_law_170 ?_
    refine q_sld dL_law_171 (by exact vp_in_nI (by omega) (by omega)) ?_
    rw [← hp2]
    refine q_aload_n_x dL_law_172 rfl ?_
    refine q_iload dL_law_173 rfl ?_
    refine q_iconst (v := nI 3) dL_law_175 rfl ?_
    refine t_iadd_n dL_law_176 ?_
    refine q_sld dL_law_177 (by exact vp_in_nI (by omega) (by omega)) ?_
    rw [← hp3]
    refine q_aload_n_x dL_law_178 rfl ?_
    refine q_iload dL_law_179 rfl ?_
    refine q_iconst (v := nI 4) dL_law_181 rfl ?_
    refine t_iadd_n dL_law_182 ?_
    refine q_sld dL_law_183 (by exact vp_in_nI (by omega) (by omega)) ?_
    rw [← hp4]
    have f1 : nn p1 < many := by have h9 := (c1).nn; omega
    refine w_callV (M' := mX5_settings) [.int (p1), .int (p2), .int (p3), .int (p4)] [] kX5 dL_law_184 wPL_78v wIX5_settings wSX5_settings iX5_settings oX5_settings rfl hok HM.1 (pX5_settings Sc Γ n ((vset (fX4_settings X many (nn p1) p2 p3 p4 V) (o + 17) 0 ((vX4_settings X many (nn p1) p2 p3 p4 V)))) o many HM hm1 hm4 p1 p2 p3 p4) (Nat.zero_le _) (Nat.zero_le _) (Nat.le_of_ble_eq_true rfl) (Nat.le_of_ble_eq_true rfl) (Nat.le_of_ble_eq_true rfl) rfl (fun v h F hp hok => ?_) (fun x h F hp hok => by rcases hp with ⟨-, e, -⟩ | ⟨-, -, e, -⟩ | ⟨-, -, e, -⟩ <;> cases e)
    rcases hp with ⟨d1, e, rfl⟩ | ⟨d1, d2, e, rfl⟩ | ⟨d1, d2, e, rfl⟩
    ·
      exact absurd c1 d1
    ·
      exact absurd c2 d2
    ·
      obtain rfl := Sum.inl.inj e
      have hst := st_settings (x := (vX4_settings X many (nn p1) p2 p3 p4 V)) hXo hm4 hR hSB f1 c2.1 c2.2.1 c2.2.2
      refine t_istore [.float 1, .ref X, .ref o, .ref (o + 17), .int (nI i), .int (nI 0), .int (vX5_settings o many (nn p1) p2 p3 p4 (vset ((vset (fX4_settings X many (nn p1) p2 p3 p4 V) (o + 17) 0 ((vX4_settings X many (nn p1) p2 p3 p4 V)))) o 0 (nI 0)))] (Or.inr ⟨rfl, dL_law_187⟩) (by decide) rfl ?_
      refine q_goto (tgt := 944) dL_law_189 (by decide) ?_
      refine q_weak [.float 1, .ref X, .ref o, .ref (o + 17), .int (nI i), .retAddr 0, .retAddr 0] ⟨Or.inl rfl, Or.inl rfl, Or.inl rfl, Or.inl rfl, Or.inl rfl, Or.inr ⟨0, rfl⟩, Or.inr ⟨0, rfl⟩, trivial⟩ ?_
      exact q_less (by omega) (by omega) (hnext _ h (hst.1) (SB.mo (hst.2) (by omega)) hok)
set_option maxRecDepth 20000 in
set_option maxHeartbeats 4000000 in
theorem arm1 (Sc : q_S) (hS : Sc.1 ≤ 3073) (Γ : Nat → q_K) (n X o many : Nat) (HG : sGF Γ X many) (HM : sM Γ o many) (hw : Γ (o + 17) = (5, 1, [])) (hm1 : 1 ≤ many) (hm4 : many ≤ 4) (hXo : X + 7 + 37 * many = o) (V : q_V) (b i kc ks : Nat) (hb : b + 8004 ≤ 2000000000) (hi : i + 6 ≤ Sc.1) (hR : Rel V V X many o) (hSB : SB V o b) (h : q_H) (hok : q_ok (gX Γ V) h) (Q : q_O → q_H → Nat → Prop) (hnext : ∀ (V' : q_V) (h : q_H), Rel V' V' X many o → SB V' o (b + 8004) → q_ok (gX Γ V') h → q_A Sc mL_law 944 [.float 1, .ref X, .ref o, .ref (o + 17), .int (nI i), .retAddr 0, .retAddr 0] [] h n kc ks Q) : q_A Sc mL_law 192 [.float 1, .ref X, .ref o, .ref (o + 17), .int (nI i), .retAddr 0, .retAddr 0] [] h n (kc + 4) (ks + 24) Q := by
  obtain ⟨p1, hp1⟩ : ∃ p, p = Sc.2 (nI (i + 1)).toNatClampNeg := ⟨_, rfl⟩
  obtain ⟨p2, hp2⟩ : ∃ p, p = Sc.2 (nI (i + 2)).toNatClampNeg := ⟨_, rfl⟩
  obtain ⟨p3, hp3⟩ : ∃ p, p = Sc.2 (nI (i + 3)).toNatClampNeg := ⟨_, rfl⟩
  obtain ⟨p4, hp4⟩ : ∃ p, p = Sc.2 (nI (i + 4)).toNatClampNeg := ⟨_, rfl⟩
  obtain ⟨p5, hp5⟩ : ∃ p, p = Sc.2 (nI (i + 5)).toNatClampNeg := ⟨_, rfl⟩
  refine q_aload_n dL_law_192 rfl ?_
  refine q_aload_n_x dL_law_193 rfl ?_
  refine q_iload dL_law_194 rfl ?_
  refine q_iconst (v := nI 1) dL_law_196 rfl ?_
  refine t_iadd_n dL_law_197 ?_
  refine q_sld dL_law_198 (by exact vp_in_nI (by omega) (by omega)) ?_
  rw [← hp1]
  refine q_aload_n_x dL_law_199 rfl ?_
  refine q_iload dL_law_200 rfl ?_
  refine q_iconst (v := nI 2) dL_law_202 rfl ?_
  refine t_iadd_n dL_law_203 ?_
  refine q_sld dL_law_204 (by exact vp_in_nI (by omega) (by omega)) ?_
  rw [← hp2]
  refine q_aload_n_x dL_law_205 rfl ?_
  refine q_iload dL_law_206 rfl ?_
  refine q_iconst (v := nI 3) dL_law_208 rfl ?_
  refine t_iadd_n dL_law_209 ?_
  refine q_sld dL_law_210 (by exact vp_in_nI (by omega) (by omega)) ?_
  rw [← hp3]
  refine q_aload_n_x dL_law_211 rfl ?_
  refine q_iload dL_law_212 rfl ?_
  refine q_iconst (v := nI 4) dL_law_214 rfl ?_
  refine t_iadd_n dL_law_215 ?_
  refine q_sld dL_law_216 (by exact vp_in_nI (by omega) (by omega)) ?_
  rw [← hp4]
  refine q_aload_n dL_law_217 rfl ?_
  refine w_callS (M' := mL_report) [.ref X, .int (p1), .int (p2), .int (p3), .int (p4), .ref (o + 17)] [] dL_law_218 wPL_79 wTL_report wNL iL_report oL_report rfl hok (hL_report Sc Γ n V X many HG hm1 hm4 p1 p2 p3 p4 (o + 17) hw) (by omega) (by omega) (Nat.le_of_ble_eq_true rfl) (Nat.le_of_ble_eq_true rfl) (Nat.le_of_ble_eq_true rfl) rfl (fun v h F hp hok => ?_) (fun x h F hp hok => ?_)
  rotate_left
  · rcases hp with ⟨-, e, -⟩ | ⟨-, -, e, -⟩ | ⟨-, -, e, -⟩ <;> cases e
  rcases hp with ⟨c1, e, rfl⟩ | ⟨c1, c2, e, rfl⟩ | ⟨c1, c2, e, rfl⟩
  ·
    obtain rfl := Sum.inl.inj e
    refine t_istore [.float 1, .ref X, .ref o, .ref (o + 17), .int (nI i), .int (nI 1), .retAddr 0] (Or.inr ⟨rfl, dL_law_221⟩) (by decide) rfl ?_
    refine q_aload_n dL_law_223 rfl ?_
    refine q_aload_n_x dL_law_224 rfl ?_
    refine q_iload dL_law_225 rfl ?_
    refine q_iconst (v := nI 1) dL_law_227 rfl ?_
    refine t_iadd_n dL_law_228 ?_
    refine q_sld dL_law_229 (by exact vp_in_nI (by omega) (by omega)) ?_
    rw [← hp1]
    refine q_aload_n_x dL_law_230 rfl ?_
    refine q_iload dL_law_231 rfl ?_
    refine q_iconst (v := nI 2) dL_law_233 rfl ?_
    refine t_iadd_n dL_law_234 ?_
    refine q_sld dL_law_235 (by exact vp_in_nI (by omega) (by omega)) ?_
    rw [← hp2]
    refine q_aload_n_x dL_law_236 rfl ?_
    refine q_iload dL_law_237 rfl ?_
    refine q_iconst (v := nI 3) dL_law_239 rfl ?_
    refine t_iadd_n dL_law_240 ?_
    refine q_sld dL_law_241 (by exact vp_in_nI (by omega) (by omega)) ?_
    rw [← hp3]
    refine q_aload_n_x dL_law_242 rfl ?_
    refine q_iload dL_law_243 rfl ?_
    refine q_iconst (v := nI 4) dL_law_245 rfl ?_
    refine t_iadd_n dL_law_246 ?_
    refine q_sld dL_law_247 (by exact vp_in_nI (by omega) (by omega)) ?_
    rw [← hp4]
    refine w_callV (M' := mX5_report) [.int (p1), .int (p2), .int (p3), .int (p4)] [] kX5 dL_law_248 wPL_81v wIX5_report wSX5_report iX5_report oX5_report rfl hok HM.1 (pX5_report Sc Γ n V o many HM hm1 hm4 p1 p2 p3 p4 b (by omega) hSB) (Nat.zero_le _) (Nat.zero_le _) (Nat.le_of_ble_eq_true rfl) (Nat.le_of_ble_eq_true rfl) (Nat.le_of_ble_eq_true rfl) rfl (fun v h F hp hok => ?_) (fun x h F hp hok => by rcases hp with ⟨-, e, -⟩ | ⟨-, -, e, -⟩ | ⟨-, -, e, -⟩ <;> cases e)
    rcases hp with ⟨d1, e, rfl⟩ | ⟨d1, d2, e, rfl⟩ | ⟨d1, d2, e, rfl⟩
    ·
      obtain rfl := Sum.inl.inj e
      refine t_istore [.float 1, .ref X, .ref o, .ref (o + 17), .int (nI i), .int (nI 1), .int (nI 0)] (Or.inr ⟨rfl, dL_law_251⟩) (by decide) rfl ?_
      refine q_goto (tgt := 944) dL_law_253 (by decide) ?_
      refine q_weak [.float 1, .ref X, .ref o, .ref (o + 17), .int (nI i), .retAddr 0, .retAddr 0] ⟨Or.inl rfl, Or.inl rfl, Or.inl rfl, Or.inl rfl, Or.inl rfl, Or.inr ⟨0, rfl⟩, Or.inr ⟨0, rfl⟩, trivial⟩ ?_
      exact q_less (by omega) (by omega) (hnext _ h (rel_bad hXo hm4 hR) (SB.mo (sb_bad hSB) (by omega)) hok)
    ·
      exact absurd d1 c1
    ·
      exact absurd d1 c1
  ·
    obtain rfl := Sum.inl.inj e
    refine t_istore [.float 1, .ref X, .ref o, .ref (o + 17), .int (nI i), .int (nI 2), .retAddr 0] (Or.inr ⟨rfl, dL_law_221⟩) (by decide) rfl ?_
    refine q_aload_n dL_law_223 rfl ?_
    refine q_aload_n_x dL_law_224 rfl ?_
    refine q_iload dL_law_225 rfl ?_
    refine q_iconst (v := nI 1) dL_law_227 rfl ?_
    refine t_iadd_n dL_law_228 ?_
    refine q_sld dL_law_229 (by exact vp_in_nI (by omega) (by omega)) ?_
    rw [← hp1]
    refine q_aload_n_x dL_law_230 rfl ?_
    refine q_iload dL_law_231 rfl ?_
    refine q_iconst (v := nI 2) dL_law_233 rfl ?_
    refine t_iadd_n dL_law_234 ?_
    refine q_sld dL_law_235 (by exact vp_in_nI (by omega) (by omega)) ?_
    rw [← hp2]
    refine q_aload_n_x dL_law_236 rfl ?_
    refine q_iload dL_law_237 rfl ?_
    refine q_iconst (v := nI 3) dL_law_239 rfl ?_
    refine t_iadd_n dL_law_240 ?_
    refine q_sld dL_law_241 (by exact vp_in_nI (by omega) (by omega)) ?_
    rw [← hp3]
    refine q_aload_n_x dL_law_242 rfl ?_
    refine q_iload dL_law_243 rfl ?_
    refine q_iconst (v := nI 4) dL_law_245 rfl ?_
    refine t_iadd_n dL_law_246 ?_
    refine q_sld dL_law_247 (by exact vp_in_nI (by omega) (by omega)) ?_
    rw [← hp4]
    refine w_callV (M' := mX5_report) [.int (p1), .int (p2), .int (p3), .int (p4)] [] kX5 dL_law_248 wPL_81v wIX5_report wSX5_report iX5_report oX5_report rfl hok HM.1 (pX5_report Sc Γ n V o many HM hm1 hm4 p1 p2 p3 p4 b (by omega) hSB) (Nat.zero_le _) (Nat.zero_le _) (Nat.le_of_ble_eq_true rfl) (Nat.le_of_ble_eq_true rfl) (Nat.le_of_ble_eq_true rfl) rfl (fun v h F hp hok => ?_) (fun x h F hp hok => by rcases hp with ⟨-, e, -⟩ | ⟨-, -, e, -⟩ | ⟨-, -, e, -⟩ <;> cases e)
    rcases hp with ⟨d1, e, rfl⟩ | ⟨d1, d2, e, rfl⟩ | ⟨d1, d2, e, rfl⟩
    ·
      exact absurd c1 d1
    ·
      obtain rfl := Sum.inl.inj e
      refine t_istore [.float 1, .ref X, .ref o, .ref (o + 17), .int (nI i), .int (nI 2), .int (nI 0)] (Or.inr ⟨rfl, dL_law_251⟩) (by decide) rfl ?_
      refine q_goto (tgt := 944) dL_law_253 (by decide) ?_
      refine q_weak [.float 1, .ref X, .ref o, .ref (o + 17), .int (nI i), .retAddr 0, .retAddr 0] ⟨Or.inl rfl, Or.inl rfl, Or.inl rfl, Or.inl rfl, Or.inl rfl, Or.inr ⟨0, rfl⟩, Or.inr ⟨0, rfl⟩, trivial⟩ ?_
      exact q_less (by omega) (by omega) (hnext _ h (rel_bad hXo hm4 hR) (SB.mo (sb_bad hSB) (by omega)) hok)
    ·
      exact absurd d2 c2
  ·
    obtain rfl := Sum.inl.inj e
    refine t_istore [.float 1, .ref X, .ref o, .ref (o + 17), .int (nI i), .int (nI 0), .retAddr 0] (Or.inr ⟨rfl, dL_law_221⟩) (by decide) rfl ?_
    refine q_aload_n dL_law_223 rfl ?_
    refine q_aload_n_x dL_law_224 rfl ?_
    refine q_iload dL_law_225 rfl ?_
    refine q_iconst (v := nI 1) dL_law_227 rfl ?_
    refine t_iadd_n dL_law_228 ?_
    refine q_sld dL_law_229 (by exact vp_in_nI (by omega) (by omega)) ?_
    rw [← hp1]
    refine q_aload_n_x dL_law_230 rfl ?_
    refine q_iload dL_law_231 rfl ?_
    refine q_iconst (v := nI 2) dL_law_233 rfl ?_
    refine t_iadd_n dL_law_234 ?_
    refine q_sld dL_law_235 (by exact vp_in_nI (by omega) (by omega)) ?_
    rw [← hp2]
    refine q_aload_n_x dL_law_236 rfl ?_
    refine q_iload dL_law_237 rfl ?_
    refine q_iconst (v := nI 3) dL_law_239 rfl ?_
    refine t_iadd_n dL_law_240 ?_
    refine q_sld dL_law_241 (by exact vp_in_nI (by omega) (by omega)) ?_
    rw [← hp3]
    refine q_aload_n_x dL_law_242 rfl ?_
    refine q_iload dL_law_243 rfl ?_
    refine q_iconst (v := nI 4) dL_law_245 rfl ?_
    refine t_iadd_n dL_law_246 ?_
    refine q_sld dL_law_247 (by exact vp_in_nI (by omega) (by omega)) ?_
    rw [← hp4]
    have f1 : nn p1 < many := by have h9 := (c1.1).nn; omega
    have f2 : nn p2 < 8 := by have h9 := (c1.2).nn; omega
    have f3 : nn p3 < 6 := by have h9 := (c2.1).nn; omega
    refine w_callV (M' := mX5_report) [.int (p1), .int (p2), .int (p3), .int (p4)] [] kX5 dL_law_248 wPL_81v wIX5_report wSX5_report iX5_report oX5_report rfl hok HM.1 (pX5_report Sc Γ n ((vset (fX4_report X many (nn p1) (nn p2) p4 (nn p3) V) (o + 17) 0 ((vX4_report X many (nn p1) (nn p2) p4 (nn p3) V)))) o many HM hm1 hm4 p1 p2 p3 p4 b (by omega) (sb_w hXo hSB (aC.rep (V := V) (a := p4) f1 f2 f3))) (Nat.zero_le _) (Nat.zero_le _) (Nat.le_of_ble_eq_true rfl) (Nat.le_of_ble_eq_true rfl) (Nat.le_of_ble_eq_true rfl) rfl (fun v h F hp hok => ?_) (fun x h F hp hok => by rcases hp with ⟨-, e, -⟩ | ⟨-, -, e, -⟩ | ⟨-, -, e, -⟩ <;> cases e)
    rcases hp with ⟨d1, e, rfl⟩ | ⟨d1, d2, e, rfl⟩ | ⟨d1, d2, e, rfl⟩
    ·
      exact absurd c1 d1
    ·
      exact absurd c2 d2
    ·
      obtain rfl := Sum.inl.inj e
      have hst := st_rep (x := (vX4_report X many (nn p1) (nn p2) p4 (nn p3) V)) hXo hm4 hR hSB (by omega) f1 f2 f3 (S16.inZ c2.2)
      refine t_istore [.float 1, .ref X, .ref o, .ref (o + 17), .int (nI i), .int (nI 0), .int (vX5_report o many (nn p1) (nn p2) p4 (nn p3) (vset ((vset (fX4_report X many (nn p1) (nn p2) p4 (nn p3) V) (o + 17) 0 ((vX4_report X many (nn p1) (nn p2) p4 (nn p3) V)))) o 0 (nI 0)))] (Or.inr ⟨rfl, dL_law_251⟩) (by decide) rfl ?_
      refine q_goto (tgt := 944) dL_law_253 (by decide) ?_
      refine q_weak [.float 1, .ref X, .ref o, .ref (o + 17), .int (nI i), .retAddr 0, .retAddr 0] ⟨Or.inl rfl, Or.inl rfl, Or.inl rfl, Or.inl rfl, Or.inl rfl, Or.inr ⟨0, rfl⟩, Or.inr ⟨0, rfl⟩, trivial⟩ ?_
      exact q_less (by omega) (by omega) (hnext _ h (hst.1) (SB.mo (hst.2.1) (by omega)) hok)
set_option maxRecDepth 20000 in
set_option maxHeartbeats 4000000 in
theorem arm2 (Sc : q_S) (hS : Sc.1 ≤ 3073) (Γ : Nat → q_K) (n X o many : Nat) (HG : sGF Γ X many) (HM : sM Γ o many) (hw : Γ (o + 17) = (5, 1, [])) (hm1 : 1 ≤ many) (hm4 : many ≤ 4) (hXo : X + 7 + 37 * many = o) (V : q_V) (b i kc ks : Nat) (hb : b + 8004 ≤ 2000000000) (hi : i + 6 ≤ Sc.1) (hR : Rel V V X many o) (hSB : SB V o b) (h : q_H) (hok : q_ok (gX Γ V) h) (Q : q_O → q_H → Nat → Prop) (hnext : ∀ (V' : q_V) (h : q_H), Rel V' V' X many o → SB V' o (b + 8004) → q_ok (gX Γ V') h → q_A Sc mL_law 944 [.float 1, .ref X, .ref o, .ref (o + 17), .int (nI i), .retAddr 0, .retAddr 0] [] h n kc ks Q) : q_A Sc mL_law 256 [.float 1, .ref X, .ref o, .ref (o + 17), .int (nI i), .retAddr 0, .retAddr 0] [] h n (kc + 4) (ks + 24) Q := by
  obtain ⟨p1, hp1⟩ : ∃ p, p = Sc.2 (nI (i + 1)).toNatClampNeg := ⟨_, rfl⟩
  obtain ⟨p2, hp2⟩ : ∃ p, p = Sc.2 (nI (i + 2)).toNatClampNeg := ⟨_, rfl⟩
  obtain ⟨p3, hp3⟩ : ∃ p, p = Sc.2 (nI (i + 3)).toNatClampNeg := ⟨_, rfl⟩
  obtain ⟨p4, hp4⟩ : ∃ p, p = Sc.2 (nI (i + 4)).toNatClampNeg := ⟨_, rfl⟩
  obtain ⟨p5, hp5⟩ : ∃ p, p = Sc.2 (nI (i + 5)).toNatClampNeg := ⟨_, rfl⟩
  refine q_aload_n dL_law_256 rfl ?_
  refine q_aload_n_x dL_law_257 rfl ?_
  refine q_iload dL_law_258 rfl ?_
  refine q_iconst (v := nI 1) dL_law_260 rfl ?_
  refine t_iadd_n dL_law_261 ?_
  refine q_sld dL_law_262 (by exact vp_in_nI (by omega) (by omega)) ?_
  rw [← hp1]
  refine q_aload_n_x dL_law_263 rfl ?_
  refine q_iload dL_law_264 rfl ?_
  refine q_iconst (v := nI 2) dL_law_266 rfl ?_
  refine t_iadd_n dL_law_267 ?_
  refine q_sld dL_law_268 (by exact vp_in_nI (by omega) (by omega)) ?_
  rw [← hp2]
  refine q_aload_n_x dL_law_269 rfl ?_
  refine q_iload dL_law_270 rfl ?_
  refine q_iconst (v := nI 3) dL_law_272 rfl ?_
  refine t_iadd_n dL_law_273 ?_
  refine q_sld dL_law_274 (by exact vp_in_nI (by omega) (by omega)) ?_
  rw [← hp3]
  refine q_aload_n_x dL_law_275 rfl ?_
  refine q_iload dL_law_276 rfl ?_
  refine q_iconst (v := nI 4) dL_law_278 rfl ?_
  refine t_iadd_n dL_law_279 ?_
  refine q_sld dL_law_280 (by exact vp_in_nI (by omega) (by omega)) ?_
  rw [← hp4]
  refine q_aload_n_x dL_law_281 rfl ?_
  refine q_iload dL_law_282 rfl ?_
  refine q_iconst (v := nI 5) dL_law_284 rfl ?_
  refine t_iadd_n dL_law_285 ?_
  refine q_sld dL_law_286 (by exact vp_in_nI (by omega) (by omega)) ?_
  rw [← hp5]
  refine q_if_eq (tgt := 294) dL_law_287 (by decide) (fun c719 => ?_) (fun c719 => ?_)
  ·
    refine q_iconst (v := nI 0) dL_law_294 rfl ?_
    refine q_aload_n dL_law_295 rfl ?_
    refine w_callS (M' := mL_query) [.ref X, .int (p1), .int (p2), .int (p3), .int (p4), .int (nI 0), .ref (o + 17)] [] dL_law_296 wPL_82 wTL_query wNL iL_query oL_query rfl hok (hL_query Sc Γ n V X many HG hm1 hm4 p1 p2 p3 p4 (nI 0) (Or.inl rfl) (o + 17) hw) (by omega) (by omega) (Nat.le_of_ble_eq_true rfl) (Nat.le_of_ble_eq_true rfl) (Nat.le_of_ble_eq_true rfl) rfl (fun v h F hp hok => ?_) (fun x h F hp hok => ?_)
    rotate_left
    · rcases hp with ⟨-, ⟨y, e⟩, -⟩ | ⟨-, e, -⟩ <;> cases e
    rcases hp with ⟨c1, ⟨y, e⟩, rfl⟩ | ⟨c1, e, x, rfl⟩
    ·
      obtain rfl := Sum.inl.inj e
      refine t_istore [.float 1, .ref X, .ref o, .ref (o + 17), .int (nI i), .int (y), .retAddr 0] (Or.inr ⟨rfl, dL_law_299⟩) (by decide) rfl ?_
      refine q_aload_n dL_law_301 rfl ?_
      refine q_aload_n_x dL_law_302 rfl ?_
      refine q_iload dL_law_303 rfl ?_
      refine q_iconst (v := nI 1) dL_law_305 rfl ?_
      refine t_iadd_n dL_law_306 ?_
      refine q_sld dL_law_307 (by exact vp_in_nI (by omega) (by omega)) ?_
      rw [← hp1]
      refine q_aload_n_x dL_law_308 rfl ?_
      refine q_iload dL_law_309 rfl ?_
      refine q_iconst (v := nI 2) dL_law_311 rfl ?_
      refine t_iadd_n dL_law_312 ?_
      refine q_sld dL_law_313 (by exact vp_in_nI (by omega) (by omega)) ?_
      rw [← hp2]
      refine q_aload_n_x dL_law_314 rfl ?_
      refine q_iload dL_law_315 rfl ?_
      refine q_iconst (v := nI 3) dL_law_317 rfl ?_
      refine t_iadd_n dL_law_318 ?_
      refine q_sld dL_law_319 (by exact vp_in_nI (by omega) (by omega)) ?_
      rw [← hp3]
      refine q_aload_n_x dL_law_320 rfl ?_
      refine q_iload dL_law_321 rfl ?_
      refine q_iconst (v := nI 4) dL_law_323 rfl ?_
      refine t_iadd_n dL_law_324 ?_
      refine q_sld dL_law_325 (by exact vp_in_nI (by omega) (by omega)) ?_
      rw [← hp4]
      refine q_aload_n_x dL_law_326 rfl ?_
      refine q_iload dL_law_327 rfl ?_
      refine q_iconst (v := nI 5) dL_law_329 rfl ?_
      refine t_iadd_n dL_law_330 ?_
      refine q_sld dL_law_331 (by exact vp_in_nI (by omega) (by omega)) ?_
      rw [← hp5]
      refine q_if_eq (tgt := 339) dL_law_332 (by decide) (fun c720 => ?_) (fun c720 => ?_)
      rotate_left
      · exact absurd c719 c720
      refine q_iconst (v := nI 0) dL_law_339 rfl ?_
      refine w_callV (M' := mX5_query) [.int (p1), .int (p2), .int (p3), .int (p4), .int (nI 0)] [] kX5 dL_law_340 wPL_85v wIX5_query wSX5_query iX5_query oX5_query rfl hok HM.1 (pX5_query Sc Γ n V o many HM hm1 hm4 p1 p2 p3 p4 (nI 0) (Or.inl rfl)) (Nat.zero_le _) (Nat.zero_le _) (Nat.le_of_ble_eq_true rfl) (Nat.le_of_ble_eq_true rfl) (Nat.le_of_ble_eq_true rfl) rfl (fun v h F hp hok => ?_) (fun x h F hp hok => by rcases hp with ⟨-, e, -⟩ | ⟨-, e, -⟩ <;> cases e)
      rcases hp with ⟨d1, e, d2⟩ | ⟨d1, e, rfl⟩
      ·
        obtain rfl := Sum.inl.inj e
        rcases d2 with rfl | rfl
        ·
          refine t_istore [.float 1, .ref X, .ref o, .ref (o + 17), .int (nI i), .int (y), .int (nI 0)] (Or.inr ⟨rfl, dL_law_343⟩) (by decide) rfl ?_
          refine q_goto (tgt := 944) dL_law_345 (by decide) ?_
          refine q_weak [.float 1, .ref X, .ref o, .ref (o + 17), .int (nI i), .retAddr 0, .retAddr 0] ⟨Or.inl rfl, Or.inl rfl, Or.inl rfl, Or.inl rfl, Or.inl rfl, Or.inr ⟨0, rfl⟩, Or.inr ⟨0, rfl⟩, trivial⟩ ?_
          exact q_less (by omega) (by omega) (hnext _ h (rel_bad hXo hm4 hR) (SB.mo (sb_bad hSB) (by omega)) hok)
        ·
          refine t_istore [.float 1, .ref X, .ref o, .ref (o + 17), .int (nI i), .int (y), .int (nI 0)] (Or.inr ⟨rfl, dL_law_343⟩) (by decide) rfl ?_
          refine q_goto (tgt := 944) dL_law_345 (by decide) ?_
          refine q_weak [.float 1, .ref X, .ref o, .ref (o + 17), .int (nI i), .retAddr 0, .retAddr 0] ⟨Or.inl rfl, Or.inl rfl, Or.inl rfl, Or.inl rfl, Or.inl rfl, Or.inr ⟨0, rfl⟩, Or.inr ⟨0, rfl⟩, trivial⟩ ?_
          exact q_less (by omega) (by omega) (hnext _ h (rel_bad hXo hm4 hR) (SB.mo (sb_bad hSB) (by omega)) hok)
      ·
        exact absurd ⟨d1.1, d1.2.2.1, inZ.m2.mp d1.2.1, d1.2.2.2⟩ c1
    ·
      obtain rfl := Sum.inl.inj e
      refine t_istore [.float 1, .ref X, .ref o, .ref (o + 17), .int (nI i), .int (nI 0), .retAddr 0] (Or.inr ⟨rfl, dL_law_299⟩) (by decide) rfl ?_
      refine q_aload_n dL_law_301 rfl ?_
      refine q_aload_n_x dL_law_302 rfl ?_
      refine q_iload dL_law_303 rfl ?_
      refine q_iconst (v := nI 1) dL_law_305 rfl ?_
      refine t_iadd_n dL_law_306 ?_
      refine q_sld dL_law_307 (by exact vp_in_nI (by omega) (by omega)) ?_
      rw [← hp1]
      refine q_aload_n_x dL_law_308 rfl ?_
      refine q_iload dL_law_309 rfl ?_
      refine q_iconst (v := nI 2) dL_law_311 rfl ?_
      refine t_iadd_n dL_law_312 ?_
      refine q_sld dL_law_313 (by exact vp_in_nI (by omega) (by omega)) ?_
      rw [← hp2]
      refine q_aload_n_x dL_law_314 rfl ?_
      refine q_iload dL_law_315 rfl ?_
      refine q_iconst (v := nI 3) dL_law_317 rfl ?_
      refine t_iadd_n dL_law_318 ?_
      refine q_sld dL_law_319 (by exact vp_in_nI (by omega) (by omega)) ?_
      rw [← hp3]
      refine q_aload_n_x dL_law_320 rfl ?_
      refine q_iload dL_law_321 rfl ?_
      refine q_iconst (v := nI 4) dL_law_323 rfl ?_
      refine t_iadd_n dL_law_324 ?_
      refine q_sld dL_law_325 (by exact vp_in_nI (by omega) (by omega)) ?_
      rw [← hp4]
      refine q_aload_n_x dL_law_326 rfl ?_
      refine q_iload dL_law_327 rfl ?_
      refine q_iconst (v := nI 5) dL_law_329 rfl ?_
      refine t_iadd_n dL_law_330 ?_
      refine q_sld dL_law_331 (by exact vp_in_nI (by omega) (by omega)) ?_
      rw [← hp5]
      refine q_if_eq (tgt := 339) dL_law_332 (by decide) (fun c724 => ?_) (fun c724 => ?_)
      rotate_left
      · exact absurd c719 c724
      refine q_iconst (v := nI 0) dL_law_339 rfl ?_
      have f1 : nn p1 < many := by have h9 := (c1.1).nn; omega
      refine w_callV (M' := mX5_query) [.int (p1), .int (p2), .int (p3), .int (p4), .int (nI 0)] [] kX5 dL_law_340 wPL_85v wIX5_query wSX5_query iX5_query oX5_query rfl hok HM.1 (pX5_query Sc Γ n ((vset (if p3 = -1 then fX4_query_n X many (nn p1) p2 p4 (nI 0) V else fX4_query_g X many (nn p1) p2 (nn p3) p4 (nI 0) V) (o + 17) 0 x)) o many HM hm1 hm4 p1 p2 p3 p4 (nI 0) (Or.inl rfl)) (Nat.zero_le _) (Nat.zero_le _) (Nat.le_of_ble_eq_true rfl) (Nat.le_of_ble_eq_true rfl) (Nat.le_of_ble_eq_true rfl) rfl (fun v h F hp hok => ?_) (fun x h F hp hok => by rcases hp with ⟨-, e, -⟩ | ⟨-, e, -⟩ <;> cases e)
      rcases hp with ⟨d1, e, d2⟩ | ⟨d1, e, rfl⟩
      ·
        exact absurd ⟨c1.1, inZ.m2.mpr c1.2.2.1, c1.2.1, c1.2.2.2⟩ d1
      ·
        obtain rfl := Sum.inl.inj e
        by_cases hm3 : p3 = -1
        ·
          simp only [if_pos hm3] at hok ⊢
          have hst := st_qn (x := x) hXo hm4 hR hSB f1 c1.2.1 (a4 := p4) (a5 := (nI 0))
          refine t_istore [.float 1, .ref X, .ref o, .ref (o + 17), .int (nI i), .int (nI 0), .int (vX5_query_n o many (nn p1) p2 p4 (nI 0) (vset (vset (fX4_query_n X many (nn p1) p2 p4 (nI 0) V) (o + 17) 0 x) o 0 (nI 0)))] (Or.inr ⟨rfl, dL_law_343⟩) (by decide) rfl ?_
          refine q_goto (tgt := 944) dL_law_345 (by decide) ?_
          refine q_weak [.float 1, .ref X, .ref o, .ref (o + 17), .int (nI i), .retAddr 0, .retAddr 0] ⟨Or.inl rfl, Or.inl rfl, Or.inl rfl, Or.inl rfl, Or.inl rfl, Or.inr ⟨0, rfl⟩, Or.inr ⟨0, rfl⟩, trivial⟩ ?_
          exact q_less (by omega) (by omega) (hnext _ h (hst.1) (SB.mo (hst.2) (by omega)) hok)
        ·
          simp only [if_neg hm3] at hok ⊢
          have f2 : nn p3 < 8 := by have h9 := (c1.2.2.1.resolve_left hm3).nn; omega
          have hst := st_qg (x := x) hXo hm4 hR hSB f1 f2 c1.2.1 (a4 := p4) (a5 := (nI 0))
          refine t_istore [.float 1, .ref X, .ref o, .ref (o + 17), .int (nI i), .int (nI 0), .int (vX5_query_g o many (nn p1) p2 (nn p3) p4 (nI 0) (vset (vset (fX4_query_g X many (nn p1) p2 (nn p3) p4 (nI 0) V) (o + 17) 0 x) o 0 (nI 0)))] (Or.inr ⟨rfl, dL_law_343⟩) (by decide) rfl ?_
          refine q_goto (tgt := 944) dL_law_345 (by decide) ?_
          refine q_weak [.float 1, .ref X, .ref o, .ref (o + 17), .int (nI i), .retAddr 0, .retAddr 0] ⟨Or.inl rfl, Or.inl rfl, Or.inl rfl, Or.inl rfl, Or.inl rfl, Or.inr ⟨0, rfl⟩, Or.inr ⟨0, rfl⟩, trivial⟩ ?_
          exact q_less (by omega) (by omega) (hnext _ h (hst.1) (SB.mo (hst.2) (by omega)) hok)
  ·
    refine q_iconst (v := nI 1) dL_law_290 rfl ?_
    refine q_goto (tgt := 295) dL_law_291 (by decide) ?_
    refine q_aload_n dL_law_295 rfl ?_
    refine w_callS (M' := mL_query) [.ref X, .int (p1), .int (p2), .int (p3), .int (p4), .int (nI 1), .ref (o + 17)] [] dL_law_296 wPL_82 wTL_query wNL iL_query oL_query rfl hok (hL_query Sc Γ n V X many HG hm1 hm4 p1 p2 p3 p4 (nI 1) (Or.inr rfl) (o + 17) hw) (by omega) (by omega) (Nat.le_of_ble_eq_true rfl) (Nat.le_of_ble_eq_true rfl) (Nat.le_of_ble_eq_true rfl) rfl (fun v h F hp hok => ?_) (fun x h F hp hok => ?_)
    rotate_left
    · rcases hp with ⟨-, ⟨y, e⟩, -⟩ | ⟨-, e, -⟩ <;> cases e
    rcases hp with ⟨c1, ⟨y, e⟩, rfl⟩ | ⟨c1, e, x, rfl⟩
    ·
      obtain rfl := Sum.inl.inj e
      refine t_istore [.float 1, .ref X, .ref o, .ref (o + 17), .int (nI i), .int (y), .retAddr 0] (Or.inr ⟨rfl, dL_law_299⟩) (by decide) rfl ?_
      refine q_aload_n dL_law_301 rfl ?_
      refine q_aload_n_x dL_law_302 rfl ?_
      refine q_iload dL_law_303 rfl ?_
      refine q_iconst (v := nI 1) dL_law_305 rfl ?_
      refine t_iadd_n dL_law_306 ?_
      refine q_sld dL_law_307 (by exact vp_in_nI (by omega) (by omega)) ?_
      rw [← hp1]
      refine q_aload_n_x dL_law_308 rfl ?_
      refine q_iload dL_law_309 rfl ?_
      refine q_iconst (v := nI 2) dL_law_311 rfl ?_
      refine t_iadd_n dL_law_312 ?_
      refine q_sld dL_law_313 (by exact vp_in_nI (by omega) (by omega)) ?_
      rw [← hp2]
      refine q_aload_n_x dL_law_314 rfl ?_
      refine q_iload dL_law_315 rfl ?_
      refine q_iconst (v := nI 3) dL_law_317 rfl ?_
      refine t_iadd_n dL_law_318 ?_
      refine q_sld dL_law_319 (by exact vp_in_nI (by omega) (by omega)) ?_
      rw [← hp3]
      refine q_aload_n_x dL_law_320 rfl ?_
      refine q_iload dL_law_321 rfl ?_
      refine q_iconst (v := nI 4) dL_law_323 rfl ?_
      refine t_iadd_n dL_law_324 ?_
      refine q_sld dL_law_325 (by exact vp_in_nI (by omega) (by omega)) ?_
      rw [← hp4]
      refine q_aload_n_x dL_law_326 rfl ?_
      refine q_iload dL_law_327 rfl ?_
      refine q_iconst (v := nI 5) dL_law_329 rfl ?_
      refine t_iadd_n dL_law_330 ?_
      refine q_sld dL_law_331 (by exact vp_in_nI (by omega) (by omega)) ?_
      rw [← hp5]
      refine q_if_eq (tgt := 339) dL_law_332 (by decide) (fun c727 => ?_) (fun c727 => ?_)
      · exact absurd c727 c719
      refine q_iconst (v := nI 1) dL_law_335 rfl ?_
      refine q_goto (tgt := 340) dL_law_336 (by decide) ?_
      refine w_callV (M' := mX5_query) [.int (p1), .int (p2), .int (p3), .int (p4), .int (nI 1)] [] kX5 dL_law_340 wPL_85v wIX5_query wSX5_query iX5_query oX5_query rfl hok HM.1 (pX5_query Sc Γ n V o many HM hm1 hm4 p1 p2 p3 p4 (nI 1) (Or.inr rfl)) (Nat.zero_le _) (Nat.zero_le _) (Nat.le_of_ble_eq_true rfl) (Nat.le_of_ble_eq_true rfl) (Nat.le_of_ble_eq_true rfl) rfl (fun v h F hp hok => ?_) (fun x h F hp hok => by rcases hp with ⟨-, e, -⟩ | ⟨-, e, -⟩ <;> cases e)
      rcases hp with ⟨d1, e, d2⟩ | ⟨d1, e, rfl⟩
      ·
        obtain rfl := Sum.inl.inj e
        rcases d2 with rfl | rfl
        ·
          refine t_istore [.float 1, .ref X, .ref o, .ref (o + 17), .int (nI i), .int (y), .int (nI 0)] (Or.inr ⟨rfl, dL_law_343⟩) (by decide) rfl ?_
          refine q_goto (tgt := 944) dL_law_345 (by decide) ?_
          refine q_weak [.float 1, .ref X, .ref o, .ref (o + 17), .int (nI i), .retAddr 0, .retAddr 0] ⟨Or.inl rfl, Or.inl rfl, Or.inl rfl, Or.inl rfl, Or.inl rfl, Or.inr ⟨0, rfl⟩, Or.inr ⟨0, rfl⟩, trivial⟩ ?_
          exact q_less (by omega) (by omega) (hnext _ h (rel_bad hXo hm4 hR) (SB.mo (sb_bad hSB) (by omega)) hok)
        ·
          refine t_istore [.float 1, .ref X, .ref o, .ref (o + 17), .int (nI i), .int (y), .int (nI 0)] (Or.inr ⟨rfl, dL_law_343⟩) (by decide) rfl ?_
          refine q_goto (tgt := 944) dL_law_345 (by decide) ?_
          refine q_weak [.float 1, .ref X, .ref o, .ref (o + 17), .int (nI i), .retAddr 0, .retAddr 0] ⟨Or.inl rfl, Or.inl rfl, Or.inl rfl, Or.inl rfl, Or.inl rfl, Or.inr ⟨0, rfl⟩, Or.inr ⟨0, rfl⟩, trivial⟩ ?_
          exact q_less (by omega) (by omega) (hnext _ h (rel_bad hXo hm4 hR) (SB.mo (sb_bad hSB) (by omega)) hok)
      ·
        exact absurd ⟨d1.1, d1.2.2.1, inZ.m2.mp d1.2.1, d1.2.2.2⟩ c1
    ·
      obtain rfl := Sum.inl.inj e
      refine t_istore [.float 1, .ref X, .ref o, .ref (o + 17), .int (nI i), .int (nI 0), .retAddr 0] (Or.inr ⟨rfl, dL_law_299⟩) (by decide) rfl ?_
      refine q_aload_n dL_law_301 rfl ?_
      refine q_aload_n_x dL_law_302 rfl ?_
      refine q_iload dL_law_303 rfl ?_
      refine q_iconst (v := nI 1) dL_law_305 rfl ?_
      refine t_iadd_n dL_law_306 ?_
      refine q_sld dL_law_307 (by exact vp_in_nI (by omega) (by omega)) ?_
      rw [← hp1]
      refine q_aload_n_x dL_law_308 rfl ?_
      refine q_iload dL_law_309 rfl ?_
      refine q_iconst (v := nI 2) dL_law_311 rfl ?_
      refine t_iadd_n dL_law_312 ?_
      refine q_sld dL_law_313 (by exact vp_in_nI (by omega) (by omega)) ?_
      rw [← hp2]
      refine q_aload_n_x dL_law_314 rfl ?_
      refine q_iload dL_law_315 rfl ?_
      refine q_iconst (v := nI 3) dL_law_317 rfl ?_
      refine t_iadd_n dL_law_318 ?_
      refine q_sld dL_law_319 (by exact vp_in_nI (by omega) (by omega)) ?_
      rw [← hp3]
      refine q_aload_n_x dL_law_320 rfl ?_
      refine q_iload dL_law_321 rfl ?_
      refine q_iconst (v := nI 4) dL_law_323 rfl ?_
      refine t_iadd_n dL_law_324 ?_
      refine q_sld dL_law_325 (by exact vp_in_nI (by omega) (by omega)) ?_
      rw [← hp4]
      refine q_aload_n_x dL_law_326 rfl ?_
      refine q_iload dL_law_327 rfl ?_
      refine q_iconst (v := nI 5) dL_law_329 rfl ?_
      refine t_iadd_n dL_law_330 ?_
      refine q_sld dL_law_331 (by exact vp_in_nI (by omega) (by omega)) ?_
      rw [← hp5]
      refine q_if_eq (tgt := 339) dL_law_332 (by decide) (fun c731 => ?_) (fun c731 => ?_)
      · exact absurd c731 c719
      refine q_iconst (v := nI 1) dL_law_335 rfl ?_
      refine q_goto (tgt := 340) dL_law_336 (by decide) ?_
      have f1 : nn p1 < many := by have h9 := (c1.1).nn; omega
      refine w_callV (M' := mX5_query) [.int (p1), .int (p2), .int (p3), .int (p4), .int (nI 1)] [] kX5 dL_law_340 wPL_85v wIX5_query wSX5_query iX5_query oX5_query rfl hok HM.1 (pX5_query Sc Γ n ((vset (if p3 = -1 then fX4_query_n X many (nn p1) p2 p4 (nI 1) V else fX4_query_g X many (nn p1) p2 (nn p3) p4 (nI 1) V) (o + 17) 0 x)) o many HM hm1 hm4 p1 p2 p3 p4 (nI 1) (Or.inr rfl)) (Nat.zero_le _) (Nat.zero_le _) (Nat.le_of_ble_eq_true rfl) (Nat.le_of_ble_eq_true rfl) (Nat.le_of_ble_eq_true rfl) rfl (fun v h F hp hok => ?_) (fun x h F hp hok => by rcases hp with ⟨-, e, -⟩ | ⟨-, e, -⟩ <;> cases e)
      rcases hp with ⟨d1, e, d2⟩ | ⟨d1, e, rfl⟩
      ·
        exact absurd ⟨c1.1, inZ.m2.mpr c1.2.2.1, c1.2.1, c1.2.2.2⟩ d1
      ·
        obtain rfl := Sum.inl.inj e
        by_cases hm3 : p3 = -1
        ·
          simp only [if_pos hm3] at hok ⊢
          have hst := st_qn (x := x) hXo hm4 hR hSB f1 c1.2.1 (a4 := p4) (a5 := (nI 1))
          refine t_istore [.float 1, .ref X, .ref o, .ref (o + 17), .int (nI i), .int (nI 0), .int (vX5_query_n o many (nn p1) p2 p4 (nI 1) (vset (vset (fX4_query_n X many (nn p1) p2 p4 (nI 1) V) (o + 17) 0 x) o 0 (nI 0)))] (Or.inr ⟨rfl, dL_law_343⟩) (by decide) rfl ?_
          refine q_goto (tgt := 944) dL_law_345 (by decide) ?_
          refine q_weak [.float 1, .ref X, .ref o, .ref (o + 17), .int (nI i), .retAddr 0, .retAddr 0] ⟨Or.inl rfl, Or.inl rfl, Or.inl rfl, Or.inl rfl, Or.inl rfl, Or.inr ⟨0, rfl⟩, Or.inr ⟨0, rfl⟩, trivial⟩ ?_
          exact q_less (by omega) (by omega) (hnext _ h (hst.1) (SB.mo (hst.2) (by omega)) hok)
        ·
          simp only [if_neg hm3] at hok ⊢
          have f2 : nn p3 < 8 := by have h9 := (c1.2.2.1.resolve_left hm3).nn; omega
          have hst := st_qg (x := x) hXo hm4 hR hSB f1 f2 c1.2.1 (a4 := p4) (a5 := (nI 1))
          refine t_istore [.float 1, .ref X, .ref o, .ref (o + 17), .int (nI i), .int (nI 0), .int (vX5_query_g o many (nn p1) p2 (nn p3) p4 (nI 1) (vset (vset (fX4_query_g X many (nn p1) p2 (nn p3) p4 (nI 1) V) (o + 17) 0 x) o 0 (nI 0)))] (Or.inr ⟨rfl, dL_law_343⟩) (by decide) rfl ?_
          refine q_goto (tgt := 944) dL_law_345 (by decide) ?_
          refine q_weak [.float 1, .ref X, .ref o, .ref (o + 17), .int (nI i), .retAddr 0, .retAddr 0] ⟨Or.inl rfl, Or.inl rfl, Or.inl rfl, Or.inl rfl, Or.inl rfl, Or.inr ⟨0, rfl⟩, Or.inr ⟨0, rfl⟩, trivial⟩ ?_
          exact q_less (by omega) (by omega) (hnext _ h (hst.1) (SB.mo (hst.2) (by omega)) hok)
set_option maxRecDepth 20000 in
set_option maxHeartbeats 4000000 in
theorem arm3 (Sc : q_S) (hS : Sc.1 ≤ 3073) (Γ : Nat → q_K) (n X o many : Nat) (HG : sGF Γ X many) (HM : sM Γ o many) (hw : Γ (o + 17) = (5, 1, [])) (hm1 : 1 ≤ many) (hm4 : many ≤ 4) (hXo : X + 7 + 37 * many = o) (V : q_V) (b i kc ks : Nat) (hb : b + 8004 ≤ 2000000000) (hi : i + 6 ≤ Sc.1) (hR : Rel V V X many o) (hSB : SB V o b) (h : q_H) (hok : q_ok (gX Γ V) h) (Q : q_O → q_H → Nat → Prop) (hnext : ∀ (V' : q_V) (h : q_H), Rel V' V' X many o → SB V' o (b + 8004) → q_ok (gX Γ V') h → q_A Sc mL_law 944 [.float 1, .ref X, .ref o, .ref (o + 17), .int (nI i), .retAddr 0, .retAddr 0] [] h n kc ks Q) : q_A Sc mL_law 348 [.float 1, .ref X, .ref o, .ref (o + 17), .int (nI i), .retAddr 0, .retAddr 0] [] h n (kc + 4) (ks + 24) Q := by
  obtain ⟨p1, hp1⟩ : ∃ p, p = Sc.2 (nI (i + 1)).toNatClampNeg := ⟨_, rfl⟩
  obtain ⟨p2, hp2⟩ : ∃ p, p = Sc.2 (nI (i + 2)).toNatClampNeg := ⟨_, rfl⟩
  obtain ⟨p3, hp3⟩ : ∃ p, p = Sc.2 (nI (i + 3)).toNatClampNeg := ⟨_, rfl⟩
  obtain ⟨p4, hp4⟩ : ∃ p, p = Sc.2 (nI (i + 4)).toNatClampNeg := ⟨_, rfl⟩
  obtain ⟨p5, hp5⟩ : ∃ p, p = Sc.2 (nI (i + 5)).toNatClampNeg := ⟨_, rfl⟩
  refine q_aload_n dL_law_348 rfl ?_
  refine q_aload_n_x dL_law_349 rfl ?_
  refine q_iload dL_law_350 rfl ?_
  refine q_iconst (v := nI 1) dL_law_352 rfl ?_
  refine t_iadd_n dL_law_353 ?_
  refine q_sld dL_law_354 (by exact vp_in_nI (by omega) (by omega)) ?_
  rw [← hp1]
  refine q_aload_n dL_law_355 rfl ?_
  refine w_callS (M' := mL_tick) [.ref X, .int (p1), .ref (o + 17)] [] dL_law_356 wPL_86 wTL_tick wNL iL_tick oL_tick rfl hok (hL_tick Sc Γ n V X many HG hm1 hm4 p1 (o + 17) hw) (by omega) (by omega) (Nat.le_of_ble_eq_true rfl) (Nat.le_of_ble_eq_true rfl) (Nat.le_of_ble_eq_true rfl) rfl (fun v h F hp hok => ?_) (fun x h F hp hok => ?_)
  rotate_left
  · rcases hp with ⟨-, e, -⟩ | ⟨-, -, e, -⟩ | ⟨-, -, e, -⟩ <;> cases e
  rcases hp with ⟨c1, e, rfl⟩ | ⟨c1, c2, e, rfl⟩ | ⟨c1, c2, e, rfl⟩
  ·
    exact absurd trivial c1
  ·
    obtain rfl := Sum.inl.inj e
    refine t_istore [.float 1, .ref X, .ref o, .ref (o + 17), .int (nI i), .int (nI 1), .retAddr 0] (Or.inr ⟨rfl, dL_law_359⟩) (by decide) rfl ?_
    refine q_aload_n dL_law_361 rfl ?_
    refine q_aload_n_x dL_law_362 rfl ?_
    refine q_iload dL_law_363 rfl ?_
    refine q_iconst (v := nI 1) dL_law_365 rfl ?_
    refine t_iadd_n dL_law_366 ?_
    refine q_sld dL_law_367 (by exact vp_in_nI (by omega) (by omega)) ?_
    rw [← hp1]
    refine w_callV (M' := mX5_tick) [.int (p1)] [] kX5 dL_law_368 wPL_89v wIX5_tick wSX5_tick iX5_tick oX5_tick rfl hok HM.1 (pX5_tick Sc Γ n V o many HM hm1 hm4 p1 b (by omega) hSB) (Nat.zero_le _) (Nat.zero_le _) (Nat.le_of_ble_eq_true rfl) (Nat.le_of_ble_eq_true rfl) (Nat.le_of_ble_eq_true rfl) rfl (fun v h F hp hok => ?_) (fun x h F hp hok => by rcases hp with ⟨-, e, -⟩ | ⟨-, -, e, -⟩ | ⟨-, -, e, -⟩ <;> cases e)
    rcases hp with ⟨d1, e, rfl⟩ | ⟨d1, d2, e, rfl⟩ | ⟨d1, d2, e, rfl⟩
    ·
      obtain rfl := Sum.inl.inj e
      refine t_istore [.float 1, .ref X, .ref o, .ref (o + 17), .int (nI i), .int (nI 1), .int (nI 0)] (Or.inr ⟨rfl, dL_law_371⟩) (by decide) rfl ?_
      refine q_goto (tgt := 944) dL_law_373 (by decide) ?_
      refine q_weak [.float 1, .ref X, .ref o, .ref (o + 17), .int (nI i), .retAddr 0, .retAddr 0] ⟨Or.inl rfl, Or.inl rfl, Or.inl rfl, Or.inl rfl, Or.inl rfl, Or.inr ⟨0, rfl⟩, Or.inr ⟨0, rfl⟩, trivial⟩ ?_
      exact q_less (by omega) (by omega) (hnext _ h (rel_bad hXo hm4 hR) (SB.mo (sb_bad hSB) (by omega)) hok)
    ·
      exact absurd trivial d2
    ·
      exact absurd d1 c2
  ·
    obtain rfl := Sum.inl.inj e
    refine t_istore [.float 1, .ref X, .ref o, .ref (o + 17), .int (nI i), .int (nI 0), .retAddr 0] (Or.inr ⟨rfl, dL_law_359⟩) (by decide) rfl ?_
    refine q_aload_n dL_law_361 rfl ?_
    refine q_aload_n_x dL_law_362 rfl ?_
    refine q_iload dL_law_363 rfl ?_
    refine q_iconst (v := nI 1) dL_law_365 rfl ?_
    refine t_iadd_n dL_law_366 ?_
    refine q_sld dL_law_367 (by exact vp_in_nI (by omega) (by omega)) ?_
    rw [← hp1]
    have f1 : nn p1 ≤ 2000 := by have h9 := c2.nn; omega
    refine w_callV (M' := mX5_tick) [.int (p1)] [] kX5 dL_law_368 wPL_89v wIX5_tick wSX5_tick iX5_tick oX5_tick rfl hok HM.1 (pX5_tick Sc Γ n ((vset (fX4_tick X many (nn p1) V) (o + 17) 0 ((vX4_tick X many (nn p1) V)))) o many HM hm1 hm4 p1 b (by omega) (sb_w hXo hSB (aC.tick))) (Nat.zero_le _) (Nat.zero_le _) (Nat.le_of_ble_eq_true rfl) (Nat.le_of_ble_eq_true rfl) (Nat.le_of_ble_eq_true rfl) rfl (fun v h F hp hok => ?_) (fun x h F hp hok => by rcases hp with ⟨-, e, -⟩ | ⟨-, -, e, -⟩ | ⟨-, -, e, -⟩ <;> cases e)
    rcases hp with ⟨d1, e, rfl⟩ | ⟨d1, d2, e, rfl⟩ | ⟨d1, d2, e, rfl⟩
    ·
      exact absurd c2 d1
    ·
      exact absurd trivial d2
    ·
      obtain rfl := Sum.inl.inj e
      have hst := st_tick (x := (vX4_tick X many (nn p1) V)) hXo hm4 hR hSB (by omega) f1
      refine t_istore [.float 1, .ref X, .ref o, .ref (o + 17), .int (nI i), .int (nI 0), .int (vX5_tick o many (nn p1) (vset ((vset (fX4_tick X many (nn p1) V) (o + 17) 0 ((vX4_tick X many (nn p1) V)))) o 0 (nI 0)))] (Or.inr ⟨rfl, dL_law_371⟩) (by decide) rfl ?_
      refine q_goto (tgt := 944) dL_law_373 (by decide) ?_
      refine q_weak [.float 1, .ref X, .ref o, .ref (o + 17), .int (nI i), .retAddr 0, .retAddr 0] ⟨Or.inl rfl, Or.inl rfl, Or.inl rfl, Or.inl rfl, Or.inl rfl, Or.inr ⟨0, rfl⟩, Or.inr ⟨0, rfl⟩, trivial⟩ ?_
      exact q_less (by omega) (by omega) (hnext _ h (hst.1) (SB.mo (hst.2.1) (by omega)) hok)
set_option maxRecDepth 20000 in
set_option maxHeartbeats 4000000 in
theorem arm4 (Sc : q_S) (hS : Sc.1 ≤ 3073) (Γ : Nat → q_K) (n X o many : Nat) (HG : sGF Γ X many) (HM : sM Γ o many) (hw : Γ (o + 17) = (5, 1, [])) (hm1 : 1 ≤ many) (hm4 : many ≤ 4) (hXo : X + 7 + 37 * many = o) (V : q_V) (b i kc ks : Nat) (hb : b + 8004 ≤ 2000000000) (hi : i + 6 ≤ Sc.1) (hR : Rel V V X many o) (hSB : SB V o b) (h : q_H) (hok : q_ok (gX Γ V) h) (Q : q_O → q_H → Nat → Prop) (hnext : ∀ (V' : q_V) (h : q_H), Rel V' V' X many o → SB V' o (b + 8004) → q_ok (gX Γ V') h → q_A Sc mL_law 944 [.float 1, .ref X, .ref o, .ref (o + 17), .int (nI i), .retAddr 0, .retAddr 0] [] h n kc ks Q) : q_A Sc mL_law 376 [.float 1, .ref X, .ref o, .ref (o + 17), .int (nI i), .retAddr 0, .retAddr 0] [] h n (kc + 4) (ks + 24) Q := by
  obtain ⟨p1, hp1⟩ : ∃ p, p = Sc.2 (nI (i + 1)).toNatClampNeg := ⟨_, rfl⟩
  obtain ⟨p2, hp2⟩ : ∃ p, p = Sc.2 (nI (i + 2)).toNatClampNeg := ⟨_, rfl⟩
  obtain ⟨p3, hp3⟩ : ∃ p, p = Sc.2 (nI (i + 3)).toNatClampNeg := ⟨_, rfl⟩
  obtain ⟨p4, hp4⟩ : ∃ p, p = Sc.2 (nI (i + 4)).toNatClampNeg := ⟨_, rfl⟩
  obtain ⟨p5, hp5⟩ : ∃ p, p = Sc.2 (nI (i + 5)).toNatClampNeg := ⟨_, rfl⟩
  refine q_aload_n dL_law_376 rfl ?_
  refine q_aload_n_x dL_law_377 rfl ?_
  refine q_iload dL_law_378 rfl ?_
  refine q_iconst (v := nI 1) dL_law_380 rfl ?_
  refine t_iadd_n dL_law_381 ?_
  refine q_sld dL_law_382 (by exact vp_in_nI (by omega) (by omega)) ?_
  rw [← hp1]
  refine q_aload_n_x dL_law_383 rfl ?_
  refine q_iload dL_law_384 rfl ?_
  refine q_iconst (v := nI 2) dL_law_386 rfl ?_
  refine t_iadd_n dL_law_387 ?_
  refine q_sld dL_law_388 (by exact vp_in_nI (by omega) (by omega)) ?_
  rw [← hp2]
  refine q_aload_n_x dL_law_389 rfl ?_
  refine q_iload dL_law_390 rfl ?_
  refine q_iconst (v := nI 3) dL_law_392 rfl ?_
  refine t_iadd_n dL_law_393 ?_
  refine q_sld dL_law_394 (by exact vp_in_nI (by omega) (by omega)) ?_
  rw [← hp3]
  refine q_aload_n_x dL_law_395 rfl ?_
  refine q_iload dL_law_396 rfl ?_
  refine q_iconst (v := nI 4) dL_law_398 rfl ?_
  refine t_iadd_n dL_law_399 ?_
  refine q_sld dL_law_400 (by exact vp_in_nI (by omega) (by omega)) ?_
  rw [← hp4]
  refine q_if_eq (tgt := 408) dL_law_401 (by decide) (fun c737 => ?_) (fun c737 => ?_)
  ·
    refine q_iconst (v := nI 0) dL_law_408 rfl ?_
    refine q_aload_n_x dL_law_409 rfl ?_
    refine q_iload dL_law_410 rfl ?_
    refine q_iconst (v := nI 5) dL_law_412 rfl ?_
    refine t_iadd_n dL_law_413 ?_
    refine q_sld dL_law_414 (by exact vp_in_nI (by omega) (by omega)) ?_
    rw [← hp5]
    refine q_aload_n dL_law_415 rfl ?_
    refine w_callS (M' := mL_member) [.ref X, .int (p1), .int (p2), .int (p3), .int (nI 0), .int (p5), .ref (o + 17)] [] dL_law_416 wPL_90 wTL_member wNL iL_member oL_member rfl hok (hL_member Sc Γ n V X many HG hm1 hm4 p1 p2 p3 (nI 0) (Or.inl rfl) p5 (o + 17) hw) (by omega) (by omega) (Nat.le_of_ble_eq_true rfl) (Nat.le_of_ble_eq_true rfl) (Nat.le_of_ble_eq_true rfl) rfl (fun v h F hp hok => ?_) (fun x h F hp hok => ?_)
    rotate_left
    · rcases hp with ⟨-, e, -⟩ | ⟨-, -, e, -⟩ | ⟨-, -, e, -⟩ <;> cases e
    rcases hp with ⟨c1, e, rfl⟩ | ⟨c1, c2, e, rfl⟩ | ⟨c1, c2, e, rfl⟩
    ·
      obtain rfl := Sum.inl.inj e
      refine t_istore [.float 1, .ref X, .ref o, .ref (o + 17), .int (nI i), .int (nI 1), .retAddr 0] (Or.inr ⟨rfl, dL_law_419⟩) (by decide) rfl ?_
      refine q_aload_n dL_law_421 rfl ?_
      refine q_aload_n_x dL_law_422 rfl ?_
      refine q_iload dL_law_423 rfl ?_
      refine q_iconst (v := nI 1) dL_law_425 rfl ?_
      refine t_iadd_n dL_law_426 ?_
      refine q_sld dL_law_427 (by exact vp_in_nI (by omega) (by omega)) ?_
      rw [← hp1]
      refine q_aload_n_x dL_law_428 rfl ?_
      refine q_iload dL_law_429 rfl ?_
      refine q_iconst (v := nI 2) dL_law_431 rfl ?_
      refine t_iadd_n dL_law_432 ?_
      refine q_sld dL_law_433 (by exact vp_in_nI (by omega) (by omega)) ?_
      rw [← hp2]
      refine q_aload_n_x dL_law_434 rfl ?_
      refine q_iload dL_law_435 rfl ?_
      refine q_iconst (v := nI 3) dL_law_437 rfl ?_
      refine t_iadd_n dL_law_438 ?_
      refine q_sld dL_law_439 (by exact vp_in_nI (by omega) (by omega)) ?_
      rw [← hp3]
      refine q_aload_n_x dL_law_440 rfl ?_
      refine q_iload dL_law_441 rfl ?_
      refine q_iconst (v := nI 4) dL_law_443 rfl ?_
      refine t_iadd_n dL_law_444 ?_
      refine q_sld dL_law_445 (by exact vp_in_nI (by omega) (by omega)) ?_
      rw [← hp4]
      refine q_if_eq (tgt := 453) dL_law_446 (by decide) (fun c738 => ?_) (fun c738 => ?_)
      rotate_left
      · exact absurd c737 c738
      refine q_iconst (v := nI 0) dL_law_453 rfl ?_
      refine q_aload_n_x dL_law_454 rfl ?_
      refine q_iload dL_law_455 rfl ?_
      refine q_iconst (v := nI 5) dL_law_457 rfl ?_
      refine t_iadd_n dL_law_458 ?_
      refine q_sld dL_law_459 (by exact vp_in_nI (by omega) (by omega)) ?_
      rw [← hp5]
      refine w_callV (M' := mX5_member) [.int (p1), .int (p2), .int (p3), .int (nI 0), .int (p5)] [] kX5 dL_law_460 wPL_93v wIX5_member wSX5_member iX5_member oX5_member rfl hok HM.1 (pX5_member Sc Γ n V o many HM hm1 hm4 p1 p2 p3 (nI 0) (Or.inl rfl) p5 b (by omega) hSB) (Nat.zero_le _) (Nat.zero_le _) (Nat.le_of_ble_eq_true rfl) (Nat.le_of_ble_eq_true rfl) (Nat.le_of_ble_eq_true rfl) rfl (fun v h F hp hok => ?_) (fun x h F hp hok => by rcases hp with ⟨-, e, -⟩ | ⟨-, -, e, -⟩ | ⟨-, -, e, -⟩ <;> cases e)
      rcases hp with ⟨d1, e, rfl⟩ | ⟨d1, d2, e, rfl⟩ | ⟨d1, d2, e, rfl⟩
      ·
        obtain rfl := Sum.inl.inj e
        refine t_istore [.float 1, .ref X, .ref o, .ref (o + 17), .int (nI i), .int (nI 1), .int (nI 0)] (Or.inr ⟨rfl, dL_law_463⟩) (by decide) rfl ?_
        refine q_goto (tgt := 944) dL_law_465 (by decide) ?_
        refine q_weak [.float 1, .ref X, .ref o, .ref (o + 17), .int (nI i), .retAddr 0, .retAddr 0] ⟨Or.inl rfl, Or.inl rfl, Or.inl rfl, Or.inl rfl, Or.inl rfl, Or.inr ⟨0, rfl⟩, Or.inr ⟨0, rfl⟩, trivial⟩ ?_
        exact q_less (by omega) (by omega) (hnext _ h (rel_bad hXo hm4 hR) (SB.mo (sb_bad hSB) (by omega)) hok)
      ·
        exact absurd d1 c1
      ·
        exact absurd d1 c1
    ·
      obtain rfl := Sum.inl.inj e
      refine t_istore [.float 1, .ref X, .ref o, .ref (o + 17), .int (nI i), .int (nI 2), .retAddr 0] (Or.inr ⟨rfl, dL_law_419⟩) (by decide) rfl ?_
      refine q_aload_n dL_law_421 rfl ?_
      refine q_aload_n_x dL_law_422 rfl ?_
      refine q_iload dL_law_423 rfl ?_
      refine q_iconst (v := nI 1) dL_law_425 rfl ?_
      refine t_iadd_n dL_law_426 ?_
      refine q_sld dL_law_427 (by exact vp_in_nI (by omega) (by omega)) ?_
      rw [← hp1]
      refine q_aload_n_x dL_law_428 rfl ?_
      refine q_iload dL_law_429 rfl ?_
      refine q_iconst (v := nI 2) dL_law_431 rfl ?_
      refine t_iadd_n dL_law_432 ?_
      refine q_sld dL_law_433 (by exact vp_in_nI (by omega) (by omega)) ?_
      rw [← hp2]
      refine q_aload_n_x dL_law_434 rfl ?_
      refine q_iload dL_law_435 rfl ?_
      refine q_iconst (v := nI 3) dL_law_437 rfl ?_
      refine t_iadd_n dL_law_438 ?_
      refine q_sld dL_law_439 (by exact vp_in_nI (by omega) (by omega)) ?_
      rw [← hp3]
      refine q_aload_n_x dL_law_440 rfl ?_
      refine q_iload dL_law_441 rfl ?_
      refine q_iconst (v := nI 4) dL_law_443 rfl ?_
      refine t_iadd_n dL_law_444 ?_
      refine q_sld dL_law_445 (by exact vp_in_nI (by omega) (by omega)) ?_
      rw [← hp4]
      refine q_if_eq (tgt := 453) dL_law_446 (by decide) (fun c740 => ?_) (fun c740 => ?_)
      rotate_left
      · exact absurd c737 c740
      refine q_iconst (v := nI 0) dL_law_453 rfl ?_
      refine q_aload_n_x dL_law_454 rfl ?_
      refine q_iload dL_law_455 rfl ?_
      refine q_iconst (v := nI 5) dL_law_457 rfl ?_
      refine t_iadd_n dL_law_458 ?_
      refine q_sld dL_law_459 (by exact vp_in_nI (by omega) (by omega)) ?_
      rw [← hp5]
      refine w_callV (M' := mX5_member) [.int (p1), .int (p2), .int (p3), .int (nI 0), .int (p5)] [] kX5 dL_law_460 wPL_93v wIX5_member wSX5_member iX5_member oX5_member rfl hok HM.1 (pX5_member Sc Γ n V o many HM hm1 hm4 p1 p2 p3 (nI 0) (Or.inl rfl) p5 b (by omega) hSB) (Nat.zero_le _) (Nat.zero_le _) (Nat.le_of_ble_eq_true rfl) (Nat.le_of_ble_eq_true rfl) (Nat.le_of_ble_eq_true rfl) rfl (fun v h F hp hok => ?_) (fun x h F hp hok => by rcases hp with ⟨-, e, -⟩ | ⟨-, -, e, -⟩ | ⟨-, -, e, -⟩ <;> cases e)
      rcases hp with ⟨d1, e, rfl⟩ | ⟨d1, d2, e, rfl⟩ | ⟨d1, d2, e, rfl⟩
      ·
        exact absurd c1 d1
      ·
        obtain rfl := Sum.inl.inj e
        refine t_istore [.float 1, .ref X, .ref o, .ref (o + 17), .int (nI i), .int (nI 2), .int (nI 0)] (Or.inr ⟨rfl, dL_law_463⟩) (by decide) rfl ?_
        refine q_goto (tgt := 944) dL_law_465 (by decide) ?_
        refine q_weak [.float 1, .ref X, .ref o, .ref (o + 17), .int (nI i), .retAddr 0, .retAddr 0] ⟨Or.inl rfl, Or.inl rfl, Or.inl rfl, Or.inl rfl, Or.inl rfl, Or.inr ⟨0, rfl⟩, Or.inr ⟨0, rfl⟩, trivial⟩ ?_
        exact q_less (by omega) (by omega) (hnext _ h (rel_bad hXo hm4 hR) (SB.mo (sb_bad hSB) (by omega)) hok)
      ·
        exact absurd d2 c2
    ·
      obtain rfl := Sum.inl.inj e
      refine t_istore [.float 1, .ref X, .ref o, .ref (o + 17), .int (nI i), .int (nI 0), .retAddr 0] (Or.inr ⟨rfl, dL_law_419⟩) (by decide) rfl ?_
      refine q_aload_n dL_law_421 rfl ?_
      refine q_aload_n_x dL_law_422 rfl ?_
      refine q_iload dL_law_423 rfl ?_
      refine q_iconst (v := nI 1) dL_law_425 rfl ?_
      refine t_iadd_n dL_law_426 ?_
      refine q_sld dL_law_427 (by exact vp_in_nI (by omega) (by omega)) ?_
      rw [← hp1]
      refine q_aload_n_x dL_law_428 rfl ?_
      refine q_iload dL_law_429 rfl ?_
      refine q_iconst (v := nI 2) dL_law_431 rfl ?_
      refine t_iadd_n dL_law_432 ?_
      refine q_sld dL_law_433 (by exact vp_in_nI (by omega) (by omega)) ?_
      rw [← hp2]
      refine q_aload_n_x dL_law_434 rfl ?_
      refine q_iload dL_law_435 rfl ?_
      refine q_iconst (v := nI 3) dL_law_437 rfl ?_
      refine t_iadd_n dL_law_438 ?_
      refine q_sld dL_law_439 (by exact vp_in_nI (by omega) (by omega)) ?_
      rw [← hp3]
      refine q_aload_n_x dL_law_440 rfl ?_
      refine q_iload dL_law_441 rfl ?_
      refine q_iconst (v := nI 4) dL_law_443 rfl ?_
      refine t_iadd_n dL_law_444 ?_
      refine q_sld dL_law_445 (by exact vp_in_nI (by omega) (by omega)) ?_
      rw [← hp4]
      refine q_if_eq (tgt := 453) dL_law_446 (by decide) (fun c743 => ?_) (fun c743 => ?_)
      rotate_left
      · exact absurd c737 c743
      refine q_iconst (v := nI 0) dL_law_453 rfl ?_
      refine q_aload_n_x dL_law_454 rfl ?_
      refine q_iload dL_law_455 rfl ?_
      refine q_iconst (v := nI 5) dL_law_457 rfl ?_
      refine t_iadd_n dL_law_458 ?_
      refine q_sld dL_law_459 (by exact vp_in_nI (by omega) (by omega)) ?_
      rw [← hp5]
      have f1 : nn p1 < many := by have h9 := (c1.1).nn; omega
      have f2 : nn p2 < 6 := by have h9 := (c1.2.1).nn; omega
      have f3 : nn p3 < 8 := by have h9 := (c1.2.2).nn; omega
      refine w_callV (M' := mX5_member) [.int (p1), .int (p2), .int (p3), .int (nI 0), .int (p5)] [] kX5 dL_law_460 wPL_93v wIX5_member wSX5_member iX5_member oX5_member rfl hok HM.1 (pX5_member Sc Γ n ((vset (fX4_member X many (nn p1) (nn p2) (nn p3) (nI 0) p5 V) (o + 17) 0 ((vX4_member X many (nn p1) (nn p2) (nn p3) (nI 0) p5 V)))) o many HM hm1 hm4 p1 p2 p3 (nI 0) (Or.inl rfl) p5 b (by omega) (sb_w hXo hSB (aC.member f1 f2 f3))) (Nat.zero_le _) (Nat.zero_le _) (Nat.le_of_ble_eq_true rfl) (Nat.le_of_ble_eq_true rfl) (Nat.le_of_ble_eq_true rfl) rfl (fun v h F hp hok => ?_) (fun x h F hp hok => by rcases hp with ⟨-, e, -⟩ | ⟨-, -, e, -⟩ | ⟨-, -, e, -⟩ <;> cases e)
      rcases hp with ⟨d1, e, rfl⟩ | ⟨d1, d2, e, rfl⟩ | ⟨d1, d2, e, rfl⟩
      ·
        exact absurd c1 d1
      ·
        exact absurd c2 d2
      ·
        obtain rfl := Sum.inl.inj e
        have hst := st_mem (x := (vX4_member X many (nn p1) (nn p2) (nn p3) (nI 0) p5 V)) hXo hm4 hR hSB (by omega) f1 f2 f3 (Or.inl rfl) (S16.inZ c2)
        refine t_istore [.float 1, .ref X, .ref o, .ref (o + 17), .int (nI i), .int (nI 0), .int (vX5_member o many (nn p1) (nn p2) (nn p3) (nI 0) p5 (vset ((vset (fX4_member X many (nn p1) (nn p2) (nn p3) (nI 0) p5 V) (o + 17) 0 ((vX4_member X many (nn p1) (nn p2) (nn p3) (nI 0) p5 V)))) o 0 (nI 0)))] (Or.inr ⟨rfl, dL_law_463⟩) (by decide) rfl ?_
        refine q_goto (tgt := 944) dL_law_465 (by decide) ?_
        refine q_weak [.float 1, .ref X, .ref o, .ref (o + 17), .int (nI i), .retAddr 0, .retAddr 0] ⟨Or.inl rfl, Or.inl rfl, Or.inl rfl, Or.inl rfl, Or.inl rfl, Or.inr ⟨0, rfl⟩, Or.inr ⟨0, rfl⟩, trivial⟩ ?_
        exact q_less (by omega) (by omega) (hnext _ h (hst.1) (SB.mo (hst.2.1) (by omega)) hok)
  ·
    refine q_iconst (v := nI 1) dL_law_404 rfl ?_
    refine q_goto (tgt := 409) dL_law_405 (by decide) ?_
    refine q_aload_n_x dL_law_409 rfl ?_
    refine q_iload dL_law_410 rfl ?_
    refine q_iconst (v := nI 5) dL_law_412 rfl ?_
    refine t_iadd_n dL_law_413 ?_
    refine q_sld dL_law_414 (by exact vp_in_nI (by omega) (by omega)) ?_
    rw [← hp5]
    refine q_aload_n dL_law_415 rfl ?_
    refine w_callS (M' := mL_member) [.ref X, .int (p1), .int (p2), .int (p3), .int (nI 1), .int (p5), .ref (o + 17)] [] dL_law_416 wPL_90 wTL_member wNL iL_member oL_member rfl hok (hL_member Sc Γ n V X many HG hm1 hm4 p1 p2 p3 (nI 1) (Or.inr rfl) p5 (o + 17) hw) (by omega) (by omega) (Nat.le_of_ble_eq_true rfl) (Nat.le_of_ble_eq_true rfl) (Nat.le_of_ble_eq_true rfl) rfl (fun v h F hp hok => ?_) (fun x h F hp hok => ?_)
    rotate_left
    · rcases hp with ⟨-, e, -⟩ | ⟨-, -, e, -⟩ | ⟨-, -, e, -⟩ <;> cases e
    rcases hp with ⟨c1, e, rfl⟩ | ⟨c1, c2, e, rfl⟩ | ⟨c1, c2, e, rfl⟩
    ·
      obtain rfl := Sum.inl.inj e
      refine t_istore [.float 1, .ref X, .ref o, .ref (o + 17), .int (nI i), .int (nI 1), .retAddr 0] (Or.inr ⟨rfl, dL_law_419⟩) (by decide) rfl ?_
      refine q_aload_n dL_law_421 rfl ?_
      refine q_aload_n_x dL_law_422 rfl ?_
      refine q_iload dL_law_423 rfl ?_
      refine q_iconst (v := nI 1) dL_law_425 rfl ?_
      refine t_iadd_n dL_law_426 ?_
      refine q_sld dL_law_427 (by exact vp_in_nI (by omega) (by omega)) ?_
      rw [← hp1]
      refine q_aload_n_x dL_law_428 rfl ?_
      refine q_iload dL_law_429 rfl ?_
      refine q_iconst (v := nI 2) dL_law_431 rfl ?_
      refine t_iadd_n dL_law_432 ?_
      refine q_sld dL_law_433 (by exact vp_in_nI (by omega) (by omega)) ?_
      rw [← hp2]
      refine q_aload_n_x dL_law_434 rfl ?_
      refine q_iload dL_law_435 rfl ?_
      refine q_iconst (v := nI 3) dL_law_437 rfl ?_
      refine t_iadd_n dL_law_438 ?_
      refine q_sld dL_law_439 (by exact vp_in_nI (by omega) (by omega)) ?_
      rw [← hp3]
      refine q_aload_n_x dL_law_440 rfl ?_
      refine q_iload dL_law_441 rfl ?_
      refine q_iconst (v := nI 4) dL_law_443 rfl ?_
      refine t_iadd_n dL_law_444 ?_
      refine q_sld dL_law_445 (by exact vp_in_nI (by omega) (by omega)) ?_
      rw [← hp4]
      refine q_if_eq (tgt := 453) dL_law_446 (by decide) (fun c745 => ?_) (fun c745 => ?_)
      · exact absurd c745 c737
      refine q_iconst (v := nI 1) dL_law_449 rfl ?_
      refine q_goto (tgt := 454) dL_law_450 (by decide) ?_
      refine q_aload_n_x dL_law_454 rfl ?_
      refine q_iload dL_law_455 rfl ?_
      refine q_iconst (v := nI 5) dL_law_457 rfl ?_
      refine t_iadd_n dL_law_458 ?_
      refine q_sld dL_law_459 (by exact vp_in_nI (by omega) (by omega)) ?_
      rw [← hp5]
      refine w_callV (M' := mX5_member) [.int (p1), .int (p2), .int (p3), .int (nI 1), .int (p5)] [] kX5 dL_law_460 wPL_93v wIX5_member wSX5_member iX5_member oX5_member rfl hok HM.1 (pX5_member Sc Γ n V o many HM hm1 hm4 p1 p2 p3 (nI 1) (Or.inr rfl) p5 b (by omega) hSB) (Nat.zero_le _) (Nat.zero_le _) (Nat.le_of_ble_eq_true rfl) (Nat.le_of_ble_eq_true rfl) (Nat.le_of_ble_eq_true rfl) rfl (fun v h F hp hok => ?_) (fun x h F hp hok => by rcases hp with ⟨-, e, -⟩ | ⟨-, -, e, -⟩ | ⟨-, -, e, -⟩ <;> cases e)
      rcases hp with ⟨d1, e, rfl⟩ | ⟨d1, d2, e, rfl⟩ | ⟨d1, d2, e, rfl⟩
      ·
        obtain rfl := Sum.inl.inj e
        refine t_istore [.float 1, .ref X, .ref o, .ref (o + 17), .int (nI i), .int (nI 1), .int (nI 0)] (Or.inr ⟨rfl, dL_law_463⟩) (by decide) rfl ?_
        refine q_goto (tgt := 944) dL_law_465 (by decide) ?_
        refine q_weak [.float 1, .ref X, .ref o, .ref (o + 17), .int (nI i), .retAddr 0, .retAddr 0] ⟨Or.inl rfl, Or.inl rfl, Or.inl rfl, Or.inl rfl, Or.inl rfl, Or.inr ⟨0, rfl⟩, Or.inr ⟨0, rfl⟩, trivial⟩ ?_
        exact q_less (by omega) (by omega) (hnext _ h (rel_bad hXo hm4 hR) (SB.mo (sb_bad hSB) (by omega)) hok)
      ·
        exact absurd d1 c1
      ·
        exact absurd d1 c1
    ·
      obtain rfl := Sum.inl.inj e
      refine t_istore [.float 1, .ref X, .ref o, .ref (o + 17), .int (nI i), .int (nI 2), .retAddr 0] (Or.inr ⟨rfl, dL_law_419⟩) (by decide) rfl ?_
      refine q_aload_n dL_law_421 rfl ?_
      refine q_aload_n_x dL_law_422 rfl ?_
      refine q_iload dL_law_423 rfl ?_
      refine q_iconst (v := nI 1) dL_law_425 rfl ?_
      refine t_iadd_n dL_law_426 ?_
      refine q_sld dL_law_427 (by exact vp_in_nI (by omega) (by omega)) ?_
      rw [← hp1]
      refine q_aload_n_x dL_law_428 rfl ?_
      refine q_iload dL_law_429 rfl ?_
      refine q_iconst (v := nI 2) dL_law_431 rfl ?_
      refine t_iadd_n dL_law_432 ?_
      refine q_sld dL_law_433 (by exact vp_in_nI (by omega) (by omega)) ?_
      rw [← hp2]
      refine q_aload_n_x dL_law_434 rfl ?_
      refine q_iload dL_law_435 rfl ?_
      refine q_iconst (v := nI 3) dL_law_437 rfl ?_
      refine t_iadd_n dL_law_438 ?_
      refine q_sld dL_law_439 (by exact vp_in_nI (by omega) (by omega)) ?_
      rw [← hp3]
      refine q_aload_n_x dL_law_440 rfl ?_
      refine q_iload dL_law_441 rfl ?_
      refine q_iconst (v := nI 4) dL_law_443 rfl ?_
      refine t_iadd_n dL_law_444 ?_
      refine q_sld dL_law_445 (by exact vp_in_nI (by omega) (by omega)) ?_
      rw [← hp4]
      refine q_if_eq (tgt := 453) dL_law_446 (by decide) (fun c747 => ?_) (fun c747 => ?_)
      · exact absurd c747 c737
      refine q_iconst (v := nI 1) dL_law_449 rfl ?_
      refine q_goto (tgt := 454) dL_law_450 (by decide) ?_
      refine q_aload_n_x dL_law_454 rfl ?_
      refine q_iload dL_law_455 rfl ?_
      refine q_iconst (v := nI 5) dL_law_457 rfl ?_
      refine t_iadd_n dL_law_458 ?_
      refine q_sld dL_law_459 (by exact vp_in_nI (by omega) (by omega)) ?_
      rw [← hp5]
      refine w_callV (M' := mX5_member) [.int (p1), .int (p2), .int (p3), .int (nI 1), .int (p5)] [] kX5 dL_law_460 wPL_93v wIX5_member wSX5_member iX5_member oX5_member rfl hok HM.1 (pX5_member Sc Γ n V o many HM hm1 hm4 p1 p2 p3 (nI 1) (Or.inr rfl) p5 b (by omega) hSB) (Nat.zero_le _) (Nat.zero_le _) (Nat.le_of_ble_eq_true rfl) (Nat.le_of_ble_eq_true rfl) (Nat.le_of_ble_eq_true rfl) rfl (fun v h F hp hok => ?_) (fun x h F hp hok => by rcases hp with ⟨-, e, -⟩ | ⟨-, -, e, -⟩ | ⟨-, -, e, -⟩ <;> cases e)
      rcases hp with ⟨d1, e, rfl⟩ | ⟨d1, d2, e, rfl⟩ | ⟨d1, d2, e, rfl⟩
      ·
        exact absurd c1 d1
      ·
        obtain rfl := Sum.inl.inj e
        refine t_istore [.float 1, .ref X, .ref o, .ref (o + 17), .int (nI i), .int (nI 2), .int (nI 0)] (Or.inr ⟨rfl, dL_law_463⟩) (by decide) rfl ?_
        refine q_goto (tgt := 944) dL_law_465 (by decide) ?_
        refine q_weak [.float 1, .ref X, .ref o, .ref (o + 17), .int (nI i), .retAddr 0, .retAddr 0] ⟨Or.inl rfl, Or.inl rfl, Or.inl rfl, Or.inl rfl, Or.inl rfl, Or.inr ⟨0, rfl⟩, Or.inr ⟨0, rfl⟩, trivial⟩ ?_
        exact q_less (by omega) (by omega) (hnext _ h (rel_bad hXo hm4 hR) (SB.mo (sb_bad hSB) (by omega)) hok)
      ·
        exact absurd d2 c2
    ·
      obtain rfl := Sum.inl.inj e
      refine t_istore [.float 1, .ref X, .ref o, .ref (o + 17), .int (nI i), .int (nI 0), .retAddr 0] (Or.inr ⟨rfl, dL_law_419⟩) (by decide) rfl ?_
      refine q_aload_n dL_law_421 rfl ?_
      refine q_aload_n_x dL_law_422 rfl ?_
      refine q_iload dL_law_423 rfl ?_
      refine q_iconst (v := nI 1) dL_law_425 rfl ?_
      refine t_iadd_n dL_law_426 ?_
      refine q_sld dL_law_427 (by exact vp_in_nI (by omega) (by omega)) ?_
      rw [← hp1]
      refine q_aload_n_x dL_law_428 rfl ?_
      refine q_iload dL_law_429 rfl ?_
      refine q_iconst (v := nI 2) dL_law_431 rfl ?_
      refine t_iadd_n dL_law_432 ?_
      refine q_sld dL_law_433 (by exact vp_in_nI (by omega) (by omega)) ?_
      rw [← hp2]
      refine q_aload_n_x dL_law_434 rfl ?_
      refine q_iload dL_law_435 rfl ?_
      refine q_iconst (v := nI 3) dL_law_437 rfl ?_
      refine t_iadd_n dL_law_438 ?_
      refine q_sld dL_law_439 (by exact vp_in_nI (by omega) (by omega)) ?_
      rw [← hp3]
      refine q_aload_n_x dL_law_440 rfl ?_
      refine q_iload dL_law_441 rfl ?_
      refine q_iconst (v := nI 4) dL_law_443 rfl ?_
      refine t_iadd_n dL_law_444 ?_
      refine q_sld dL_law_445 (by exact vp_in_nI (by omega) (by omega)) ?_
      rw [← hp4]
      refine q_if_eq (tgt := 453) dL_law_446 (by decide) (fun c750 => ?_) (fun c750 => ?_)
      · exact absurd c750 c737
      refine q_iconst (v := nI 1) dL_law_449 rfl ?_
      refine q_goto (tgt := 454) dL_law_450 (by decide) ?_
      refine q_aload_n_x dL_law_454 rfl ?_
      refine q_iload dL_law_455 rfl ?_
      refine q_iconst (v := nI 5) dL_law_457 rfl ?_
      refine t_iadd_n dL_law_458 ?_
      refine q_sld dL_law_459 (by exact vp_in_nI (by omega) (by omega)) ?_
      rw [← hp5]
      have f1 : nn p1 < many := by have h9 := (c1.1).nn; omega
      have f2 : nn p2 < 6 := by have h9 := (c1.2.1).nn; omega
      have f3 : nn p3 < 8 := by have h9 := (c1.2.2).nn; omega
      refine w_callV (M' := mX5_member) [.int (p1), .int (p2), .int (p3), .int (nI 1), .int (p5)] [] kX5 dL_law_460 wPL_93v wIX5_member wSX5_member iX5_member oX5_member rfl hok HM.1 (pX5_member Sc Γ n ((vset (fX4_member X many (nn p1) (nn p2) (nn p3) (nI 1) p5 V) (o + 17) 0 ((vX4_member X many (nn p1) (nn p2) (nn p3) (nI 1) p5 V)))) o many HM hm1 hm4 p1 p2 p3 (nI 1) (Or.inr rfl) p5 b (by omega) (sb_w hXo hSB (aC.member f1 f2 f3))) (Nat.zero_le _) (Nat.zero_le _) (Nat.le_of_ble_eq_true rfl) (Nat.le_of_ble_eq_true rfl) (Nat.le_of_ble_eq_true rfl) rfl (fun v h F hp hok => ?_) (fun x h F hp hok => by rcases hp with ⟨-, e, -⟩ | ⟨-, -, e, -⟩ | ⟨-, -, e, -⟩ <;> cases e)
      rcases hp with ⟨d1, e, rfl⟩ | ⟨d1, d2, e, rfl⟩ | ⟨d1, d2, e, rfl⟩
      ·
        exact absurd c1 d1
      ·
        exact absurd c2 d2
      ·
        obtain rfl := Sum.inl.inj e
        have hst := st_mem (x := (vX4_member X many (nn p1) (nn p2) (nn p3) (nI 1) p5 V)) hXo hm4 hR hSB (by omega) f1 f2 f3 (Or.inr rfl) (S16.inZ c2)
        refine t_istore [.float 1, .ref X, .ref o, .ref (o + 17), .int (nI i), .int (nI 0), .int (vX5_member o many (nn p1) (nn p2) (nn p3) (nI 1) p5 (vset ((vset (fX4_member X many (nn p1) (nn p2) (nn p3) (nI 1) p5 V) (o + 17) 0 ((vX4_member X many (nn p1) (nn p2) (nn p3) (nI 1) p5 V)))) o 0 (nI 0)))] (Or.inr ⟨rfl, dL_law_463⟩) (by decide) rfl ?_
        refine q_goto (tgt := 944) dL_law_465 (by decide) ?_
        refine q_weak [.float 1, .ref X, .ref o, .ref (o + 17), .int (nI i), .retAddr 0, .retAddr 0] ⟨Or.inl rfl, Or.inl rfl, Or.inl rfl, Or.inl rfl, Or.inl rfl, Or.inr ⟨0, rfl⟩, Or.inr ⟨0, rfl⟩, trivial⟩ ?_
        exact q_less (by omega) (by omega) (hnext _ h (hst.1) (SB.mo (hst.2.1) (by omega)) hok)
set_option maxRecDepth 20000 in
set_option maxHeartbeats 4000000 in
theorem arm5 (Sc : q_S) (hS : Sc.1 ≤ 3073) (Γ : Nat → q_K) (n X o many : Nat) (HG : sGF Γ X many) (HM : sM Γ o many) (hw : Γ (o + 17) = (5, 1, [])) (hm1 : 1 ≤ many) (hm4 : many ≤ 4) (hXo : X + 7 + 37 * many = o) (V : q_V) (b i kc ks : Nat) (hb : b + 8004 ≤ 2000000000) (hi : i + 6 ≤ Sc.1) (hR : Rel V V X many o) (hSB : SB V o b) (h : q_H) (hok : q_ok (gX Γ V) h) (Q : q_O → q_H → Nat → Prop) (hnext : ∀ (V' : q_V) (h : q_H), Rel V' V' X many o → SB V' o (b + 8004) → q_ok (gX Γ V') h → q_A Sc mL_law 944 [.float 1, .ref X, .ref o, .ref (o + 17), .int (nI i), .retAddr 0, .retAddr 0] [] h n kc ks Q) : q_A Sc mL_law 468 [.float 1, .ref X, .ref o, .ref (o + 17), .int (nI i), .retAddr 0, .retAddr 0] [] h n (kc + 4) (ks + 24) Q := by
  obtain ⟨p1, hp1⟩ : ∃ p, p = Sc.2 (nI (i + 1)).toNatClampNeg := ⟨_, rfl⟩
  obtain ⟨p2, hp2⟩ : ∃ p, p = Sc.2 (nI (i + 2)).toNatClampNeg := ⟨_, rfl⟩
  obtain ⟨p3, hp3⟩ : ∃ p, p = Sc.2 (nI (i + 3)).toNatClampNeg := ⟨_, rfl⟩
  obtain ⟨p4, hp4⟩ : ∃ p, p = Sc.2 (nI (i + 4)).toNatClampNeg := ⟨_, rfl⟩
  obtain ⟨p5, hp5⟩ : ∃ p, p = Sc.2 (nI (i + 5)).toNatClampNeg := ⟨_, rfl⟩
  refine q_aload_n dL_law_468 rfl ?_
  refine q_aload_n_x dL_law_469 rfl ?_
  refine q_iload dL_law_470 rfl ?_
  refine q_iconst (v := nI 1) dL_law_472 rfl ?_
  refine t_iadd_n dL_law_473 ?_
  refine q_sld dL_law_474 (by exact vp_in_nI (by omega) (by omega)) ?_
  rw [← hp1]
  refine q_aload_n_x dL_law_475 rfl ?_
  refine q_iload dL_law_476 rfl ?_
  refine q_iconst (v := nI 2) dL_law_478 rfl ?_
  refine t_iadd_n dL_law_479 ?_
  refine q_sld dL_law_480 (by exact vp_in_nI (by omega) (by omega)) ?_
  rw [← hp2]
  refine q_aload_n dL_law_481 rfl ?_
  refine w_callS (M' := mL_answer) [.ref X, .int (p1), .int (p2), .ref (o + 17)] [] dL_law_482 wPL_94 wTL_answer wNL iL_answer oL_answer rfl hok (hL_answer Sc Γ n V X many HG hm1 hm4 p1 p2 (o + 17) hw) (by omega) (by omega) (Nat.le_of_ble_eq_true rfl) (Nat.le_of_ble_eq_true rfl) (Nat.le_of_ble_eq_true rfl) rfl (fun v h F hp hok => ?_) (fun x h F hp hok => ?_)
  rotate_left
  · rcases hp with ⟨-, e, -⟩ | ⟨-, -, e, -⟩ | ⟨-, -, e, -⟩ <;> cases e
  rcases hp with ⟨c1, e, rfl⟩ | ⟨c1, c2, e, rfl⟩ | ⟨c1, c2, e, rfl⟩
  ·
    obtain rfl := Sum.inl.inj e
    refine t_istore [.float 1, .ref X, .ref o, .ref (o + 17), .int (nI i), .int (nI 1), .retAddr 0] (Or.inr ⟨rfl, dL_law_485⟩) (by decide) rfl ?_
    refine q_aload_n dL_law_487 rfl ?_
    refine q_aload_n_x dL_law_488 rfl ?_
    refine q_iload dL_law_489 rfl ?_
    refine q_iconst (v := nI 1) dL_law_491 rfl ?_
    refine t_iadd_n dL_law_492 ?_
    refine q_sld dL_law_493 (by exact vp_in_nI (by omega) (by omega)) ?_
    rw [← hp1]
    refine q_aload_n_x dL_law_494 rfl ?_
    refine q_iload dL_law_495 rfl ?_
    refine q_iconst (v := nI 2) dL_law_497 rfl ?_
    refine t_iadd_n dL_law_498 ?_
    refine q_sld dL_law_499 (by exact vp_in_nI (by omega) (by omega)) ?_
    rw [← hp2]
    refine w_callV (M' := mX5_answer) [.int (p1), .int (p2)] [] kX5 dL_law_500 wPL_97v wIX5_answer wSX5_answer iX5_answer oX5_answer rfl hok HM.1 (pX5_answer Sc Γ n V o many HM hm1 hm4 p1 p2 b (by omega) hSB) (Nat.zero_le _) (Nat.zero_le _) (Nat.le_of_ble_eq_true rfl) (Nat.le_of_ble_eq_true rfl) (Nat.le_of_ble_eq_true rfl) rfl (fun v h F hp hok => ?_) (fun x h F hp hok => by rcases hp with ⟨-, e, -⟩ | ⟨-, -, e, -⟩ | ⟨-, -, e, -⟩ <;> cases e)
    rcases hp with ⟨d1, e, rfl⟩ | ⟨d1, d2, e, rfl⟩ | ⟨d1, d2, e, rfl⟩
    ·
      obtain rfl := Sum.inl.inj e
      refine t_istore [.float 1, .ref X, .ref o, .ref (o + 17), .int (nI i), .int (nI 1), .int (nI 0)] (Or.inr ⟨rfl, dL_law_503⟩) (by decide) rfl ?_
      refine q_goto (tgt := 944) dL_law_505 (by decide) ?_
      refine q_weak [.float 1, .ref X, .ref o, .ref (o + 17), .int (nI i), .retAddr 0, .retAddr 0] ⟨Or.inl rfl, Or.inl rfl, Or.inl rfl, Or.inl rfl, Or.inl rfl, Or.inr ⟨0, rfl⟩, Or.inr ⟨0, rfl⟩, trivial⟩ ?_
      exact q_less (by omega) (by omega) (hnext _ h (rel_bad hXo hm4 hR) (SB.mo (sb_bad hSB) (by omega)) hok)
    ·
      exact absurd trivial d2
    ·
      exact absurd d1 c1
  ·
    exact absurd trivial c2
  ·
    obtain rfl := Sum.inl.inj e
    refine t_istore [.float 1, .ref X, .ref o, .ref (o + 17), .int (nI i), .int (nI 0), .retAddr 0] (Or.inr ⟨rfl, dL_law_485⟩) (by decide) rfl ?_
    refine q_aload_n dL_law_487 rfl ?_
    refine q_aload_n_x dL_law_488 rfl ?_
    refine q_iload dL_law_489 rfl ?_
    refine q_iconst (v := nI 1) dL_law_491 rfl ?_
    refine t_iadd_n dL_law_492 ?_
    refine q_sld dL_law_493 (by exact vp_in_nI (by omega) (by omega)) ?_
    rw [← hp1]
    refine q_aload_n_x dL_law_494 rfl ?_
    refine q_iload dL_law_495 rfl ?_
    refine q_iconst (v := nI 2) dL_law_497 rfl ?_
    refine t_iadd_n dL_law_498 ?_
    refine q_sld dL_law_499 (by exact vp_in_nI (by omega) (by omega)) ?_
    rw [← hp2]
    have f1 : nn p1 < many := by have h9 := (c1.1).nn; omega
    have f2 : nn p2 < 6 := by have h9 := (c1.2).nn; omega
    refine w_callV (M' := mX5_answer) [.int (p1), .int (p2)] [] kX5 dL_law_500 wPL_97v wIX5_answer wSX5_answer iX5_answer oX5_answer rfl hok HM.1 (pX5_answer Sc Γ n ((vset (fX4_answer X many (nn p1) (nn p2) V) (o + 17) 0 ((vX4_answer X many (nn p1) (nn p2) V)))) o many HM hm1 hm4 p1 p2 b (by omega) (sb_w hXo hSB (aC.answer f1))) (Nat.zero_le _) (Nat.zero_le _) (Nat.le_of_ble_eq_true rfl) (Nat.le_of_ble_eq_true rfl) (Nat.le_of_ble_eq_true rfl) rfl (fun v h F hp hok => ?_) (fun x h F hp hok => by rcases hp with ⟨-, e, -⟩ | ⟨-, -, e, -⟩ | ⟨-, -, e, -⟩ <;> cases e)
    rcases hp with ⟨d1, e, rfl⟩ | ⟨d1, d2, e, rfl⟩ | ⟨d1, d2, e, rfl⟩
    ·
      exact absurd c1 d1
    ·
      exact absurd trivial d2
    ·
      obtain rfl := Sum.inl.inj e
      have hst := st_ans (x := (vX4_answer X many (nn p1) (nn p2) V)) hXo hm4 hR hSB (by omega) f1 f2
      refine t_istore [.float 1, .ref X, .ref o, .ref (o + 17), .int (nI i), .int (nI 0), .int (vX5_answer o many (nn p1) (nn p2) (vset ((vset (fX4_answer X many (nn p1) (nn p2) V) (o + 17) 0 ((vX4_answer X many (nn p1) (nn p2) V)))) o 0 (nI 0)))] (Or.inr ⟨rfl, dL_law_503⟩) (by decide) rfl ?_
      refine q_goto (tgt := 944) dL_law_505 (by decide) ?_
      refine q_weak [.float 1, .ref X, .ref o, .ref (o + 17), .int (nI i), .retAddr 0, .retAddr 0] ⟨Or.inl rfl, Or.inl rfl, Or.inl rfl, Or.inl rfl, Or.inl rfl, Or.inr ⟨0, rfl⟩, Or.inr ⟨0, rfl⟩, trivial⟩ ?_
      exact q_less (by omega) (by omega) (hnext _ h (hst.1) (SB.mo (hst.2) (by omega)) hok)
set_option maxRecDepth 20000 in
set_option maxHeartbeats 4000000 in
theorem arm6 (Sc : q_S) (hS : Sc.1 ≤ 3073) (Γ : Nat → q_K) (n X o many : Nat) (HG : sGF Γ X many) (HM : sM Γ o many) (hw : Γ (o + 17) = (5, 1, [])) (hm1 : 1 ≤ many) (hm4 : many ≤ 4) (hXo : X + 7 + 37 * many = o) (V : q_V) (b i kc ks : Nat) (hb : b + 8004 ≤ 2000000000) (hi : i + 6 ≤ Sc.1) (hR : Rel V V X many o) (hSB : SB V o b) (h : q_H) (hok : q_ok (gX Γ V) h) (Q : q_O → q_H → Nat → Prop) (hnext : ∀ (V' : q_V) (h : q_H), Rel V' V' X many o → SB V' o (b + 8004) → q_ok (gX Γ V') h → q_A Sc mL_law 944 [.float 1, .ref X, .ref o, .ref (o + 17), .int (nI i), .retAddr 0, .retAddr 0] [] h n kc ks Q) : q_A Sc mL_law 508 [.float 1, .ref X, .ref o, .ref (o + 17), .int (nI i), .retAddr 0, .retAddr 0] [] h n (kc + 4) (ks + 24) Q := by
  obtain ⟨p1, hp1⟩ : ∃ p, p = Sc.2 (nI (i + 1)).toNatClampNeg := ⟨_, rfl⟩
  obtain ⟨p2, hp2⟩ : ∃ p, p = Sc.2 (nI (i + 2)).toNatClampNeg := ⟨_, rfl⟩
  obtain ⟨p3, hp3⟩ : ∃ p, p = Sc.2 (nI (i + 3)).toNatClampNeg := ⟨_, rfl⟩
  obtain ⟨p4, hp4⟩ : ∃ p, p = Sc.2 (nI (i + 4)).toNatClampNeg := ⟨_, rfl⟩
  obtain ⟨p5, hp5⟩ : ∃ p, p = Sc.2 (nI (i + 5)).toNatClampNeg := ⟨_, rfl⟩
  refine q_aload_n dL_law_508 rfl ?_
  refine q_aload_n_x dL_law_509 rfl ?_
  refine q_iload dL_law_510 rfl ?_
  refine q_iconst (v := nI 1) dL_law_512 rfl ?_
  refine t_iadd_n dL_law_513 ?_
  refine q_sld dL_law_514 (by exact vp_in_nI (by omega) (by omega)) ?_
  rw [← hp1]
  refine q_aload_n_x dL_law_515 rfl ?_
  refine q_iload dL_law_516 rfl ?_
  refine q_iconst (v := nI 2) dL_law_518 rfl ?_
  refine t_iadd_n dL_law_519 ?_
  refine q_sld dL_law_520 (by exact vp_in_nI (by omega) (by omega)) ?_
  rw [← hp2]
  refine q_aload_n_x dL_law_521 rfl ?_
  refine q_iload dL_law_522 rfl ?_
  refine q_iconst (v := nI 3) dL_law_524 rfl ?_
  refine t_iadd_n dL_law_525 ?_
  refine q_sld dL_law_526 (by exact vp_in_nI (by omega) (by omega)) ?_
  rw [← hp3]
  refine q_aload_n dL_law_527 rfl ?_
  refine w_callS (M' := mL_wanted) [.ref X, .int (p1), .int (p2), .int (p3), .ref (o + 17)] [] dL_law_528 wPL_98 wTL_wanted wNL iL_wanted oL_wanted rfl hok (hL_wanted Sc Γ n V X many HG hm1 hm4 p1 p2 p3 (o + 17) hw) (by omega) (by omega) (Nat.le_of_ble_eq_true rfl) (Nat.le_of_ble_eq_true rfl) (Nat.le_of_ble_eq_true rfl) rfl (fun v h F hp hok => ?_) (fun x h F hp hok => ?_)
  rotate_left
  · rcases hp with ⟨-, ⟨y, e⟩, -⟩ | ⟨-, e, -⟩ <;> cases e
  rcases hp with ⟨c1, ⟨y, e⟩, rfl⟩ | ⟨c1, e, x, rfl⟩
  ·
    obtain rfl := Sum.inl.inj e
    refine t_istore [.float 1, .ref X, .ref o, .ref (o + 17), .int (nI i), .int (y), .retAddr 0] (Or.inr ⟨rfl, dL_law_531⟩) (by decide) rfl ?_
    refine q_aload_n dL_law_533 rfl ?_
    refine q_aload_n_x dL_law_534 rfl ?_
    refine q_iload dL_law_535 rfl ?_
    refine q_iconst (v := nI 1) dL_law_537 rfl ?_
    refine t_iadd_n dL_law_538 ?_
    refine q_sld dL_law_539 (by exact vp_in_nI (by omega) (by omega)) ?_
    rw [← hp1]
    refine q_aload_n_x dL_law_540 rfl ?_
    refine q_iload dL_law_541 rfl ?_
    refine q_iconst (v := nI 2) dL_law_543 rfl ?_
    refine t_iadd_n dL_law_544 ?_
    refine q_sld dL_law_545 (by exact vp_in_nI (by omega) (by omega)) ?_
    rw [← hp2]
    refine q_aload_n_x dL_law_546 rfl ?_
    refine q_iload dL_law_547 rfl ?_
    refine q_iconst (v := nI 3) dL_law_549 rfl ?_
    refine t_iadd_n dL_law_550 ?_
    refine q_sld dL_law_551 (by exact vp_in_nI (by omega) (by omega)) ?_
    rw [← hp3]
    refine w_callV (M' := mX5_wanted) [.int (p1), .int (p2), .int (p3)] [] kX5 dL_law_552 wPL_101v wIX5_wanted wSX5_wanted iX5_wanted oX5_wanted rfl hok HM.1 (pX5_wanted Sc Γ n V o many HM hm1 hm4 p1 p2 p3) (Nat.zero_le _) (Nat.zero_le _) (Nat.le_of_ble_eq_true rfl) (Nat.le_of_ble_eq_true rfl) (Nat.le_of_ble_eq_true rfl) rfl (fun v h F hp hok => ?_) (fun x h F hp hok => by rcases hp with ⟨-, e, -⟩ | ⟨-, ⟨y, e⟩, -⟩ <;> cases e)
    rcases hp with ⟨d1, e, rfl⟩ | ⟨d1, ⟨yy, e⟩, rfl⟩
    ·
      obtain rfl := Sum.inl.inj e
      refine t_istore [.float 1, .ref X, .ref o, .ref (o + 17), .int (nI i), .int (y), .int (nI 0)] (Or.inr ⟨rfl, dL_law_555⟩) (by decide) rfl ?_
      refine q_goto (tgt := 944) dL_law_557 (by decide) ?_
      refine q_weak [.float 1, .ref X, .ref o, .ref (o + 17), .int (nI i), .retAddr 0, .retAddr 0] ⟨Or.inl rfl, Or.inl rfl, Or.inl rfl, Or.inl rfl, Or.inl rfl, Or.inr ⟨0, rfl⟩, Or.inr ⟨0, rfl⟩, trivial⟩ ?_
      exact q_less (by omega) (by omega) (hnext _ h (rel_bad hXo hm4 hR) (SB.mo (sb_bad hSB) (by omega)) hok)
    ·
      exact absurd d1 c1
  ·
    obtain rfl := Sum.inl.inj e
    refine t_istore [.float 1, .ref X, .ref o, .ref (o + 17), .int (nI i), .int (nI 0), .retAddr 0] (Or.inr ⟨rfl, dL_law_531⟩) (by decide) rfl ?_
    refine q_aload_n dL_law_533 rfl ?_
    refine q_aload_n_x dL_law_534 rfl ?_
    refine q_iload dL_law_535 rfl ?_
    refine q_iconst (v := nI 1) dL_law_537 rfl ?_
    refine t_iadd_n dL_law_538 ?_
    refine q_sld dL_law_539 (by exact vp_in_nI (by omega) (by omega)) ?_
    rw [← hp1]
    refine q_aload_n_x dL_law_540 rfl ?_
    refine q_iload dL_law_541 rfl ?_
    refine q_iconst (v := nI 2) dL_law_543 rfl ?_
    refine t_iadd_n dL_law_544 ?_
    refine q_sld dL_law_545 (by exact vp_in_nI (by omega) (by omega)) ?_
    rw [← hp2]
    refine q_aload_n_x dL_law_546 rfl ?_
    refine q_iload dL_law_547 rfl ?_
    refine q_iconst (v := nI 3) dL_law_549 rfl ?_
    refine t_iadd_n dL_law_550 ?_
    refine q_sld dL_law_551 (by exact vp_in_nI (by omega) (by omega)) ?_
    rw [← hp3]
    refine w_callV (M' := mX5_wanted) [.int (p1), .int (p2), .int (p3)] [] kX5 dL_law_552 wPL_101v wIX5_wanted wSX5_wanted iX5_wanted oX5_wanted rfl hok HM.1 (pX5_wanted Sc Γ n ((vset (V) (o + 17) 0 x)) o many HM hm1 hm4 p1 p2 p3) (Nat.zero_le _) (Nat.zero_le _) (Nat.le_of_ble_eq_true rfl) (Nat.le_of_ble_eq_true rfl) (Nat.le_of_ble_eq_true rfl) rfl (fun v h F hp hok => ?_) (fun x h F hp hok => by rcases hp with ⟨-, e, -⟩ | ⟨-, ⟨y, e⟩, -⟩ <;> cases e)
    rcases hp with ⟨d1, e, rfl⟩ | ⟨d1, ⟨yy, e⟩, rfl⟩
    ·
      exact absurd c1 d1
    ·
      obtain rfl := Sum.inl.inj e
      refine t_istore [.float 1, .ref X, .ref o, .ref (o + 17), .int (nI i), .int (nI 0), .int (yy)] (Or.inr ⟨rfl, dL_law_555⟩) (by decide) rfl ?_
      refine q_goto (tgt := 944) dL_law_557 (by decide) ?_
      refine q_weak [.float 1, .ref X, .ref o, .ref (o + 17), .int (nI i), .retAddr 0, .retAddr 0] ⟨Or.inl rfl, Or.inl rfl, Or.inl rfl, Or.inl rfl, Or.inl rfl, Or.inr ⟨0, rfl⟩, Or.inr ⟨0, rfl⟩, trivial⟩ ?_
      exact q_less (by omega) (by omega) (hnext _ h (rel_pure hXo hm4 hR) (SB.mo (sb_pure (X := X) (many := many) hXo hSB) (by omega)) hok)
set_option maxRecDepth 20000 in
set_option maxHeartbeats 4000000 in
theorem arm7 (Sc : q_S) (hS : Sc.1 ≤ 3073) (Γ : Nat → q_K) (n X o many : Nat) (HG : sGF Γ X many) (HM : sM Γ o many) (hw : Γ (o + 17) = (5, 1, [])) (hm1 : 1 ≤ many) (hm4 : many ≤ 4) (hXo : X + 7 + 37 * many = o) (V : q_V) (b i kc ks : Nat) (hb : b + 8004 ≤ 2000000000) (hi : i + 6 ≤ Sc.1) (hR : Rel V V X many o) (hSB : SB V o b) (h : q_H) (hok : q_ok (gX Γ V) h) (Q : q_O → q_H → Nat → Prop) (hnext : ∀ (V' : q_V) (h : q_H), Rel V' V' X many o → SB V' o (b + 8004) → q_ok (gX Γ V') h → q_A Sc mL_law 944 [.float 1, .ref X, .ref o, .ref (o + 17), .int (nI i), .retAddr 0, .retAddr 0] [] h n kc ks Q) : q_A Sc mL_law 560 [.float 1, .ref X, .ref o, .ref (o + 17), .int (nI i), .retAddr 0, .retAddr 0] [] h n (kc + 4) (ks + 24) Q := by
  obtain ⟨p1, hp1⟩ : ∃ p, p = Sc.2 (nI (i + 1)).toNatClampNeg := ⟨_, rfl⟩
  obtain ⟨p2, hp2⟩ : ∃ p, p = Sc.2 (nI (i + 2)).toNatClampNeg := ⟨_, rfl⟩
  obtain ⟨p3, hp3⟩ : ∃ p, p = Sc.2 (nI (i + 3)).toNatClampNeg := ⟨_, rfl⟩
  obtain ⟨p4, hp4⟩ : ∃ p, p = Sc.2 (nI (i + 4)).toNatClampNeg := ⟨_, rfl⟩
  obtain ⟨p5, hp5⟩ : ∃ p, p = Sc.2 (nI (i + 5)).toNatClampNeg := ⟨_, rfl⟩
  refine q_aload_n dL_law_560 rfl ?_
  refine q_aload_n_x dL_law_561 rfl ?_
  refine q_iload dL_law_562 rfl ?_
  refine q_iconst (v := nI 1) dL_law_564 rfl ?_
  refine t_iadd_n dL_law_565 ?_
  refine q_sld dL_law_566 (by exact vp_in_nI (by omega) (by omega)) ?_
  rw [← hp1]
  refine q_aload_n_x dL_law_567 rfl ?_
  refine q_iload dL_law_568 rfl ?_
  refine q_iconst (v := nI 2) dL_law_570 rfl ?_
  refine t_iadd_n dL_law_571 ?_
  refine q_sld dL_law_572 (by exact vp_in_nI (by omega) (by omega)) ?_
  rw [← hp2]
  refine q_aload_n_x dL_law_573 rfl ?_
  refine q_iload dL_law_574 rfl ?_
  refine q_iconst (v := nI 3) dL_law_576 rfl ?_
  refine t_iadd_n dL_law_577 ?_
  refine q_sld dL_law_578 (by exact vp_in_nI (by omega) (by omega)) ?_
  rw [← hp3]
  refine q_aload_n dL_law_579 rfl ?_
  refine w_callS (M' := mL_passed) [.ref X, .int (p1), .int (p2), .int (p3), .ref (o + 17)] [] dL_law_580 wPL_102 wTL_passed wNL iL_passed oL_passed rfl hok (hL_passed Sc Γ n V X many HG hm1 hm4 p1 p2 p3 (o + 17) hw) (by omega) (by omega) (Nat.le_of_ble_eq_true rfl) (Nat.le_of_ble_eq_true rfl) (Nat.le_of_ble_eq_true rfl) rfl (fun v h F hp hok => ?_) (fun x h F hp hok => ?_)
  rotate_left
  · rcases hp with ⟨-, e, -⟩ | ⟨-, -, e, -⟩ | ⟨-, -, e, -⟩ <;> cases e
  rcases hp with ⟨c1, e, rfl⟩ | ⟨c1, c2, e, rfl⟩ | ⟨c1, c2, e, rfl⟩
  ·
    obtain rfl := Sum.inl.inj e
    refine t_istore [.float 1, .ref X, .ref o, .ref (o + 17), .int (nI i), .int (nI 1), .retAddr 0] (Or.inr ⟨rfl, dL_law_583⟩) (by decide) rfl ?_
    refine q_aload_n dL_law_585 rfl ?_
    refine q_aload_n_x dL_law_586 rfl ?_
    refine q_iload dL_law_587 rfl ?_
    refine q_iconst (v := nI 1) dL_law_589 rfl ?_
    refine t_iadd_n dL_law_590 ?_
    refine q_sld dL_law_591 (by exact vp_in_nI (by omega) (by omega)) ?_
    rw [← hp1]
    refine q_aload_n_x dL_law_592 rfl ?_
    refine q_iload dL_law_593 rfl ?_
    refine q_iconst (v := nI 2) dL_law_595 rfl ?_
    refine t_iadd_n dL_law_596 ?_
    refine q_sld dL_law_597 (by exact vp_in_nI (by omega) (by omega)) ?_
    rw [← hp2]
    refine q_aload_n_x dL_law_598 rfl ?_
    refine q_iload dL_law_599 rfl ?_
    refine q_iconst (v := nI 3) dL_law_601 rfl ?_
    refine t_iadd_n dL_law_602 ?_
    refine q_sld dL_law_603 (by exact vp_in_nI (by omega) (by omega)) ?_
    rw [← hp3]
    refine w_callV (M' := mX5_passed) [.int (p1), .int (p2), .int (p3)] [] kX5 dL_law_604 wPL_104v wIX5_passed wSX5_passed iX5_passed oX5_passed rfl hok HM.1 (pX5_passed Sc Γ n V o many HM hm1 hm4 p1 p2 p3) (Nat.zero_le _) (Nat.zero_le _) (Nat.le_of_ble_eq_true rfl) (Nat.le_of_ble_eq_true rfl) (Nat.le_of_ble_eq_true rfl) rfl (fun v h F hp hok => ?_) (fun x h F hp hok => by rcases hp with ⟨-, e, -⟩ | ⟨-, -, e, -⟩ | ⟨-, -, e, -⟩ <;> cases e)
    rcases hp with ⟨d1, e, rfl⟩ | ⟨d1, d2, e, rfl⟩ | ⟨d1, d2, e, rfl⟩
    ·
      obtain rfl := Sum.inl.inj e
      refine t_istore [.float 1, .ref X, .ref o, .ref (o + 17), .int (nI i), .int (nI 1), .int (nI 0)] (Or.inr ⟨rfl, dL_law_607⟩) (by decide) rfl ?_
      refine q_goto (tgt := 944) dL_law_609 (by decide) ?_
      refine q_weak [.float 1, .ref X, .ref o, .ref (o + 17), .int (nI i), .retAddr 0, .retAddr 0] ⟨Or.inl rfl, Or.inl rfl, Or.inl rfl, Or.inl rfl, Or.inl rfl, Or.inr ⟨0, rfl⟩, Or.inr ⟨0, rfl⟩, trivial⟩ ?_
      exact q_less (by omega) (by omega) (hnext _ h (rel_bad hXo hm4 hR) (SB.mo (sb_bad hSB) (by omega)) hok)
    ·
      exact absurd trivial d2
    ·
      exact absurd d1 c1
  ·
    exact absurd trivial c2
  ·
    obtain rfl := Sum.inl.inj e
    refine t_istore [.float 1, .ref X, .ref o, .ref (o + 17), .int (nI i), .int (nI 0), .retAddr 0] (Or.inr ⟨rfl, dL_law_583⟩) (by decide) rfl ?_
    refine q_aload_n dL_law_585 rfl ?_
    refine q_aload_n_x dL_law_586 rfl ?_
    refine q_iload dL_law_587 rfl ?_
    refine q_iconst (v := nI 1) dL_law_589 rfl ?_
    refine t_iadd_n dL_law_590 ?_
    refine q_sld dL_law_591 (by exact vp_in_nI (by omega) (by omega)) ?_
    rw [← hp1]
    refine q_aload_n_x dL_law_592 rfl ?_
    refine q_iload dL_law_593 rfl ?_
    refine q_iconst (v := nI 2) dL_law_595 rfl ?_
    refine t_iadd_n dL_law_596 ?_
    refine q_sld dL_law_597 (by exact vp_in_nI (by omega) (by omega)) ?_
    rw [← hp2]
    refine q_aload_n_x dL_law_598 rfl ?_
    refine q_iload dL_law_599 rfl ?_
    refine q_iconst (v := nI 3) dL_law_601 rfl ?_
    refine t_iadd_n dL_law_602 ?_
    refine q_sld dL_law_603 (by exact vp_in_nI (by omega) (by omega)) ?_
    rw [← hp3]
    have f1 : nn p1 < many := by have h9 := (c1.1).nn; omega
    have f2 : nn p2 < 8 := by have h9 := (c1.2.1).nn; omega
    have f3 : nn p3 < 16 := by have h9 := (c1.2.2).nn; omega
    refine w_callV (M' := mX5_passed) [.int (p1), .int (p2), .int (p3)] [] kX5 dL_law_604 wPL_104v wIX5_passed wSX5_passed iX5_passed oX5_passed rfl hok HM.1 (pX5_passed Sc Γ n ((vset (V) (o + 17) 0 ((vX4_passed X many (nn p1) (nn p2) (nn p3) V)))) o many HM hm1 hm4 p1 p2 p3) (Nat.zero_le _) (Nat.zero_le _) (Nat.le_of_ble_eq_true rfl) (Nat.le_of_ble_eq_true rfl) (Nat.le_of_ble_eq_true rfl) rfl (fun v h F hp hok => ?_) (fun x h F hp hok => by rcases hp with ⟨-, e, -⟩ | ⟨-, -, e, -⟩ | ⟨-, -, e, -⟩ <;> cases e)
    rcases hp with ⟨d1, e, rfl⟩ | ⟨d1, d2, e, rfl⟩ | ⟨d1, d2, e, rfl⟩
    ·
      exact absurd c1 d1
    ·
      exact absurd trivial d2
    ·
      obtain rfl := Sum.inl.inj e
      refine t_istore [.float 1, .ref X, .ref o, .ref (o + 17), .int (nI i), .int (nI 0), .int (vX5_passed o many (nn p1) (nn p2) (nn p3) (vset ((vset (V) (o + 17) 0 ((vX4_passed X many (nn p1) (nn p2) (nn p3) V)))) o 0 (nI 0)))] (Or.inr ⟨rfl, dL_law_607⟩) (by decide) rfl ?_
      refine q_goto (tgt := 944) dL_law_609 (by decide) ?_
      refine q_weak [.float 1, .ref X, .ref o, .ref (o + 17), .int (nI i), .retAddr 0, .retAddr 0] ⟨Or.inl rfl, Or.inl rfl, Or.inl rfl, Or.inl rfl, Or.inl rfl, Or.inr ⟨0, rfl⟩, Or.inr ⟨0, rfl⟩, trivial⟩ ?_
      exact q_less (by omega) (by omega) (hnext _ h (rel_pure hXo hm4 hR) (SB.mo (sb_pure (X := X) (many := many) hXo hSB) (by omega)) hok)
set_option maxRecDepth 20000 in
set_option maxHeartbeats 4000000 in
theorem arm8 (Sc : q_S) (hS : Sc.1 ≤ 3073) (Γ : Nat → q_K) (n X o many : Nat) (HG : sGF Γ X many) (HM : sM Γ o many) (hw : Γ (o + 17) = (5, 1, [])) (hm1 : 1 ≤ many) (hm4 : many ≤ 4) (hXo : X + 7 + 37 * many = o) (V : q_V) (b i kc ks : Nat) (hb : b + 8004 ≤ 2000000000) (hi : i + 6 ≤ Sc.1) (hR : Rel V V X many o) (hSB : SB V o b) (h : q_H) (hok : q_ok (gX Γ V) h) (Q : q_O → q_H → Nat → Prop) (hnext : ∀ (V' : q_V) (h : q_H), Rel V' V' X many o → SB V' o (b + 8004) → q_ok (gX Γ V') h → q_A Sc mL_law 944 [.float 1, .ref X, .ref o, .ref (o + 17), .int (nI i), .retAddr 0, .retAddr 0] [] h n kc ks Q) : q_A Sc mL_law 612 [.float 1, .ref X, .ref o, .ref (o + 17), .int (nI i), .retAddr 0, .retAddr 0] [] h n (kc + 4) (ks + 24) Q := by
  obtain ⟨p1, hp1⟩ : ∃ p, p = Sc.2 (nI (i + 1)).toNatClampNeg := ⟨_, rfl⟩
  obtain ⟨p2, hp2⟩ : ∃ p, p = Sc.2 (nI (i + 2)).toNatClampNeg := ⟨_, rfl⟩
  obtain ⟨p3, hp3⟩ : ∃ p, p = Sc.2 (nI (i + 3)).toNatClampNeg := ⟨_, rfl⟩
  obtain ⟨p4, hp4⟩ : ∃ p, p = Sc.2 (nI (i + 4)).toNatClampNeg := ⟨_, rfl⟩
  obtain ⟨p5, hp5⟩ : ∃ p, p = Sc.2 (nI (i + 5)).toNatClampNeg := ⟨_, rfl⟩
  refine q_aload_n dL_law_612 rfl ?_
  refine q_aload_n_x dL_law_613 rfl ?_
  refine q_iload dL_law_614 rfl ?_
  refine q_iconst (v := nI 1) dL_law_616 rfl ?_
  refine t_iadd_n dL_law_617 ?_
  refine q_sld dL_law_618 (by exact vp_in_nI (by omega) (by omega)) ?_
  rw [← hp1]
  refine q_aload_n_x dL_law_619 rfl ?_
  refine q_iload dL_law_620 rfl ?_
  refine q_iconst (v := nI 2) dL_law_622 rfl ?_
  refine t_iadd_n dL_law_623 ?_
  refine q_sld dL_law_624 (by exact vp_in_nI (by omega) (by omega)) ?_
  rw [← hp2]
  refine q_aload_n dL_law_625 rfl ?_
  refine w_callS (M' := mL_mode) [.ref X, .int (p1), .int (p2), .ref (o + 17)] [] dL_law_626 wPL_105 wTL_mode wNL iL_mode oL_mode rfl hok (hL_mode Sc Γ n V X many HG hm1 hm4 p1 p2 (o + 17) hw) (by omega) (by omega) (Nat.le_of_ble_eq_true rfl) (Nat.le_of_ble_eq_true rfl) (Nat.le_of_ble_eq_true rfl) rfl (fun v h F hp hok => ?_) (fun x h F hp hok => ?_)
  rotate_left
  · rcases hp with ⟨-, e, -⟩ | ⟨-, -, e, -⟩ | ⟨-, -, e, -⟩ <;> cases e
  rcases hp with ⟨c1, e, rfl⟩ | ⟨c1, c2, e, rfl⟩ | ⟨c1, c2, e, rfl⟩
  ·
    obtain rfl := Sum.inl.inj e
    refine t_istore [.float 1, .ref X, .ref o, .ref (o + 17), .int (nI i), .int (nI 1), .retAddr 0] (Or.inr ⟨rfl, dL_law_629⟩) (by decide) rfl ?_
    refine q_aload_n dL_law_631 rfl ?_
    refine q_aload_n_x dL_law_632 rfl ?_
    refine q_iload dL_law_633 rfl ?_
    refine q_iconst (v := nI 1) dL_law_635 rfl ?_
    refine t_iadd_n dL_law_636 ?_
    refine q_sld dL_law_637 (by exact vp_in_nI (by omega) (by omega)) ?_
    rw [← hp1]
    refine q_aload_n_x dL_law_638 rfl ?_
    refine q_iload dL_law_639 rfl ?_
    refine q_iconst (v := nI 2) dL_law_641 rfl ?_
    refine t_iadd_n dL_law_642 ?_
    refine q_sld dL_law_643 (by exact vp_in_nI (by omega) (by omega)) ?_
    rw [← hp2]
    refine w_callV (M' := mX5_mode) [.int (p1), .int (p2)] [] kX5 dL_law_644 wPL_107v wIX5_mode wSX5_mode iX5_mode oX5_mode rfl hok HM.1 (pX5_mode Sc Γ n V o many HM hm1 hm4 p1 p2) (Nat.zero_le _) (Nat.zero_le _) (Nat.le_of_ble_eq_true rfl) (Nat.le_of_ble_eq_true rfl) (Nat.le_of_ble_eq_true rfl) rfl (fun v h F hp hok => ?_) (fun x h F hp hok => by rcases hp with ⟨-, e, -⟩ | ⟨-, -, e, -⟩ | ⟨-, -, e, -⟩ <;> cases e)
    rcases hp with ⟨d1, e, rfl⟩ | ⟨d1, d2, e, rfl⟩ | ⟨d1, d2, e, rfl⟩
    ·
      obtain rfl := Sum.inl.inj e
      refine t_istore [.float 1, .ref X, .ref o, .ref (o + 17), .int (nI i), .int (nI 1), .int (nI 0)] (Or.inr ⟨rfl, dL_law_647⟩) (by decide) rfl ?_
      refine q_goto (tgt := 944) dL_law_649 (by decide) ?_
      refine q_weak [.float 1, .ref X, .ref o, .ref (o + 17), .int (nI i), .retAddr 0, .retAddr 0] ⟨Or.inl rfl, Or.inl rfl, Or.inl rfl, Or.inl rfl, Or.inl rfl, Or.inr ⟨0, rfl⟩, Or.inr ⟨0, rfl⟩, trivial⟩ ?_
      exact q_less (by omega) (by omega) (hnext _ h (rel_bad hXo hm4 hR) (SB.mo (sb_bad hSB) (by omega)) hok)
    ·
      exact absurd trivial d2
    ·
      exact absurd d1 c1
  ·
    exact absurd trivial c2
  ·
    obtain rfl := Sum.inl.inj e
    refine t_istore [.float 1, .ref X, .ref o, .ref (o + 17), .int (nI i), .int (nI 0), .retAddr 0] (Or.inr ⟨rfl, dL_law_629⟩) (by decide) rfl ?_
    refine q_aload_n dL_law_631 rfl ?_
    refine q_aload_n_x dL_law_632 rfl ?_
    refine q_iload dL_law_633 rfl ?_
    refine q_iconst (v := nI 1) dL_law_635 rfl ?_
    refine t_iadd_n dL_law_636 ?_
    refine q_sld dL_law_637 (by exact vp_in_nI (by omega) (by omega)) ?_
    rw [← hp1]
    refine q_aload_n_x dL_law_638 rfl ?_
    refine q_iload dL_law_639 rfl ?_
    refine q_iconst (v := nI 2) dL_law_641 rfl ?_
    refine t_iadd_n dL_law_642 ?_
    refine q_sld dL_law_643 (by exact vp_in_nI (by omega) (by omega)) ?_
    rw [← hp2]
    have f1 : nn p1 < many := by have h9 := (c1.1).nn; omega
    have f2 : nn p2 < 8 := by have h9 := (c1.2).nn; omega
    refine w_callV (M' := mX5_mode) [.int (p1), .int (p2)] [] kX5 dL_law_644 wPL_107v wIX5_mode wSX5_mode iX5_mode oX5_mode rfl hok HM.1 (pX5_mode Sc Γ n ((vset (V) (o + 17) 0 ((vX0_state (X + 2 + 37 * nn p1 + 3 + 2 * nn p2) V)))) o many HM hm1 hm4 p1 p2) (Nat.zero_le _) (Nat.zero_le _) (Nat.le_of_ble_eq_true rfl) (Nat.le_of_ble_eq_true rfl) (Nat.le_of_ble_eq_true rfl) rfl (fun v h F hp hok => ?_) (fun x h F hp hok => by rcases hp with ⟨-, e, -⟩ | ⟨-, -, e, -⟩ | ⟨-, -, e, -⟩ <;> cases e)
    rcases hp with ⟨d1, e, rfl⟩ | ⟨d1, d2, e, rfl⟩ | ⟨d1, d2, e, rfl⟩
    ·
      exact absurd c1 d1
    ·
      exact absurd trivial d2
    ·
      obtain rfl := Sum.inl.inj e
      refine t_istore [.float 1, .ref X, .ref o, .ref (o + 17), .int (nI i), .int (nI 0), .int ((vset ((vset (V) (o + 17) 0 ((vX0_state (X + 2 + 37 * nn p1 + 3 + 2 * nn p2) V)))) o 0 (nI 0)) (o + 7) (8 * nn p1 + nn p2))] (Or.inr ⟨rfl, dL_law_647⟩) (by decide) rfl ?_
      refine q_goto (tgt := 944) dL_law_649 (by decide) ?_
      refine q_weak [.float 1, .ref X, .ref o, .ref (o + 17), .int (nI i), .retAddr 0, .retAddr 0] ⟨Or.inl rfl, Or.inl rfl, Or.inl rfl, Or.inl rfl, Or.inl rfl, Or.inr ⟨0, rfl⟩, Or.inr ⟨0, rfl⟩, trivial⟩ ?_
      exact q_less (by omega) (by omega) (hnext _ h (rel_pure hXo hm4 hR) (SB.mo (sb_pure (X := X) (many := many) hXo hSB) (by omega)) hok)
set_option maxRecDepth 20000 in
set_option maxHeartbeats 4000000 in
theorem arm9 (Sc : q_S) (hS : Sc.1 ≤ 3073) (Γ : Nat → q_K) (n X o many : Nat) (HG : sGF Γ X many) (HM : sM Γ o many) (hw : Γ (o + 17) = (5, 1, [])) (hm1 : 1 ≤ many) (hm4 : many ≤ 4) (hXo : X + 7 + 37 * many = o) (V : q_V) (b i kc ks : Nat) (hb : b + 8004 ≤ 2000000000) (hi : i + 6 ≤ Sc.1) (hR : Rel V V X many o) (hSB : SB V o b) (h : q_H) (hok : q_ok (gX Γ V) h) (Q : q_O → q_H → Nat → Prop) (hnext : ∀ (V' : q_V) (h : q_H), Rel V' V' X many o → SB V' o (b + 8004) → q_ok (gX Γ V') h → q_A Sc mL_law 944 [.float 1, .ref X, .ref o, .ref (o + 17), .int (nI i), .retAddr 0, .retAddr 0] [] h n kc ks Q) : q_A Sc mL_law 652 [.float 1, .ref X, .ref o, .ref (o + 17), .int (nI i), .retAddr 0, .retAddr 0] [] h n (kc + 4) (ks + 24) Q := by
  obtain ⟨p1, hp1⟩ : ∃ p, p = Sc.2 (nI (i + 1)).toNatClampNeg := ⟨_, rfl⟩
  obtain ⟨p2, hp2⟩ : ∃ p, p = Sc.2 (nI (i + 2)).toNatClampNeg := ⟨_, rfl⟩
  obtain ⟨p3, hp3⟩ : ∃ p, p = Sc.2 (nI (i + 3)).toNatClampNeg := ⟨_, rfl⟩
  obtain ⟨p4, hp4⟩ : ∃ p, p = Sc.2 (nI (i + 4)).toNatClampNeg := ⟨_, rfl⟩
  obtain ⟨p5, hp5⟩ : ∃ p, p = Sc.2 (nI (i + 5)).toNatClampNeg := ⟨_, rfl⟩
  refine q_aload_n dL_law_652 rfl ?_
  refine q_aload_n_x dL_law_653 rfl ?_
  refine q_iload dL_law_654 rfl ?_
  refine q_iconst (v := nI 1) dL_law_656 rfl ?_
  refine t_iadd_n dL_law_657 ?_
  refine q_sld dL_law_658 (by exact vp_in_nI (by omega) (by omega)) ?_
  rw [← hp1]
  refine q_aload_n_x dL_law_659 rfl ?_
  refine q_iload dL_law_660 rfl ?_
  refine q_iconst (v := nI 2) dL_law_662 rfl ?_
  refine t_iadd_n dL_law_663 ?_
  refine q_sld dL_law_664 (by exact vp_in_nI (by omega) (by omega)) ?_
  rw [← hp2]
  refine q_aload_n_x dL_law_665 rfl ?_
  refine q_iload dL_law_666 rfl ?_
  refine q_iconst (v := nI 3) dL_law_668 rfl ?_
  refine t_iadd_n dL_law_669 ?_
  refine q_sld dL_law_670 (by exact vp_in_nI (by omega) (by omega)) ?_
  rw [← hp3]
  refine q_if_eq (tgt := 678) dL_law_671 (by decide) (fun c764 => ?_) (fun c764 => ?_)
  ·
    refine q_iconst (v := nI 0) dL_law_678 rfl ?_
    refine q_aload_n dL_law_679 rfl ?_
    refine w_callS (M' := mL_sources) [.ref X, .int (p1), .int (p2), .int (nI 0), .ref (o + 17)] [] dL_law_680 wPL_108 wTL_sources wNL iL_sources oL_sources rfl hok (hL_sources Sc Γ n V X many HG hm1 hm4 p1 p2 (nI 0) (Or.inl rfl) (o + 17) hw) (by omega) (by omega) (Nat.le_of_ble_eq_true rfl) (Nat.le_of_ble_eq_true rfl) (Nat.le_of_ble_eq_true rfl) rfl (fun v h F hp hok => ?_) (fun x h F hp hok => ?_)
    rotate_left
    · rcases hp with ⟨-, e, -⟩ | ⟨-, -, e, -⟩ | ⟨-, -, e, -⟩ <;> cases e
    rcases hp with ⟨c1, e, rfl⟩ | ⟨c1, c2, e, rfl⟩ | ⟨c1, c2, e, rfl⟩
    ·
      obtain rfl := Sum.inl.inj e
      refine t_istore [.float 1, .ref X, .ref o, .ref (o + 17), .int (nI i), .int (nI 1), .retAddr 0] (Or.inr ⟨rfl, dL_law_683⟩) (by decide) rfl ?_
      refine q_aload_n dL_law_685 rfl ?_
      refine q_aload_n_x dL_law_686 rfl ?_
      refine q_iload dL_law_687 rfl ?_
      refine q_iconst (v := nI 1) dL_law_689 rfl ?_
      refine t_iadd_n dL_law_690 ?_
      refine q_sld dL_law_691 (by exact vp_in_nI (by omega) (by omega)) ?_
      rw [← hp1]
      refine q_aload_n_x dL_law_692 rfl ?_
      refine q_iload dL_law_693 rfl ?_
      refine q_iconst (v := nI 2) dL_law_695 rfl ?_
      refine t_iadd_n dL_law_696 ?_
      refine q_sld dL_law_697 (by exact vp_in_nI (by omega) (by omega)) ?_
      rw [← hp2]
      refine q_aload_n_x dL_law_698 rfl ?_
      refine q_iload dL_law_699 rfl ?_
      refine q_iconst (v := nI 3) dL_law_701 rfl ?_
      refine t_iadd_n dL_law_702 ?_
      refine q_sld dL_law_703 (by exact vp_in_nI (by omega) (by omega)) ?_
      rw [← hp3]
      refine q_if_eq (tgt := 711) dL_law_704 (by decide) (fun c765 => ?_) (fun c765 => ?_)
      rotate_left
      · exact absurd c764 c765
      refine q_iconst (v := nI 0) dL_law_711 rfl ?_
      refine w_callV (M' := mX5_sources) [.int (p1), .int (p2), .int (nI 0)] [] kX5 dL_law_712 wPL_111v wIX5_sources wSX5_sources iX5_sources oX5_sources rfl hok HM.1 (pX5_sources Sc Γ n V o many HM hm1 hm4 p1 p2 (nI 0) (Or.inl rfl)) (Nat.zero_le _) (Nat.zero_le _) (Nat.le_of_ble_eq_true rfl) (Nat.le_of_ble_eq_true rfl) (Nat.le_of_ble_eq_true rfl) rfl (fun v h F hp hok => ?_) (fun x h F hp hok => by rcases hp with ⟨-, e, -⟩ | ⟨-, -, e, -⟩ | ⟨-, -, e, -⟩ <;> cases e)
      rcases hp with ⟨d1, e, rfl⟩ | ⟨d1, d2, e, rfl⟩ | ⟨d1, d2, e, rfl⟩
      ·
        obtain rfl := Sum.inl.inj e
        refine t_istore [.float 1, .ref X, .ref o, .ref (o + 17), .int (nI i), .int (nI 1), .int (nI 0)] (Or.inr ⟨rfl, dL_law_715⟩) (by decide) rfl ?_
        refine q_goto (tgt := 944) dL_law_717 (by decide) ?_
        refine q_weak [.float 1, .ref X, .ref o, .ref (o + 17), .int (nI i), .retAddr 0, .retAddr 0] ⟨Or.inl rfl, Or.inl rfl, Or.inl rfl, Or.inl rfl, Or.inl rfl, Or.inr ⟨0, rfl⟩, Or.inr ⟨0, rfl⟩, trivial⟩ ?_
        exact q_less (by omega) (by omega) (hnext _ h (rel_bad hXo hm4 hR) (SB.mo (sb_bad hSB) (by omega)) hok)
      ·
        exact absurd trivial d2
      ·
        exact absurd d1 c1
    ·
      exact absurd trivial c2
    ·
      obtain rfl := Sum.inl.inj e
      refine t_istore [.float 1, .ref X, .ref o, .ref (o + 17), .int (nI i), .int (nI 0), .retAddr 0] (Or.inr ⟨rfl, dL_law_683⟩) (by decide) rfl ?_
      refine q_aload_n dL_law_685 rfl ?_
      refine q_aload_n_x dL_law_686 rfl ?_
      refine q_iload dL_law_687 rfl ?_
      refine q_iconst (v := nI 1) dL_law_689 rfl ?_
      refine t_iadd_n dL_law_690 ?_
      refine q_sld dL_law_691 (by exact vp_in_nI (by omega) (by omega)) ?_
      rw [← hp1]
      refine q_aload_n_x dL_law_692 rfl ?_
      refine q_iload dL_law_693 rfl ?_
      refine q_iconst (v := nI 2) dL_law_695 rfl ?_
      refine t_iadd_n dL_law_696 ?_
      refine q_sld dL_law_697 (by exact vp_in_nI (by omega) (by omega)) ?_
      rw [← hp2]
      refine q_aload_n_x dL_law_698 rfl ?_
      refine q_iload dL_law_699 rfl ?_
      refine q_iconst (v := nI 3) dL_law_701 rfl ?_
      refine t_iadd_n dL_law_702 ?_
      refine q_sld dL_law_703 (by exact vp_in_nI (by omega) (by omega)) ?_
      rw [← hp3]
      refine q_if_eq (tgt := 711) dL_law_704 (by decide) (fun c768 => ?_) (fun c768 => ?_)
      rotate_left
      · exact absurd c764 c768
      refine q_iconst (v := nI 0) dL_law_711 rfl ?_
      have f1 : nn p1 < many := by have h9 := (c1.1).nn; omega
      have f2 : nn p2 < 8 := by have h9 := (c1.2).nn; omega
      refine w_callV (M' := mX5_sources) [.int (p1), .int (p2), .int (nI 0)] [] kX5 dL_law_712 wPL_111v wIX5_sources wSX5_sources iX5_sources oX5_sources rfl hok HM.1 (pX5_sources Sc Γ n ((vset (V) (o + 17) 0 ((if (nI 0) = nI 0 then V (X + 2 + 37 * nn p1 + 3 + 2 * nn p2) 3 else V (X + 2 + 37 * nn p1 + 3 + 2 * nn p2) 2)))) o many HM hm1 hm4 p1 p2 (nI 0) (Or.inl rfl)) (Nat.zero_le _) (Nat.zero_le _) (Nat.le_of_ble_eq_true rfl) (Nat.le_of_ble_eq_true rfl) (Nat.le_of_ble_eq_true rfl) rfl (fun v h F hp hok => ?_) (fun x h F hp hok => by rcases hp with ⟨-, e, -⟩ | ⟨-, -, e, -⟩ | ⟨-, -, e, -⟩ <;> cases e)
      rcases hp with ⟨d1, e, rfl⟩ | ⟨d1, d2, e, rfl⟩ | ⟨d1, d2, e, rfl⟩
      ·
        exact absurd c1 d1
      ·
        exact absurd trivial d2
      ·
        obtain rfl := Sum.inl.inj e
        refine t_istore [.float 1, .ref X, .ref o, .ref (o + 17), .int (nI i), .int (nI 0), .int (if (nI 0) = nI 0 then vX5_setOf_2 o many (8 * nn p1 + nn p2) (vset ((vset (V) (o + 17) 0 ((if (nI 0) = nI 0 then V (X + 2 + 37 * nn p1 + 3 + 2 * nn p2) 3 else V (X + 2 + 37 * nn p1 + 3 + 2 * nn p2) 2)))) o 0 (nI 0)) else vX5_setOf_1 o many (8 * nn p1 + nn p2) (vset ((vset (V) (o + 17) 0 ((if (nI 0) = nI 0 then V (X + 2 + 37 * nn p1 + 3 + 2 * nn p2) 3 else V (X + 2 + 37 * nn p1 + 3 + 2 * nn p2) 2)))) o 0 (nI 0)))] (Or.inr ⟨rfl, dL_law_715⟩) (by decide) rfl ?_
        refine q_goto (tgt := 944) dL_law_717 (by decide) ?_
        refine q_weak [.float 1, .ref X, .ref o, .ref (o + 17), .int (nI i), .retAddr 0, .retAddr 0] ⟨Or.inl rfl, Or.inl rfl, Or.inl rfl, Or.inl rfl, Or.inl rfl, Or.inr ⟨0, rfl⟩, Or.inr ⟨0, rfl⟩, trivial⟩ ?_
        exact q_less (by omega) (by omega) (hnext _ h (rel_pure hXo hm4 hR) (SB.mo (sb_pure (X := X) (many := many) hXo hSB) (by omega)) hok)
  ·
    refine q_iconst (v := nI 1) dL_law_674 rfl ?_
    refine q_goto (tgt := 679) dL_law_675 (by decide) ?_
    refine q_aload_n dL_law_679 rfl ?_
    refine w_callS (M' := mL_sources) [.ref X, .int (p1), .int (p2), .int (nI 1), .ref (o + 17)] [] dL_law_680 wPL_108 wTL_sources wNL iL_sources oL_sources rfl hok (hL_sources Sc Γ n V X many HG hm1 hm4 p1 p2 (nI 1) (Or.inr rfl) (o + 17) hw) (by omega) (by omega) (Nat.le_of_ble_eq_true rfl) (Nat.le_of_ble_eq_true rfl) (Nat.le_of_ble_eq_true rfl) rfl (fun v h F hp hok => ?_) (fun x h F hp hok => ?_)
    rotate_left
    · rcases hp with ⟨-, e, -⟩ | ⟨-, -, e, -⟩ | ⟨-, -, e, -⟩ <;> cases e
    rcases hp with ⟨c1, e, rfl⟩ | ⟨c1, c2, e, rfl⟩ | ⟨c1, c2, e, rfl⟩
    ·
      obtain rfl := Sum.inl.inj e
      refine t_istore [.float 1, .ref X, .ref o, .ref (o + 17), .int (nI i), .int (nI 1), .retAddr 0] (Or.inr ⟨rfl, dL_law_683⟩) (by decide) rfl ?_
      refine q_aload_n dL_law_685 rfl ?_
      refine q_aload_n_x dL_law_686 rfl ?_
      refine q_iload dL_law_687 rfl ?_
      refine q_iconst (v := nI 1) dL_law_689 rfl ?_
      refine t_iadd_n dL_law_690 ?_
      refine q_sld dL_law_691 (by exact vp_in_nI (by omega) (by omega)) ?_
      rw [← hp1]
      refine q_aload_n_x dL_law_692 rfl ?_
      refine q_iload dL_law_693 rfl ?_
      refine q_iconst (v := nI 2) dL_law_695 rfl ?_
      refine t_iadd_n dL_law_696 ?_
      refine q_sld dL_law_697 (by exact vp_in_nI (by omega) (by omega)) ?_
      rw [← hp2]
      refine q_aload_n_x dL_law_698 rfl ?_
      refine q_iload dL_law_699 rfl ?_
      refine q_iconst (v := nI 3) dL_law_701 rfl ?_
      refine t_iadd_n dL_law_702 ?_
      refine q_sld dL_law_703 (by exact vp_in_nI (by omega) (by omega)) ?_
      rw [← hp3]
      refine q_if_eq (tgt := 711) dL_law_704 (by decide) (fun c770 => ?_) (fun c770 => ?_)
      · exact absurd c770 c764
      refine q_iconst (v := nI 1) dL_law_707 rfl ?_
      refine q_goto (tgt := 712) dL_law_708 (by decide) ?_
      refine w_callV (M' := mX5_sources) [.int (p1), .int (p2), .int (nI 1)] [] kX5 dL_law_712 wPL_111v wIX5_sources wSX5_sources iX5_sources oX5_sources rfl hok HM.1 (pX5_sources Sc Γ n V o many HM hm1 hm4 p1 p2 (nI 1) (Or.inr rfl)) (Nat.zero_le _) (Nat.zero_le _) (Nat.le_of_ble_eq_true rfl) (Nat.le_of_ble_eq_true rfl) (Nat.le_of_ble_eq_true rfl) rfl (fun v h F hp hok => ?_) (fun x h F hp hok => by rcases hp with ⟨-, e, -⟩ | ⟨-, -, e, -⟩ | ⟨-, -, e, -⟩ <;> cases e)
      rcases hp with ⟨d1, e, rfl⟩ | ⟨d1, d2, e, rfl⟩ | ⟨d1, d2, e, rfl⟩
      ·
        obtain rfl := Sum.inl.inj e
        refine t_istore [.float 1, .ref X, .ref o, .ref (o + 17), .int (nI i), .int (nI 1), .int (nI 0)] (Or.inr ⟨rfl, dL_law_715⟩) (by decide) rfl ?_
        refine q_goto (tgt := 944) dL_law_717 (by decide) ?_
        refine q_weak [.float 1, .ref X, .ref o, .ref (o + 17), .int (nI i), .retAddr 0, .retAddr 0] ⟨Or.inl rfl, Or.inl rfl, Or.inl rfl, Or.inl rfl, Or.inl rfl, Or.inr ⟨0, rfl⟩, Or.inr ⟨0, rfl⟩, trivial⟩ ?_
        exact q_less (by omega) (by omega) (hnext _ h (rel_bad hXo hm4 hR) (SB.mo (sb_bad hSB) (by omega)) hok)
      ·
        exact absurd trivial d2
      ·
        exact absurd d1 c1
    ·
      exact absurd trivial c2
    ·
      obtain rfl := Sum.inl.inj e
      refine t_istore [.float 1, .ref X, .ref o, .ref (o + 17), .int (nI i), .int (nI 0), .retAddr 0] (Or.inr ⟨rfl, dL_law_683⟩) (by decide) rfl ?_
      refine q_aload_n dL_law_685 rfl ?_
      refine q_aload_n_x dL_law_686 rfl ?_
      refine q_iload dL_law_687 rfl ?_
      refine q_iconst (v := nI 1) dL_law_689 rfl ?_
      refine t_iadd_n dL_law_690 ?_
      refine q_sld dL_law_691 (by exact vp_in_nI (by omega) (by omega)) ?_
      rw [← hp1]
      refine q_aload_n_x dL_law_692 rfl ?_
      refine q_iload dL_law_693 rfl ?_
      refine q_iconst (v := nI 2) dL_law_695 rfl ?_
      refine t_iadd_n dL_law_696 ?_
      refine q_sld dL_law_697 (by exact vp_in_nI (by omega) (by omega)) ?_
      rw [← hp2]
      refine q_aload_n_x dL_law_698 rfl ?_
      refine q_iload dL_law_699 rfl ?_
      refine q_iconst (v := nI 3) dL_law_701 rfl ?_
      refine t_iadd_n dL_law_702 ?_
      refine q_sld dL_law_703 (by exact vp_in_nI (by omega) (by omega)) ?_
      rw [← hp3]
      refine q_if_eq (tgt := 711) dL_law_704 (by decide) (fun c773 => ?_) (fun c773 => ?_)
      · exact absurd c773 c764
      refine q_iconst (v := nI 1) dL_law_707 rfl ?_
      refine q_goto (tgt := 712) dL_law_708 (by decide) ?_
      have f1 : nn p1 < many := by have h9 := (c1.1).nn; omega
      have f2 : nn p2 < 8 := by have h9 := (c1.2).nn; omega
      refine w_callV (M' := mX5_sources) [.int (p1), .int (p2), .int (nI 1)] [] kX5 dL_law_712 wPL_111v wIX5_sources wSX5_sources iX5_sources oX5_sources rfl hok HM.1 (pX5_sources Sc Γ n ((vset (V) (o + 17) 0 ((if (nI 1) = nI 0 then V (X + 2 + 37 * nn p1 + 3 + 2 * nn p2) 3 else V (X + 2 + 37 * nn p1 + 3 + 2 * nn p2) 2)))) o many HM hm1 hm4 p1 p2 (nI 1) (Or.inr rfl)) (Nat.zero_le _) (Nat.zero_le _) (Nat.le_of_ble_eq_true rfl) (Nat.le_of_ble_eq_true rfl) (Nat.le_of_ble_eq_true rfl) rfl (fun v h F hp hok => ?_) (fun x h F hp hok => by rcases hp with ⟨-, e, -⟩ | ⟨-, -, e, -⟩ | ⟨-, -, e, -⟩ <;> cases e)
      rcases hp with ⟨d1, e, rfl⟩ | ⟨d1, d2, e, rfl⟩ | ⟨d1, d2, e, rfl⟩
      ·
        exact absurd c1 d1
      ·
        exact absurd trivial d2
      ·
        obtain rfl := Sum.inl.inj e
        refine t_istore [.float 1, .ref X, .ref o, .ref (o + 17), .int (nI i), .int (nI 0), .int (if (nI 1) = nI 0 then vX5_setOf_2 o many (8 * nn p1 + nn p2) (vset ((vset (V) (o + 17) 0 ((if (nI 1) = nI 0 then V (X + 2 + 37 * nn p1 + 3 + 2 * nn p2) 3 else V (X + 2 + 37 * nn p1 + 3 + 2 * nn p2) 2)))) o 0 (nI 0)) else vX5_setOf_1 o many (8 * nn p1 + nn p2) (vset ((vset (V) (o + 17) 0 ((if (nI 1) = nI 0 then V (X + 2 + 37 * nn p1 + 3 + 2 * nn p2) 3 else V (X + 2 + 37 * nn p1 + 3 + 2 * nn p2) 2)))) o 0 (nI 0)))] (Or.inr ⟨rfl, dL_law_715⟩) (by decide) rfl ?_
        refine q_goto (tgt := 944) dL_law_717 (by decide) ?_
        refine q_weak [.float 1, .ref X, .ref o, .ref (o + 17), .int (nI i), .retAddr 0, .retAddr 0] ⟨Or.inl rfl, Or.inl rfl, Or.inl rfl, Or.inl rfl, Or.inl rfl, Or.inr ⟨0, rfl⟩, Or.inr ⟨0, rfl⟩, trivial⟩ ?_
        exact q_less (by omega) (by omega) (hnext _ h (rel_pure hXo hm4 hR) (SB.mo (sb_pure (X := X) (many := many) hXo hSB) (by omega)) hok)
set_option maxRecDepth 20000 in
set_option maxHeartbeats 4000000 in
theorem arm10 (Sc : q_S) (hS : Sc.1 ≤ 3073) (Γ : Nat → q_K) (n X o many : Nat) (HG : sGF Γ X many) (HM : sM Γ o many) (hw : Γ (o + 17) = (5, 1, [])) (hm1 : 1 ≤ many) (hm4 : many ≤ 4) (hXo : X + 7 + 37 * many = o) (V : q_V) (b i kc ks : Nat) (hb : b + 8004 ≤ 2000000000) (hi : i + 6 ≤ Sc.1) (hR : Rel V V X many o) (hSB : SB V o b) (h : q_H) (hok : q_ok (gX Γ V) h) (Q : q_O → q_H → Nat → Prop) (hnext : ∀ (V' : q_V) (h : q_H), Rel V' V' X many o → SB V' o (b + 8004) → q_ok (gX Γ V') h → q_A Sc mL_law 944 [.float 1, .ref X, .ref o, .ref (o + 17), .int (nI i), .retAddr 0, .retAddr 0] [] h n kc ks Q) : q_A Sc mL_law 720 [.float 1, .ref X, .ref o, .ref (o + 17), .int (nI i), .retAddr 0, .retAddr 0] [] h n (kc + 4) (ks + 24) Q := by
  obtain ⟨p1, hp1⟩ : ∃ p, p = Sc.2 (nI (i + 1)).toNatClampNeg := ⟨_, rfl⟩
  obtain ⟨p2, hp2⟩ : ∃ p, p = Sc.2 (nI (i + 2)).toNatClampNeg := ⟨_, rfl⟩
  obtain ⟨p3, hp3⟩ : ∃ p, p = Sc.2 (nI (i + 3)).toNatClampNeg := ⟨_, rfl⟩
  obtain ⟨p4, hp4⟩ : ∃ p, p = Sc.2 (nI (i + 4)).toNatClampNeg := ⟨_, rfl⟩
  obtain ⟨p5, hp5⟩ : ∃ p, p = Sc.2 (nI (i + 5)).toNatClampNeg := ⟨_, rfl⟩
  refine q_aload_n dL_law_720 rfl ?_
  refine q_aload_n_x dL_law_721 rfl ?_
  refine q_iload dL_law_722 rfl ?_
  refine q_iconst (v := nI 1) dL_law_724 rfl ?_
  refine t_iadd_n dL_law_725 ?_
  refine q_sld dL_law_726 (by exact vp_in_nI (by omega) (by omega)) ?_
  rw [← hp1]
  refine q_aload_n_x dL_law_727 rfl ?_
  refine q_iload dL_law_728 rfl ?_
  refine q_iconst (v := nI 2) dL_law_730 rfl ?_
  refine t_iadd_n dL_law_731 ?_
  refine q_sld dL_law_732 (by exact vp_in_nI (by omega) (by omega)) ?_
  rw [← hp2]
  refine q_aload_n_x dL_law_733 rfl ?_
  refine q_iload dL_law_734 rfl ?_
  refine q_iconst (v := nI 3) dL_law_736 rfl ?_
  refine t_iadd_n dL_law_737 ?_
  refine q_sld dL_law_738 (by exact vp_in_nI (by omega) (by omega)) ?_
  rw [← hp3]
  refine q_aload_n dL_law_739 rfl ?_
  refine w_callS (M' := mL_timer) [.ref X, .int (p1), .int (p2), .int (p3), .ref (o + 17)] [] dL_law_740 wPL_112 wTL_timer wNL iL_timer oL_timer rfl hok (hL_timer Sc Γ n V X many HG hm1 hm4 p1 p2 p3 (o + 17) hw) (by omega) (by omega) (Nat.le_of_ble_eq_true rfl) (Nat.le_of_ble_eq_true rfl) (Nat.le_of_ble_eq_true rfl) rfl (fun v h F hp hok => ?_) (fun x h F hp hok => ?_)
  rotate_left
  · rcases hp with ⟨-, e, -⟩ | ⟨-, -, e, -⟩ | ⟨-, -, e, -⟩ <;> cases e
  rcases hp with ⟨c1, e, rfl⟩ | ⟨c1, c2, e, rfl⟩ | ⟨c1, c2, e, rfl⟩
  ·
    obtain rfl := Sum.inl.inj e
    refine t_istore [.float 1, .ref X, .ref o, .ref (o + 17), .int (nI i), .int (nI 1), .retAddr 0] (Or.inr ⟨rfl, dL_law_743⟩) (by decide) rfl ?_
    refine q_aload_n dL_law_745 rfl ?_
    refine q_aload_n_x dL_law_746 rfl ?_
    refine q_iload dL_law_747 rfl ?_
    refine q_iconst (v := nI 1) dL_law_749 rfl ?_
    refine t_iadd_n dL_law_750 ?_
    refine q_sld dL_law_751 (by exact vp_in_nI (by omega) (by omega)) ?_
    rw [← hp1]
    refine q_aload_n_x dL_law_752 rfl ?_
    refine q_iload dL_law_753 rfl ?_
    refine q_iconst (v := nI 2) dL_law_755 rfl ?_
    refine t_iadd_n dL_law_756 ?_
    refine q_sld dL_law_757 (by exact vp_in_nI (by omega) (by omega)) ?_
    rw [← hp2]
    refine q_aload_n_x dL_law_758 rfl ?_
    refine q_iload dL_law_759 rfl ?_
    refine q_iconst (v := nI 3) dL_law_761 rfl ?_
    refine t_iadd_n dL_law_762 ?_
    refine q_sld dL_law_763 (by exact vp_in_nI (by omega) (by omega)) ?_
    rw [← hp3]
    refine w_callV (M' := mX5_timer) [.int (p1), .int (p2), .int (p3)] [] kX5 dL_law_764 wPL_114v wIX5_timer wSX5_timer iX5_timer oX5_timer rfl hok HM.1 (pX5_timer Sc Γ n V o many HM hm1 hm4 p1 p2 p3) (Nat.zero_le _) (Nat.zero_le _) (Nat.le_of_ble_eq_true rfl) (Nat.le_of_ble_eq_true rfl) (Nat.le_of_ble_eq_true rfl) rfl (fun v h F hp hok => ?_) (fun x h F hp hok => by rcases hp with ⟨-, e, -⟩ | ⟨-, -, e, -⟩ | ⟨-, -, e, -⟩ <;> cases e)
    rcases hp with ⟨d1, e, rfl⟩ | ⟨d1, d2, e, rfl⟩ | ⟨d1, d2, e, rfl⟩
    ·
      obtain rfl := Sum.inl.inj e
      refine t_istore [.float 1, .ref X, .ref o, .ref (o + 17), .int (nI i), .int (nI 1), .int (nI 0)] (Or.inr ⟨rfl, dL_law_767⟩) (by decide) rfl ?_
      refine q_goto (tgt := 944) dL_law_769 (by decide) ?_
      refine q_weak [.float 1, .ref X, .ref o, .ref (o + 17), .int (nI i), .retAddr 0, .retAddr 0] ⟨Or.inl rfl, Or.inl rfl, Or.inl rfl, Or.inl rfl, Or.inl rfl, Or.inr ⟨0, rfl⟩, Or.inr ⟨0, rfl⟩, trivial⟩ ?_
      exact q_less (by omega) (by omega) (hnext _ h (rel_bad hXo hm4 hR) (SB.mo (sb_bad hSB) (by omega)) hok)
    ·
      exact absurd trivial d2
    ·
      exact absurd d1 c1
  ·
    exact absurd trivial c2
  ·
    obtain rfl := Sum.inl.inj e
    refine t_istore [.float 1, .ref X, .ref o, .ref (o + 17), .int (nI i), .int (nI 0), .retAddr 0] (Or.inr ⟨rfl, dL_law_743⟩) (by decide) rfl ?_
    refine q_aload_n dL_law_745 rfl ?_
    refine q_aload_n_x dL_law_746 rfl ?_
    refine q_iload dL_law_747 rfl ?_
    refine q_iconst (v := nI 1) dL_law_749 rfl ?_
    refine t_iadd_n dL_law_750 ?_
    refine q_sld dL_law_751 (by exact vp_in_nI (by omega) (by omega)) ?_
    rw [← hp1]
    refine q_aload_n_x dL_law_752 rfl ?_
    refine q_iload dL_law_753 rfl ?_
    refine q_iconst (v := nI 2) dL_law_755 rfl ?_
    refine t_iadd_n dL_law_756 ?_
    refine q_sld dL_law_757 (by exact vp_in_nI (by omega) (by omega)) ?_
    rw [← hp2]
    refine q_aload_n_x dL_law_758 rfl ?_
    refine q_iload dL_law_759 rfl ?_
    refine q_iconst (v := nI 3) dL_law_761 rfl ?_
    refine t_iadd_n dL_law_762 ?_
    refine q_sld dL_law_763 (by exact vp_in_nI (by omega) (by omega)) ?_
    rw [← hp3]
    have f1 : nn p1 < many := by have h9 := (c1.1).nn; omega
    have f2 : nn p2 < 8 := by have h9 := (c1.2.1).nn; omega
    have f3 : nn p3 < 16 := by have h9 := (c1.2.2).nn; omega
    refine w_callV (M' := mX5_timer) [.int (p1), .int (p2), .int (p3)] [] kX5 dL_law_764 wPL_114v wIX5_timer wSX5_timer iX5_timer oX5_timer rfl hok HM.1 (pX5_timer Sc Γ n ((vset (V) (o + 17) 0 ((V ((X + 2 + 37 * nn p1 + 3 + 2 * nn p2) + 1) (nn p3))))) o many HM hm1 hm4 p1 p2 p3) (Nat.zero_le _) (Nat.zero_le _) (Nat.le_of_ble_eq_true rfl) (Nat.le_of_ble_eq_true rfl) (Nat.le_of_ble_eq_true rfl) rfl (fun v h F hp hok => ?_) (fun x h F hp hok => by rcases hp with ⟨-, e, -⟩ | ⟨-, -, e, -⟩ | ⟨-, -, e, -⟩ <;> cases e)
    rcases hp with ⟨d1, e, rfl⟩ | ⟨d1, d2, e, rfl⟩ | ⟨d1, d2, e, rfl⟩
    ·
      exact absurd c1 d1
    ·
      exact absurd trivial d2
    ·
      obtain rfl := Sum.inl.inj e
      refine t_istore [.float 1, .ref X, .ref o, .ref (o + 17), .int (nI i), .int (nI 0), .int ((vset ((vset (V) (o + 17) 0 ((V ((X + 2 + 37 * nn p1 + 3 + 2 * nn p2) + 1) (nn p3))))) o 0 (nI 0)) (o + 10) (16 * (8 * nn p1 + nn p2) + nn p3))] (Or.inr ⟨rfl, dL_law_767⟩) (by decide) rfl ?_
      refine q_goto (tgt := 944) dL_law_769 (by decide) ?_
      refine q_weak [.float 1, .ref X, .ref o, .ref (o + 17), .int (nI i), .retAddr 0, .retAddr 0] ⟨Or.inl rfl, Or.inl rfl, Or.inl rfl, Or.inl rfl, Or.inl rfl, Or.inr ⟨0, rfl⟩, Or.inr ⟨0, rfl⟩, trivial⟩ ?_
      exact q_less (by omega) (by omega) (hnext _ h (rel_pure hXo hm4 hR) (SB.mo (sb_pure (X := X) (many := many) hXo hSB) (by omega)) hok)
set_option maxRecDepth 20000 in
set_option maxHeartbeats 4000000 in
theorem arm11 (Sc : q_S) (hS : Sc.1 ≤ 3073) (Γ : Nat → q_K) (n X o many : Nat) (HG : sGF Γ X many) (HM : sM Γ o many) (hw : Γ (o + 17) = (5, 1, [])) (hm1 : 1 ≤ many) (hm4 : many ≤ 4) (hXo : X + 7 + 37 * many = o) (V : q_V) (b i kc ks : Nat) (hb : b + 8004 ≤ 2000000000) (hi : i + 6 ≤ Sc.1) (hR : Rel V V X many o) (hSB : SB V o b) (h : q_H) (hok : q_ok (gX Γ V) h) (Q : q_O → q_H → Nat → Prop) (hnext : ∀ (V' : q_V) (h : q_H), Rel V' V' X many o → SB V' o (b + 8004) → q_ok (gX Γ V') h → q_A Sc mL_law 944 [.float 1, .ref X, .ref o, .ref (o + 17), .int (nI i), .retAddr 0, .retAddr 0] [] h n kc ks Q) : q_A Sc mL_law 772 [.float 1, .ref X, .ref o, .ref (o + 17), .int (nI i), .retAddr 0, .retAddr 0] [] h n (kc + 4) (ks + 24) Q := by
  obtain ⟨p1, hp1⟩ : ∃ p, p = Sc.2 (nI (i + 1)).toNatClampNeg := ⟨_, rfl⟩
  obtain ⟨p2, hp2⟩ : ∃ p, p = Sc.2 (nI (i + 2)).toNatClampNeg := ⟨_, rfl⟩
  obtain ⟨p3, hp3⟩ : ∃ p, p = Sc.2 (nI (i + 3)).toNatClampNeg := ⟨_, rfl⟩
  obtain ⟨p4, hp4⟩ : ∃ p, p = Sc.2 (nI (i + 4)).toNatClampNeg := ⟨_, rfl⟩
  obtain ⟨p5, hp5⟩ : ∃ p, p = Sc.2 (nI (i + 5)).toNatClampNeg := ⟨_, rfl⟩
  refine q_aload_n dL_law_772 rfl ?_
  refine q_aload_n_x dL_law_773 rfl ?_
  refine q_iload dL_law_774 rfl ?_
  refine q_iconst (v := nI 1) dL_law_776 rfl ?_
  refine t_iadd_n dL_law_777 ?_
  refine q_sld dL_law_778 (by exact vp_in_nI (by omega) (by omega)) ?_
  rw [← hp1]
  refine q_aload_n_x dL_law_779 rfl ?_
  refine q_iload dL_law_780 rfl ?_
  refine q_iconst (v := nI 2) dL_law_782 rfl ?_
  refine t_iadd_n dL_law_783 ?_
  refine q_sld dL_law_784 (by exact vp_in_nI (by omega) (by omega)) ?_
  rw [← hp2]
  refine q_aload_n dL_law_785 rfl ?_
  refine w_callS (M' := mL_groupTimer) [.ref X, .int (p1), .int (p2), .ref (o + 17)] [] dL_law_786 wPL_115 wTL_groupTimer wNL iL_groupTimer oL_groupTimer rfl hok (hL_groupTimer Sc Γ n V X many HG hm1 hm4 p1 p2 (o + 17) hw) (by omega) (by omega) (Nat.le_of_ble_eq_true rfl) (Nat.le_of_ble_eq_true rfl) (Nat.le_of_ble_eq_true rfl) rfl (fun v h F hp hok => ?_) (fun x h F hp hok => ?_)
  rotate_left
  · rcases hp with ⟨-, e, -⟩ | ⟨-, -, e, -⟩ | ⟨-, -, e, -⟩ <;> cases e
  rcases hp with ⟨c1, e, rfl⟩ | ⟨c1, c2, e, rfl⟩ | ⟨c1, c2, e, rfl⟩
  ·
    obtain rfl := Sum.inl.inj e
    refine t_istore [.float 1, .ref X, .ref o, .ref (o + 17), .int (nI i), .int (nI 1), .retAddr 0] (Or.inr ⟨rfl, dL_law_789⟩) (by decide) rfl ?_
    refine q_aload_n dL_law_791 rfl ?_
    refine q_aload_n_x dL_law_792 rfl ?_
    refine q_iload dL_law_793 rfl ?_
    refine q_iconst (v := nI 1) dL_law_795 rfl ?_
    refine t_iadd_n dL_law_796 ?_
    refine q_sld dL_law_797 (by exact vp_in_nI (by omega) (by omega)) ?_
    rw [← hp1]
    refine q_aload_n_x dL_law_798 rfl ?_
    refine q_iload dL_law_799 rfl ?_
    refine q_iconst (v := nI 2) dL_law_801 rfl ?_
    refine t_iadd_n dL_law_802 ?_
    refine q_sld dL_law_803 (by exact vp_in_nI (by omega) (by omega)) ?_
    rw [← hp2]
    refine w_callV (M' := mX5_groupTimer) [.int (p1), .int (p2)] [] kX5 dL_law_804 wPL_117v wIX5_groupTimer wSX5_groupTimer iX5_groupTimer oX5_groupTimer rfl hok HM.1 (pX5_groupTimer Sc Γ n V o many HM hm1 hm4 p1 p2) (Nat.zero_le _) (Nat.zero_le _) (Nat.le_of_ble_eq_true rfl) (Nat.le_of_ble_eq_true rfl) (Nat.le_of_ble_eq_true rfl) rfl (fun v h F hp hok => ?_) (fun x h F hp hok => by rcases hp with ⟨-, e, -⟩ | ⟨-, -, e, -⟩ | ⟨-, -, e, -⟩ <;> cases e)
    rcases hp with ⟨d1, e, rfl⟩ | ⟨d1, d2, e, rfl⟩ | ⟨d1, d2, e, rfl⟩
    ·
      obtain rfl := Sum.inl.inj e
      refine t_istore [.float 1, .ref X, .ref o, .ref (o + 17), .int (nI i), .int (nI 1), .int (nI 0)] (Or.inr ⟨rfl, dL_law_807⟩) (by decide) rfl ?_
      refine q_goto (tgt := 944) dL_law_809 (by decide) ?_
      refine q_weak [.float 1, .ref X, .ref o, .ref (o + 17), .int (nI i), .retAddr 0, .retAddr 0] ⟨Or.inl rfl, Or.inl rfl, Or.inl rfl, Or.inl rfl, Or.inl rfl, Or.inr ⟨0, rfl⟩, Or.inr ⟨0, rfl⟩, trivial⟩ ?_
      exact q_less (by omega) (by omega) (hnext _ h (rel_bad hXo hm4 hR) (SB.mo (sb_bad hSB) (by omega)) hok)
    ·
      exact absurd trivial d2
    ·
      exact absurd d1 c1
  ·
    exact absurd trivial c2
  ·
    obtain rfl := Sum.inl.inj e
    refine t_istore [.float 1, .ref X, .ref o, .ref (o + 17), .int (nI i), .int (nI 0), .retAddr 0] (Or.inr ⟨rfl, dL_law_789⟩) (by decide) rfl ?_
    refine q_aload_n dL_law_791 rfl ?_
    refine q_aload_n_x dL_law_792 rfl ?_
    refine q_iload dL_law_793 rfl ?_
    refine q_iconst (v := nI 1) dL_law_795 rfl ?_
    refine t_iadd_n dL_law_796 ?_
    refine q_sld dL_law_797 (by exact vp_in_nI (by omega) (by omega)) ?_
    rw [← hp1]
    refine q_aload_n_x dL_law_798 rfl ?_
    refine q_iload dL_law_799 rfl ?_
    refine q_iconst (v := nI 2) dL_law_801 rfl ?_
    refine t_iadd_n dL_law_802 ?_
    refine q_sld dL_law_803 (by exact vp_in_nI (by omega) (by omega)) ?_
    rw [← hp2]
    have f1 : nn p1 < many := by have h9 := (c1.1).nn; omega
    have f2 : nn p2 < 8 := by have h9 := (c1.2).nn; omega
    refine w_callV (M' := mX5_groupTimer) [.int (p1), .int (p2)] [] kX5 dL_law_804 wPL_117v wIX5_groupTimer wSX5_groupTimer iX5_groupTimer oX5_groupTimer rfl hok HM.1 (pX5_groupTimer Sc Γ n ((vset (V) (o + 17) 0 ((V (X + 2 + 37 * nn p1 + 3 + 2 * nn p2) 4)))) o many HM hm1 hm4 p1 p2) (Nat.zero_le _) (Nat.zero_le _) (Nat.le_of_ble_eq_true rfl) (Nat.le_of_ble_eq_true rfl) (Nat.le_of_ble_eq_true rfl) rfl (fun v h F hp hok => ?_) (fun x h F hp hok => by rcases hp with ⟨-, e, -⟩ | ⟨-, -, e, -⟩ | ⟨-, -, e, -⟩ <;> cases e)
    rcases hp with ⟨d1, e, rfl⟩ | ⟨d1, d2, e, rfl⟩ | ⟨d1, d2, e, rfl⟩
    ·
      exact absurd c1 d1
    ·
      exact absurd trivial d2
    ·
      obtain rfl := Sum.inl.inj e
      refine t_istore [.float 1, .ref X, .ref o, .ref (o + 17), .int (nI i), .int (nI 0), .int ((vset ((vset (V) (o + 17) 0 ((V (X + 2 + 37 * nn p1 + 3 + 2 * nn p2) 4)))) o 0 (nI 0)) (o + 8) (8 * nn p1 + nn p2))] (Or.inr ⟨rfl, dL_law_807⟩) (by decide) rfl ?_
      refine q_goto (tgt := 944) dL_law_809 (by decide) ?_
      refine q_weak [.float 1, .ref X, .ref o, .ref (o + 17), .int (nI i), .retAddr 0, .retAddr 0] ⟨Or.inl rfl, Or.inl rfl, Or.inl rfl, Or.inl rfl, Or.inl rfl, Or.inr ⟨0, rfl⟩, Or.inr ⟨0, rfl⟩, trivial⟩ ?_
      exact q_less (by omega) (by omega) (hnext _ h (rel_pure hXo hm4 hR) (SB.mo (sb_pure (X := X) (many := many) hXo hSB) (by omega)) hok)
set_option maxRecDepth 20000 in
set_option maxHeartbeats 4000000 in
theorem arm12 (Sc : q_S) (hS : Sc.1 ≤ 3073) (Γ : Nat → q_K) (n X o many : Nat) (HG : sGF Γ X many) (HM : sM Γ o many) (hw : Γ (o + 17) = (5, 1, [])) (hm1 : 1 ≤ many) (hm4 : many ≤ 4) (hXo : X + 7 + 37 * many = o) (V : q_V) (b i kc ks : Nat) (hb : b + 8004 ≤ 2000000000) (hi : i + 6 ≤ Sc.1) (hR : Rel V V X many o) (hSB : SB V o b) (h : q_H) (hok : q_ok (gX Γ V) h) (Q : q_O → q_H → Nat → Prop) (hnext : ∀ (V' : q_V) (h : q_H), Rel V' V' X many o → SB V' o (b + 8004) → q_ok (gX Γ V') h → q_A Sc mL_law 944 [.float 1, .ref X, .ref o, .ref (o + 17), .int (nI i), .retAddr 0, .retAddr 0] [] h n kc ks Q) : q_A Sc mL_law 812 [.float 1, .ref X, .ref o, .ref (o + 17), .int (nI i), .retAddr 0, .retAddr 0] [] h n (kc + 4) (ks + 24) Q := by
  obtain ⟨p1, hp1⟩ : ∃ p, p = Sc.2 (nI (i + 1)).toNatClampNeg := ⟨_, rfl⟩
  obtain ⟨p2, hp2⟩ : ∃ p, p = Sc.2 (nI (i + 2)).toNatClampNeg := ⟨_, rfl⟩
  obtain ⟨p3, hp3⟩ : ∃ p, p = Sc.2 (nI (i + 3)).toNatClampNeg := ⟨_, rfl⟩
  obtain ⟨p4, hp4⟩ : ∃ p, p = Sc.2 (nI (i + 4)).toNatClampNeg := ⟨_, rfl⟩
  obtain ⟨p5, hp5⟩ : ∃ p, p = Sc.2 (nI (i + 5)).toNatClampNeg := ⟨_, rfl⟩
  refine q_aload_n dL_law_812 rfl ?_
  refine v_callV (M' := mX4_sent) [] [] kX4 dL_law_813 wPL_118v wIX4_sent wSX4_sent iX4_sent oX4_sent rfl hok HG.1 (eX4_sent Sc Γ n V X many HG hm1 hm4) (Nat.le_of_ble_eq_true rfl) (Nat.le_of_ble_eq_true rfl) (Nat.le_of_ble_eq_true rfl) rfl (fun h hok => ?_)
  refine q_pop dL_law_816 rfl ?_
  refine q_aload_n dL_law_817 rfl ?_
  refine v_callV (M' := mX5_sent) [] [] kX5 dL_law_818 wPL_122v wIX5_sent wSX5_sent iX5_sent oX5_sent rfl hok HM.1 (eX5_sent Sc Γ n V o many HM hm1 hm4) (Nat.le_of_ble_eq_true rfl) (Nat.le_of_ble_eq_true rfl) (Nat.le_of_ble_eq_true rfl) rfl (fun h hok => ?_)
  refine q_pop dL_law_821 rfl ?_
  refine q_goto (tgt := 944) dL_law_822 (by decide) ?_
  exact q_less (by omega) (by omega) (hnext _ h (rel_bad hXo hm4 hR) (SB.mo (sb_bad hSB) (by omega)) hok)
set_option maxRecDepth 20000 in
set_option maxHeartbeats 4000000 in
theorem arm13 (Sc : q_S) (hS : Sc.1 ≤ 3073) (Γ : Nat → q_K) (n X o many : Nat) (HG : sGF Γ X many) (HM : sM Γ o many) (hw : Γ (o + 17) = (5, 1, [])) (hm1 : 1 ≤ many) (hm4 : many ≤ 4) (hXo : X + 7 + 37 * many = o) (V : q_V) (b i kc ks : Nat) (hb : b + 8004 ≤ 2000000000) (hi : i + 6 ≤ Sc.1) (hR : Rel V V X many o) (hSB : SB V o b) (h : q_H) (hok : q_ok (gX Γ V) h) (Q : q_O → q_H → Nat → Prop) (hnext : ∀ (V' : q_V) (h : q_H), Rel V' V' X many o → SB V' o (b + 8004) → q_ok (gX Γ V') h → q_A Sc mL_law 944 [.float 1, .ref X, .ref o, .ref (o + 17), .int (nI i), .retAddr 0, .retAddr 0] [] h n kc ks Q) : q_A Sc mL_law 825 [.float 1, .ref X, .ref o, .ref (o + 17), .int (nI i), .retAddr 0, .retAddr 0] [] h n (kc + 4) (ks + 24) Q := by
  obtain ⟨p1, hp1⟩ : ∃ p, p = Sc.2 (nI (i + 1)).toNatClampNeg := ⟨_, rfl⟩
  obtain ⟨p2, hp2⟩ : ∃ p, p = Sc.2 (nI (i + 2)).toNatClampNeg := ⟨_, rfl⟩
  obtain ⟨p3, hp3⟩ : ∃ p, p = Sc.2 (nI (i + 3)).toNatClampNeg := ⟨_, rfl⟩
  obtain ⟨p4, hp4⟩ : ∃ p, p = Sc.2 (nI (i + 4)).toNatClampNeg := ⟨_, rfl⟩
  obtain ⟨p5, hp5⟩ : ∃ p, p = Sc.2 (nI (i + 5)).toNatClampNeg := ⟨_, rfl⟩
  refine q_aload_n dL_law_825 rfl ?_
  refine q_aload_n_x dL_law_826 rfl ?_
  refine q_iload dL_law_827 rfl ?_
  refine q_iconst (v := nI 1) dL_law_829 rfl ?_
  refine t_iadd_n dL_law_830 ?_
  refine q_sld dL_law_831 (by exact vp_in_nI (by omega) (by omega)) ?_
  rw [← hp1]
  refine q_aload_n_x dL_law_832 rfl ?_
  refine q_iload dL_law_833 rfl ?_
  refine q_iconst (v := nI 2) dL_law_835 rfl ?_
  refine t_iadd_n dL_law_836 ?_
  refine q_sld dL_law_837 (by exact vp_in_nI (by omega) (by omega)) ?_
  rw [← hp2]
  refine q_aload_n dL_law_838 rfl ?_
  refine w_callS (M' := mL_asked) [.ref X, .int (p1), .int (p2), .ref (o + 17)] [] dL_law_839 wPL_123 wTL_asked wNL iL_asked oL_asked rfl hok (hL_asked Sc Γ n V X many HG hm1 hm4 p1 p2 (o + 17) hw) (by omega) (by omega) (Nat.le_of_ble_eq_true rfl) (Nat.le_of_ble_eq_true rfl) (Nat.le_of_ble_eq_true rfl) rfl (fun v h F hp hok => ?_) (fun x h F hp hok => ?_)
  rotate_left
  · rcases hp with ⟨-, e, -⟩ | ⟨-, -, e, -⟩ | ⟨-, -, e, -⟩ <;> cases e
  rcases hp with ⟨c1, e, rfl⟩ | ⟨c1, c2, e, rfl⟩ | ⟨c1, c2, e, rfl⟩
  ·
    obtain rfl := Sum.inl.inj e
    refine t_istore [.float 1, .ref X, .ref o, .ref (o + 17), .int (nI i), .int (nI 1), .retAddr 0] (Or.inr ⟨rfl, dL_law_842⟩) (by decide) rfl ?_
    refine q_aload_n dL_law_844 rfl ?_
    refine q_aload_n_x dL_law_845 rfl ?_
    refine q_iload dL_law_846 rfl ?_
    refine q_iconst (v := nI 1) dL_law_848 rfl ?_
    refine t_iadd_n dL_law_849 ?_
    refine q_sld dL_law_850 (by exact vp_in_nI (by omega) (by omega)) ?_
    rw [← hp1]
    refine q_aload_n_x dL_law_851 rfl ?_
    refine q_iload dL_law_852 rfl ?_
    refine q_iconst (v := nI 2) dL_law_854 rfl ?_
    refine t_iadd_n dL_law_855 ?_
    refine q_sld dL_law_856 (by exact vp_in_nI (by omega) (by omega)) ?_
    rw [← hp2]
    refine w_callV (M' := mX5_asked) [.int (p1), .int (p2)] [] kX5 dL_law_857 wPL_125v wIX5_asked wSX5_asked iX5_asked oX5_asked rfl hok HM.1 (pX5_asked Sc Γ n V o many HM hm1 hm4 p1 p2 b hSB) (Nat.zero_le _) (Nat.zero_le _) (Nat.le_of_ble_eq_true rfl) (Nat.le_of_ble_eq_true rfl) (Nat.le_of_ble_eq_true rfl) rfl (fun v h F hp hok => ?_) (fun x h F hp hok => by rcases hp with ⟨-, e, -⟩ | ⟨-, -, e, -⟩ | ⟨-, -, e, -⟩ <;> cases e)
    rcases hp with ⟨d1, e, rfl⟩ | ⟨d1, d2, e, rfl⟩ | ⟨d1, d2, e, rfl⟩
    ·
      obtain rfl := Sum.inl.inj e
      refine t_istore [.float 1, .ref X, .ref o, .ref (o + 17), .int (nI i), .int (nI 1), .int (nI 0)] (Or.inr ⟨rfl, dL_law_860⟩) (by decide) rfl ?_
      refine q_goto (tgt := 944) dL_law_862 (by decide) ?_
      refine q_weak [.float 1, .ref X, .ref o, .ref (o + 17), .int (nI i), .retAddr 0, .retAddr 0] ⟨Or.inl rfl, Or.inl rfl, Or.inl rfl, Or.inl rfl, Or.inl rfl, Or.inr ⟨0, rfl⟩, Or.inr ⟨0, rfl⟩, trivial⟩ ?_
      exact q_less (by omega) (by omega) (hnext _ h (rel_bad hXo hm4 hR) (SB.mo (sb_bad hSB) (by omega)) hok)
    ·
      exact absurd ((ask_iff hR).mpr d1) c1
    ·
      exact absurd ((ask_iff hR).mpr d1) c1
  ·
    obtain rfl := Sum.inl.inj e
    refine t_istore [.float 1, .ref X, .ref o, .ref (o + 17), .int (nI i), .int (nI 2), .retAddr 0] (Or.inr ⟨rfl, dL_law_842⟩) (by decide) rfl ?_
    refine q_aload_n dL_law_844 rfl ?_
    refine q_aload_n_x dL_law_845 rfl ?_
    refine q_iload dL_law_846 rfl ?_
    refine q_iconst (v := nI 1) dL_law_848 rfl ?_
    refine t_iadd_n dL_law_849 ?_
    refine q_sld dL_law_850 (by exact vp_in_nI (by omega) (by omega)) ?_
    rw [← hp1]
    refine q_aload_n_x dL_law_851 rfl ?_
    refine q_iload dL_law_852 rfl ?_
    refine q_iconst (v := nI 2) dL_law_854 rfl ?_
    refine t_iadd_n dL_law_855 ?_
    refine q_sld dL_law_856 (by exact vp_in_nI (by omega) (by omega)) ?_
    rw [← hp2]
    refine w_callV (M' := mX5_asked) [.int (p1), .int (p2)] [] kX5 dL_law_857 wPL_125v wIX5_asked wSX5_asked iX5_asked oX5_asked rfl hok HM.1 (pX5_asked Sc Γ n V o many HM hm1 hm4 p1 p2 b hSB) (Nat.zero_le _) (Nat.zero_le _) (Nat.le_of_ble_eq_true rfl) (Nat.le_of_ble_eq_true rfl) (Nat.le_of_ble_eq_true rfl) rfl (fun v h F hp hok => ?_) (fun x h F hp hok => by rcases hp with ⟨-, e, -⟩ | ⟨-, -, e, -⟩ | ⟨-, -, e, -⟩ <;> cases e)
    rcases hp with ⟨d1, e, rfl⟩ | ⟨d1, d2, e, rfl⟩ | ⟨d1, d2, e, rfl⟩
    ·
      exact absurd ((ask_iff hR).mp c1) d1
    ·
      obtain rfl := Sum.inl.inj e
      refine t_istore [.float 1, .ref X, .ref o, .ref (o + 17), .int (nI i), .int (nI 2), .int (nI 0)] (Or.inr ⟨rfl, dL_law_860⟩) (by decide) rfl ?_
      refine q_goto (tgt := 944) dL_law_862 (by decide) ?_
      refine q_weak [.float 1, .ref X, .ref o, .ref (o + 17), .int (nI i), .retAddr 0, .retAddr 0] ⟨Or.inl rfl, Or.inl rfl, Or.inl rfl, Or.inl rfl, Or.inl rfl, Or.inr ⟨0, rfl⟩, Or.inr ⟨0, rfl⟩, trivial⟩ ?_
      exact q_less (by omega) (by omega) (hnext _ h (rel_bad hXo hm4 hR) (SB.mo (sb_bad hSB) (by omega)) hok)
    ·
      exact absurd d2 c2
  ·
    obtain rfl := Sum.inl.inj e
    refine t_istore [.float 1, .ref X, .ref o, .ref (o + 17), .int (nI i), .int (nI 0), .retAddr 0] (Or.inr ⟨rfl, dL_law_842⟩) (by decide) rfl ?_
    refine q_aload_n dL_law_844 rfl ?_
    refine q_aload_n_x dL_law_845 rfl ?_
    refine q_iload dL_law_846 rfl ?_
    refine q_iconst (v := nI 1) dL_law_848 rfl ?_
    refine t_iadd_n dL_law_849 ?_
    refine q_sld dL_law_850 (by exact vp_in_nI (by omega) (by omega)) ?_
    rw [← hp1]
    refine q_aload_n_x dL_law_851 rfl ?_
    refine q_iload dL_law_852 rfl ?_
    refine q_iconst (v := nI 2) dL_law_854 rfl ?_
    refine t_iadd_n dL_law_855 ?_
    refine q_sld dL_law_856 (by exact vp_in_nI (by omega) (by omega)) ?_
    rw [← hp2]
    have f2 : nn p2 < 4 := by have h9 := (c2).nn; omega
    refine w_callV (M' := mX5_asked) [.int (p1), .int (p2)] [] kX5 dL_law_857 wPL_125v wIX5_asked wSX5_asked iX5_asked oX5_asked rfl hok HM.1 (pX5_asked Sc Γ n ((vset (V) (o + 17) 0 ((vX4_asked X many p1 (nn p2) V)))) o many HM hm1 hm4 p1 p2 b (sb_w hXo hSB (aC.rf))) (Nat.zero_le _) (Nat.zero_le _) (Nat.le_of_ble_eq_true rfl) (Nat.le_of_ble_eq_true rfl) (Nat.le_of_ble_eq_true rfl) rfl (fun v h F hp hok => ?_) (fun x h F hp hok => by rcases hp with ⟨-, e, -⟩ | ⟨-, -, e, -⟩ | ⟨-, -, e, -⟩ <;> cases e)
    rcases hp with ⟨d1, e, rfl⟩ | ⟨d1, d2, e, rfl⟩ | ⟨d1, d2, e, rfl⟩
    ·
      exact absurd ((ask_iff (rel_w hm4 hR)).mp c1) d1
    ·
      exact absurd c2 d2
    ·
      obtain rfl := Sum.inl.inj e
      refine t_istore [.float 1, .ref X, .ref o, .ref (o + 17), .int (nI i), .int (nI 0), .int (vX5_asked o many p1 (nn p2) (vset ((vset (V) (o + 17) 0 ((vX4_asked X many p1 (nn p2) V)))) o 0 (nI 0)))] (Or.inr ⟨rfl, dL_law_860⟩) (by decide) rfl ?_
      refine q_goto (tgt := 944) dL_law_862 (by decide) ?_
      refine q_weak [.float 1, .ref X, .ref o, .ref (o + 17), .int (nI i), .retAddr 0, .retAddr 0] ⟨Or.inl rfl, Or.inl rfl, Or.inl rfl, Or.inl rfl, Or.inl rfl, Or.inr ⟨0, rfl⟩, Or.inr ⟨0, rfl⟩, trivial⟩ ?_
      exact q_less (by omega) (by omega) (hnext _ h (rel_pure hXo hm4 hR) (SB.mo (sb_pure (X := X) (many := many) hXo hSB) (by omega)) hok)
set_option maxRecDepth 20000 in
set_option maxHeartbeats 4000000 in
theorem arm14 (Sc : q_S) (hS : Sc.1 ≤ 3073) (Γ : Nat → q_K) (n X o many : Nat) (HG : sGF Γ X many) (HM : sM Γ o many) (hw : Γ (o + 17) = (5, 1, [])) (hm1 : 1 ≤ many) (hm4 : many ≤ 4) (hXo : X + 7 + 37 * many = o) (V : q_V) (b i kc ks : Nat) (hb : b + 8004 ≤ 2000000000) (hi : i + 6 ≤ Sc.1) (hR : Rel V V X many o) (hSB : SB V o b) (h : q_H) (hok : q_ok (gX Γ V) h) (Q : q_O → q_H → Nat → Prop) (hnext : ∀ (V' : q_V) (h : q_H), Rel V' V' X many o → SB V' o (b + 8004) → q_ok (gX Γ V') h → q_A Sc mL_law 944 [.float 1, .ref X, .ref o, .ref (o + 17), .int (nI i), .retAddr 0, .retAddr 0] [] h n kc ks Q) : q_A Sc mL_law 865 [.float 1, .ref X, .ref o, .ref (o + 17), .int (nI i), .retAddr 0, .retAddr 0] [] h n (kc + 4) (ks + 24) Q := by
  obtain ⟨p1, hp1⟩ : ∃ p, p = Sc.2 (nI (i + 1)).toNatClampNeg := ⟨_, rfl⟩
  obtain ⟨p2, hp2⟩ : ∃ p, p = Sc.2 (nI (i + 2)).toNatClampNeg := ⟨_, rfl⟩
  obtain ⟨p3, hp3⟩ : ∃ p, p = Sc.2 (nI (i + 3)).toNatClampNeg := ⟨_, rfl⟩
  obtain ⟨p4, hp4⟩ : ∃ p, p = Sc.2 (nI (i + 4)).toNatClampNeg := ⟨_, rfl⟩
  obtain ⟨p5, hp5⟩ : ∃ p, p = Sc.2 (nI (i + 5)).toNatClampNeg := ⟨_, rfl⟩
  refine q_aload_n dL_law_865 rfl ?_
  refine q_aload_n_x dL_law_866 rfl ?_
  refine q_iload dL_law_867 rfl ?_
  refine q_iconst (v := nI 1) dL_law_869 rfl ?_
  refine t_iadd_n dL_law_870 ?_
  refine q_sld dL_law_871 (by exact vp_in_nI (by omega) (by omega)) ?_
  rw [← hp1]
  refine q_aload_n_x dL_law_872 rfl ?_
  refine q_iload dL_law_873 rfl ?_
  refine q_iconst (v := nI 2) dL_law_875 rfl ?_
  refine t_iadd_n dL_law_876 ?_
  refine q_sld dL_law_877 (by exact vp_in_nI (by omega) (by omega)) ?_
  rw [← hp2]
  refine q_aload_n dL_law_878 rfl ?_
  refine w_callS (M' := mL_told) [.ref X, .int (p1), .int (p2), .ref (o + 17)] [] dL_law_879 wPL_126 wTL_told wNL iL_told oL_told rfl hok (hL_told Sc Γ n V X many HG hm1 hm4 p1 p2 (o + 17) hw) (by omega) (by omega) (Nat.le_of_ble_eq_true rfl) (Nat.le_of_ble_eq_true rfl) (Nat.le_of_ble_eq_true rfl) rfl (fun v h F hp hok => ?_) (fun x h F hp hok => ?_)
  rotate_left
  · rcases hp with ⟨-, e, -⟩ | ⟨-, -, e, -⟩ | ⟨-, -, e, -⟩ <;> cases e
  rcases hp with ⟨c1, e, rfl⟩ | ⟨c1, c2, e, rfl⟩ | ⟨c1, c2, e, rfl⟩
  ·
    obtain rfl := Sum.inl.inj e
    refine t_istore [.float 1, .ref X, .ref o, .ref (o + 17), .int (nI i), .int (nI 1), .retAddr 0] (Or.inr ⟨rfl, dL_law_882⟩) (by decide) rfl ?_
    refine q_aload_n dL_law_884 rfl ?_
    refine q_aload_n_x dL_law_885 rfl ?_
    refine q_iload dL_law_886 rfl ?_
    refine q_iconst (v := nI 1) dL_law_888 rfl ?_
    refine t_iadd_n dL_law_889 ?_
    refine q_sld dL_law_890 (by exact vp_in_nI (by omega) (by omega)) ?_
    rw [← hp1]
    refine q_aload_n_x dL_law_891 rfl ?_
    refine q_iload dL_law_892 rfl ?_
    refine q_iconst (v := nI 2) dL_law_894 rfl ?_
    refine t_iadd_n dL_law_895 ?_
    refine q_sld dL_law_896 (by exact vp_in_nI (by omega) (by omega)) ?_
    rw [← hp2]
    refine w_callV (M' := mX5_told) [.int (p1), .int (p2)] [] kX5 dL_law_897 wPL_128v wIX5_told wSX5_told iX5_told oX5_told rfl hok HM.1 (pX5_told Sc Γ n V o many HM hm1 hm4 p1 p2) (Nat.zero_le _) (Nat.zero_le _) (Nat.le_of_ble_eq_true rfl) (Nat.le_of_ble_eq_true rfl) (Nat.le_of_ble_eq_true rfl) rfl (fun v h F hp hok => ?_) (fun x h F hp hok => by rcases hp with ⟨-, e, -⟩ | ⟨-, -, e, -⟩ | ⟨-, -, e, -⟩ <;> cases e)
    rcases hp with ⟨d1, e, rfl⟩ | ⟨d1, d2, e, rfl⟩ | ⟨d1, d2, e, rfl⟩
    ·
      obtain rfl := Sum.inl.inj e
      refine t_istore [.float 1, .ref X, .ref o, .ref (o + 17), .int (nI i), .int (nI 1), .int (nI 0)] (Or.inr ⟨rfl, dL_law_900⟩) (by decide) rfl ?_
      refine q_aload_n dL_law_902 rfl ?_
      refine v_callV (M' := mX5_thrown) [] [] kX5 dL_law_903 wPL_129v wIX5_thrown wSX5_thrown iX5_thrown oX5_thrown rfl hok HM.1 (uX5_thrown Sc Γ n ((vset (V) o 0 (nI 1))) o many HM hm1 hm4 (nI 1) (vs_at)) (Nat.le_of_ble_eq_true rfl) (Nat.le_of_ble_eq_true rfl) (Nat.le_of_ble_eq_true rfl) rfl (fun h hok => ?_)
      refine q_iload dL_law_906 rfl ?_
      refine q_icmp_eq (tgt := 913) dL_law_908 (by decide) (fun _ => ?_) (fun q => absurd rfl q)
      refine q_iload dL_law_913 rfl ?_
      refine q_if_ne (tgt := 930) dL_law_915 (by decide) (fun _ => ?_) (fun q => absurd q (by decide))
      refine q_goto (tgt := 944) dL_law_930 (by decide) ?_
      refine q_weak [.float 1, .ref X, .ref o, .ref (o + 17), .int (nI i), .retAddr 0, .retAddr 0] ⟨Or.inl rfl, Or.inl rfl, Or.inl rfl, Or.inl rfl, Or.inl rfl, Or.inr ⟨0, rfl⟩, Or.inr ⟨0, rfl⟩, trivial⟩ ?_
      exact q_less (by omega) (by omega) (hnext _ h (rel_bad hXo hm4 hR) (SB.mo (sb_bad hSB) (by omega)) hok)
    ·
      exact absurd d1 c1
    ·
      exact absurd d1 c1
  ·
    obtain rfl := Sum.inl.inj e
    refine t_istore [.float 1, .ref X, .ref o, .ref (o + 17), .int (nI i), .int (nI 2), .retAddr 0] (Or.inr ⟨rfl, dL_law_882⟩) (by decide) rfl ?_
    refine q_aload_n dL_law_884 rfl ?_
    refine q_aload_n_x dL_law_885 rfl ?_
    refine q_iload dL_law_886 rfl ?_
    refine q_iconst (v := nI 1) dL_law_888 rfl ?_
    refine t_iadd_n dL_law_889 ?_
    refine q_sld dL_law_890 (by exact vp_in_nI (by omega) (by omega)) ?_
    rw [← hp1]
    refine q_aload_n_x dL_law_891 rfl ?_
    refine q_iload dL_law_892 rfl ?_
    refine q_iconst (v := nI 2) dL_law_894 rfl ?_
    refine t_iadd_n dL_law_895 ?_
    refine q_sld dL_law_896 (by exact vp_in_nI (by omega) (by omega)) ?_
    rw [← hp2]
    refine w_callV (M' := mX5_told) [.int (p1), .int (p2)] [] kX5 dL_law_897 wPL_128v wIX5_told wSX5_told iX5_told oX5_told rfl hok HM.1 (pX5_told Sc Γ n V o many HM hm1 hm4 p1 p2) (Nat.zero_le _) (Nat.zero_le _) (Nat.le_of_ble_eq_true rfl) (Nat.le_of_ble_eq_true rfl) (Nat.le_of_ble_eq_true rfl) rfl (fun v h F hp hok => ?_) (fun x h F hp hok => by rcases hp with ⟨-, e, -⟩ | ⟨-, -, e, -⟩ | ⟨-, -, e, -⟩ <;> cases e)
    rcases hp with ⟨d1, e, rfl⟩ | ⟨d1, d2, e, rfl⟩ | ⟨d1, d2, e, rfl⟩
    ·
      exact absurd c1 d1
    ·
      obtain rfl := Sum.inl.inj e
      refine t_istore [.float 1, .ref X, .ref o, .ref (o + 17), .int (nI i), .int (nI 2), .int (nI 0)] (Or.inr ⟨rfl, dL_law_900⟩) (by decide) rfl ?_
      refine q_aload_n dL_law_902 rfl ?_
      refine v_callV (M' := mX5_thrown) [] [] kX5 dL_law_903 wPL_129v wIX5_thrown wSX5_thrown iX5_thrown oX5_thrown rfl hok HM.1 (uX5_thrown Sc Γ n ((vset (V) o 0 (nI 2))) o many HM hm1 hm4 (nI 2) (vs_at)) (Nat.le_of_ble_eq_true rfl) (Nat.le_of_ble_eq_true rfl) (Nat.le_of_ble_eq_true rfl) rfl (fun h hok => ?_)
      refine q_iload dL_law_906 rfl ?_
      refine q_icmp_eq (tgt := 913) dL_law_908 (by decide) (fun _ => ?_) (fun q => absurd rfl q)
      refine q_iload dL_law_913 rfl ?_
      refine q_if_ne (tgt := 930) dL_law_915 (by decide) (fun _ => ?_) (fun q => absurd q (by decide))
      refine q_goto (tgt := 944) dL_law_930 (by decide) ?_
      refine q_weak [.float 1, .ref X, .ref o, .ref (o + 17), .int (nI i), .retAddr 0, .retAddr 0] ⟨Or.inl rfl, Or.inl rfl, Or.inl rfl, Or.inl rfl, Or.inl rfl, Or.inr ⟨0, rfl⟩, Or.inr ⟨0, rfl⟩, trivial⟩ ?_
      exact q_less (by omega) (by omega) (hnext _ h (rel_bad hXo hm4 hR) (SB.mo (sb_bad hSB) (by omega)) hok)
    ·
      exact absurd d2 c2
  ·
    obtain rfl := Sum.inl.inj e
    refine t_istore [.float 1, .ref X, .ref o, .ref (o + 17), .int (nI i), .int (nI 0), .retAddr 0] (Or.inr ⟨rfl, dL_law_882⟩) (by decide) rfl ?_
    refine q_aload_n dL_law_884 rfl ?_
    refine q_aload_n_x dL_law_885 rfl ?_
    refine q_iload dL_law_886 rfl ?_
    refine q_iconst (v := nI 1) dL_law_888 rfl ?_
    refine t_iadd_n dL_law_889 ?_
    refine q_sld dL_law_890 (by exact vp_in_nI (by omega) (by omega)) ?_
    rw [← hp1]
    refine q_aload_n_x dL_law_891 rfl ?_
    refine q_iload dL_law_892 rfl ?_
    refine q_iconst (v := nI 2) dL_law_894 rfl ?_
    refine t_iadd_n dL_law_895 ?_
    refine q_sld dL_law_896 (by exact vp_in_nI (by omega) (by omega)) ?_
    rw [← hp2]
    have f1 : nn p1 < many := by have h9 := (c1).nn; omega
    have f2 : nn p2 < 6 := by have h9 := (c2).nn; omega
    refine w_callV (M' := mX5_told) [.int (p1), .int (p2)] [] kX5 dL_law_897 wPL_128v wIX5_told wSX5_told iX5_told oX5_told rfl hok HM.1 (pX5_told Sc Γ n ((vset (V) (o + 17) 0 ((vX4_told X many (nn p1) (nn p2) V)))) o many HM hm1 hm4 p1 p2) (Nat.zero_le _) (Nat.zero_le _) (Nat.le_of_ble_eq_true rfl) (Nat.le_of_ble_eq_true rfl) (Nat.le_of_ble_eq_true rfl) rfl (fun v h F hp hok => ?_) (fun x h F hp hok => by rcases hp with ⟨-, e, -⟩ | ⟨-, -, e, -⟩ | ⟨-, -, e, -⟩ <;> cases e)
    rcases hp with ⟨d1, e, rfl⟩ | ⟨d1, d2, e, rfl⟩ | ⟨d1, d2, e, rfl⟩
    ·
      exact absurd c1 d1
    ·
      exact absurd c2 d2
    ·
      obtain rfl := Sum.inl.inj e
      refine t_istore [.float 1, .ref X, .ref o, .ref (o + 17), .int (nI i), .int (nI 0), .int (vX5_told o many (nn p1) (nn p2) (vset ((vset (V) (o + 17) 0 ((vX4_told X many (nn p1) (nn p2) V)))) o 0 (nI 0)))] (Or.inr ⟨rfl, dL_law_900⟩) (by decide) rfl ?_
      refine q_aload_n dL_law_902 rfl ?_
      refine v_callV (M' := mX5_thrown) [] [] kX5 dL_law_903 wPL_129v wIX5_thrown wSX5_thrown iX5_thrown oX5_thrown rfl hok HM.1 (uX5_thrown Sc Γ n (((vset ((vset (V) (o + 17) 0 ((vX4_told X many (nn p1) (nn p2) V)))) o 0 (nI 0)))) o many HM hm1 hm4 (nI 0) (vs_at)) (Nat.le_of_ble_eq_true rfl) (Nat.le_of_ble_eq_true rfl) (Nat.le_of_ble_eq_true rfl) rfl (fun h hok => ?_)
      refine q_iload dL_law_906 rfl ?_
      refine q_icmp_eq (tgt := 913) dL_law_908 (by decide) (fun _ => ?_) (fun q => absurd rfl q)
      refine q_iload dL_law_913 rfl ?_
      refine q_if_ne (tgt := 930) dL_law_915 (by decide) (fun q => absurd rfl q) (fun _ => ?_)
      refine q_aload_n dL_law_918 rfl ?_
      refine q_iconst (v := nI 0) dL_law_919 rfl ?_
      refine v_lald dL_law_920 hok hw ?_
      rw [show (((vset ((vset (V) (o + 17) 0 ((vX4_told X many (nn p1) (nn p2) V)))) o 0 (nI 0)))) (o + 17) 0 = ((vX4_told X many (nn p1) (nn p2) V)) from by rw [vs_nr (by omega), vs_at]]
      refine q_iload dL_law_921 rfl ?_
      refine q_i2l dL_law_923 ?_
      rw [← (show ((vX4_told X many (nn p1) (nn p2) V)) = (vX5_told o many (nn p1) (nn p2) (vset ((vset (V) (o + 17) 0 ((vX4_told X many (nn p1) (nn p2) V)))) o 0 (nI 0))) from (rel_mid hXo hm4 hR aC.rf).told f2 f1)]
      refine q_lcmp dL_law_924 ?_
      rw [lg_self]
      refine q_if_eq (tgt := 930) dL_law_925 (by decide) (fun _ => ?_) (fun q => absurd rfl q)
      refine q_goto (tgt := 944) dL_law_930 (by decide) ?_
      refine q_weak [.float 1, .ref X, .ref o, .ref (o + 17), .int (nI i), .retAddr 0, .retAddr 0] ⟨Or.inl rfl, Or.inl rfl, Or.inl rfl, Or.inl rfl, Or.inl rfl, Or.inr ⟨0, rfl⟩, Or.inr ⟨0, rfl⟩, trivial⟩ ?_
      exact q_less (by omega) (by omega) (hnext _ h (rel_pure hXo hm4 hR) (SB.mo (sb_pure (X := X) (many := many) hXo hSB) (by omega)) hok)
set_option maxRecDepth 20000 in
set_option maxHeartbeats 4000000 in
theorem arm15 (Sc : q_S) (hS : Sc.1 ≤ 3073) (Γ : Nat → q_K) (n X o many : Nat) (HG : sGF Γ X many) (HM : sM Γ o many) (hw : Γ (o + 17) = (5, 1, [])) (hm1 : 1 ≤ many) (hm4 : many ≤ 4) (hXo : X + 7 + 37 * many = o) (V : q_V) (b i kc ks : Nat) (hb : b + 8004 ≤ 2000000000) (hi : i + 6 ≤ Sc.1) (hR : Rel V V X many o) (hSB : SB V o b) (h : q_H) (hok : q_ok (gX Γ V) h) (Q : q_O → q_H → Nat → Prop) (hnext : ∀ (V' : q_V) (h : q_H), Rel V' V' X many o → SB V' o (b + 8004) → q_ok (gX Γ V') h → q_A Sc mL_law 944 [.float 1, .ref X, .ref o, .ref (o + 17), .int (nI i), .retAddr 0, .retAddr 0] [] h n kc ks Q) : q_A Sc mL_law 933 [.float 1, .ref X, .ref o, .ref (o + 17), .int (nI i), .retAddr 0, .retAddr 0] [] h n (kc + 4) (ks + 24) Q := by
  obtain ⟨p1, hp1⟩ : ∃ p, p = Sc.2 (nI (i + 1)).toNatClampNeg := ⟨_, rfl⟩
  obtain ⟨p2, hp2⟩ : ∃ p, p = Sc.2 (nI (i + 2)).toNatClampNeg := ⟨_, rfl⟩
  obtain ⟨p3, hp3⟩ : ∃ p, p = Sc.2 (nI (i + 3)).toNatClampNeg := ⟨_, rfl⟩
  obtain ⟨p4, hp4⟩ : ∃ p, p = Sc.2 (nI (i + 4)).toNatClampNeg := ⟨_, rfl⟩
  obtain ⟨p5, hp5⟩ : ∃ p, p = Sc.2 (nI (i + 5)).toNatClampNeg := ⟨_, rfl⟩
  refine q_aload_n dL_law_933 rfl ?_
  refine v_callV (M' := mX4_clear) [] [] kX4 dL_law_934 wPL_132v wIX4_clear wSX4_clear iX4_clear oX4_clear rfl hok HG.1 (eX4_clear Sc Γ n V X many HG hm1 hm4) (Nat.le_of_ble_eq_true rfl) (Nat.le_of_ble_eq_true rfl) (Nat.le_of_ble_eq_true rfl) rfl (fun h hok => ?_)
  refine q_aload_n dL_law_937 rfl ?_
  refine v_callV (M' := mX5_clear) [] [] kX5 dL_law_938 wPL_135v wIX5_clear wSX5_clear iX5_clear oX5_clear rfl hok HM.1 (eX5_clear Sc Γ n (fX4_clear X many V) o many HM hm1 hm4) (Nat.le_of_ble_eq_true rfl) (Nat.le_of_ble_eq_true rfl) (Nat.le_of_ble_eq_true rfl) rfl (fun h hok => ?_)
  refine q_goto (tgt := 944) dL_law_941 (by decide) ?_
  exact q_less (by omega) (by omega) (hnext _ h (st_clear hXo hm4 hR).1 (SB.mo (st_clear hXo hm4 hR).2 (by omega)) hok)
