/-! ===== the reference's cells: the object o, its rows behind it; what thrown and sent hold ===== -/
abbrev mP (o ml th s : Nat) : List (Nat × Nat) := [(2, th), (2, ml), (1, o + 1), (1, o + 2), (1, o + 3), (1, o + 4), (1, o + 5), (1, o + 6), (1, o + 7), (1, o + 8), (1, o + 9), (1, o + 10), (1, o + 11), (1, o + 12), (0, 0), (2, s), (1, o + 13), (1, o + 14), (1, o + 15), (1, o + 16)]
def mG (Γ : Nat → q_K) (o ml th s : Nat) : Nat → q_K := fun i => if i = o then (4, 5, mP o ml th s) else Γ i
def mB (Γ : Nat → q_K) (o : Nat) : Prop := Γ (o + 1) = (1, 4, []) ∧ Γ (o + 2) = (1, 4, []) ∧ Γ (o + 3) = (1, 4, []) ∧ Γ (o + 4) = (1, 4, []) ∧ Γ (o + 5) = (1, 4, []) ∧ Γ (o + 6) = (1, 4, []) ∧ Γ (o + 7) = (1, 32, []) ∧ Γ (o + 8) = (1, 32, []) ∧ Γ (o + 9) = (1, 512, []) ∧ Γ (o + 10) = (1, 512, []) ∧ True ∧ True ∧ Γ (o + 13) = (1, 40, []) ∧ Γ (o + 14) = (1, 40, []) ∧ Γ (o + 15) = (1, 40, []) ∧ Γ (o + 16) = (1, 40, [])
theorem mG_o {Γ : Nat → q_K} {o ml th s : Nat} : mG Γ o ml th s o = (4, 5, mP o ml th s) := if_pos rfl
theorem mG_a0 {Γ : Nat → q_K} {o ml th s : Nat} (h : mB Γ o) : mG Γ o ml th s (o + 1) = (1, 4, []) := (if_neg (by omega)).trans h.1
theorem mG_a1 {Γ : Nat → q_K} {o ml th s : Nat} (h : mB Γ o) : mG Γ o ml th s (o + 2) = (1, 4, []) := (if_neg (by omega)).trans h.2.1
theorem mG_a2 {Γ : Nat → q_K} {o ml th s : Nat} (h : mB Γ o) : mG Γ o ml th s (o + 3) = (1, 4, []) := (if_neg (by omega)).trans h.2.2.1
theorem mG_a3 {Γ : Nat → q_K} {o ml th s : Nat} (h : mB Γ o) : mG Γ o ml th s (o + 4) = (1, 4, []) := (if_neg (by omega)).trans h.2.2.2.1
theorem mG_a4 {Γ : Nat → q_K} {o ml th s : Nat} (h : mB Γ o) : mG Γ o ml th s (o + 5) = (1, 4, []) := (if_neg (by omega)).trans h.2.2.2.2.1
theorem mG_a5 {Γ : Nat → q_K} {o ml th s : Nat} (h : mB Γ o) : mG Γ o ml th s (o + 6) = (1, 4, []) := (if_neg (by omega)).trans h.2.2.2.2.2.1
theorem mG_a6 {Γ : Nat → q_K} {o ml th s : Nat} (h : mB Γ o) : mG Γ o ml th s (o + 7) = (1, 32, []) := (if_neg (by omega)).trans h.2.2.2.2.2.2.1
theorem mG_a7 {Γ : Nat → q_K} {o ml th s : Nat} (h : mB Γ o) : mG Γ o ml th s (o + 8) = (1, 32, []) := (if_neg (by omega)).trans h.2.2.2.2.2.2.2.1
theorem mG_a8 {Γ : Nat → q_K} {o ml th s : Nat} (h : mB Γ o) : mG Γ o ml th s (o + 9) = (1, 512, []) := (if_neg (by omega)).trans h.2.2.2.2.2.2.2.2.1
theorem mG_a9 {Γ : Nat → q_K} {o ml th s : Nat} (h : mB Γ o) : mG Γ o ml th s (o + 10) = (1, 512, []) := (if_neg (by omega)).trans h.2.2.2.2.2.2.2.2.2.1
theorem mG_a12 {Γ : Nat → q_K} {o ml th s : Nat} (h : mB Γ o) : mG Γ o ml th s (o + 13) = (1, 40, []) := (if_neg (by omega)).trans h.2.2.2.2.2.2.2.2.2.2.2.2.1
theorem mG_a13 {Γ : Nat → q_K} {o ml th s : Nat} (h : mB Γ o) : mG Γ o ml th s (o + 14) = (1, 40, []) := (if_neg (by omega)).trans h.2.2.2.2.2.2.2.2.2.2.2.2.2.1
theorem mG_a14 {Γ : Nat → q_K} {o ml th s : Nat} (h : mB Γ o) : mG Γ o ml th s (o + 15) = (1, 40, []) := (if_neg (by omega)).trans h.2.2.2.2.2.2.2.2.2.2.2.2.2.2.1
theorem mG_a15 {Γ : Nat → q_K} {o ml th s : Nat} (h : mB Γ o) : mG Γ o ml th s (o + 16) = (1, 40, []) := (if_neg (by omega)).trans h.2.2.2.2.2.2.2.2.2.2.2.2.2.2.2
theorem mG_setS {Γ : Nat → q_K} {o ml th s s' : Nat} {h : q_H} (hk : q_ok (fun j => if j = o then (4, 5, (mP o ml th s).set 15 (2, s')) else mG Γ o ml th s j) h) : q_ok (mG Γ o ml th s') h := fun j => by
  have h1 := hk j
  dsimp only at h1
  by_cases hj : j = o
  · subst hj
    rw [if_pos rfl] at h1
    rw [mG_o]
    exact h1
  · rw [if_neg hj] at h1
    rw [show mG Γ o ml th s' j = Γ j from if_neg hj]
    rw [show mG Γ o ml th s j = Γ j from if_neg hj] at h1
    exact h1
theorem mG_setT {Γ : Nat → q_K} {o ml th s s' : Nat} {h : q_H} (hk : q_ok (fun j => if j = o then (4, 5, (mP o ml th s).set 0 (2, s')) else mG Γ o ml th s j) h) : q_ok (mG Γ o ml s' s) h := fun j => by
  have h1 := hk j
  dsimp only at h1
  by_cases hj : j = o
  · subst hj
    rw [if_pos rfl] at h1
    rw [mG_o]
    exact h1
  · rw [if_neg hj] at h1
    rw [show mG Γ o ml s' s j = Γ j from if_neg hj]
    rw [show mG Γ o ml th s j = Γ j from if_neg hj] at h1
    exact h1
def q_mod (Sc : q_S) (Γ : Nat → q_K) (o ml : Nat) (M : q_M) (vs : List Value) (n th s : Nat) (R : q_O → Nat → Nat → Prop) : Prop := ∀ h, q_ok (mG Γ o ml th s) h → q_A Sc M 0 (q_L0 M vs) [] h n 0 0 (fun O h' n' => ∃ th' s', R O th' s' ∧ q_ok (mG Γ o ml th' s') h' ∧ n' = n)
section QMOD
variable {Sc : q_S} {M M' : q_M} {pc : Nat} {L st : List Value} {h : q_H} {n kc ks : Nat} {Q : q_O → q_H → Nat → Prop} {Γ : Nat → q_K} {o ml th s ix : Nat}
theorem t_callM (vs rest : List Value) {R : q_O → Nat → Nat → Prop} (hd : decode (q_cc M) pc = .ok (.invokevirtual ix, 3)) (hw1 : q_in (Cond.methodLink (q_own M) ix (q_nm M'))) (hw2 : q_in (Cond.instanceMethod (q_nm M'))) (hw3 : q_in (Cond.selects RX5 (q_nm M') (q_nm M'))) (hcd : q_inC M') (hmk : q_mok M' vs.length) (hst : st = vs.reverse ++ .ref o :: rest) (hok : q_ok (mG Γ o ml th s) h)
    (hB : q_mod Sc Γ o ml M' (.ref o :: vs) n th s R) (hfr : q_fr M' + 1 ≤ q_fr M) (hlo : (rest.map fun v => v.category).sum + (q_nL M' + 11) + q_lo M' ≤ q_lo M) (hnl : (Value.ref o :: vs).length ≤ q_nL M') (hone : q_one vs = true) (hnx : ∀ x th' s', ¬ R (.inr x) th' s')
    (k1 : ∀ v h' th' s', R (.inl v) th' s' → q_ok (mG Γ o ml th' s') h' → q_A Sc M (pc + 3) L (v.toList ++ rest) h' n kc ks Q) : q_A Sc M pc L st h n kc ks Q := by
  obtain ⟨fs, h1, -⟩ := hok.o mG_o
  exact q_callV vs rest kX5 hd hw1 hw2 hw3 hcd hmk hst h1 (hB h hok) (Nat.zero_le _) (Nat.zero_le _) hfr hlo hnl hone (fun v h' n' hp => by obtain ⟨t1, s1, p1, p2, rfl⟩ := hp; exact k1 v h' t1 s1 p1 p2) (fun x h' n' hp => by obtain ⟨t1, s1, p1, p2, rfl⟩ := hp; exact absurd p1 (hnx _ _ _))
theorem t_isub_n {a b : Nat} (hab : b ≤ a) (hd : decode (q_cc M) pc = .ok (.isub, 1)) (k : q_A Sc M (pc + 1) L (.int (nI (a - b)) :: st) h n kc ks Q) : q_A Sc M pc L (.int (nI b) :: .int (nI a) :: st) h n kc ks Q := q_isub hd (by rw [pk_sub hab]; exact k)
end QMOD
theorem q_chkN {a : Int32} (h1 : ¬ a < -1) (h2 : ¬ nI 7 < a) : a = -1 ∨ ∃ g, g ≤ 7 ∧ a = nI g := by
  by_cases h : a < nI 0
  · left
    rw [Int32.lt_iff_toInt_lt, nI_toInt (by decide)] at h
    rw [Int32.lt_iff_toInt_lt] at h1
    refine Int32.toInt_inj.mp ?_
    have h3 : (-1 : Int32).toInt = -1 := by decide
    rw [h3] at h1 ⊢
    omega
  · exact Or.inr (q_chk2 (by decide) h h2)
def q_R3 (v lo hi : Int32) : q_O → Prop := fun O => ∃ x, O = .inl (some (.int x)) ∧ ((x = nI 1 ∧ ¬ v < lo ∧ ¬ hi < v) ∨ x = nI 0)

theorem sX5_in (Sc : q_S) (Γ : Nat → q_K) (n : Nat) (a0 : Int32) (a1 : Int32) (a2 : Int32) : q_safe Sc Γ mX5_in [.int (a0), .int (a1), .int (a2)] n 0 0 (q_R3 a0 a1 a2) := by
  intro h hok
  show q_A Sc mX5_in 0 [.int (a0), .int (a1), .int (a2)] [] h n 0 0 (fun O h' n' => (q_R3 a0 a1 a2) O ∧ q_ok Γ h' ∧ n' = n)
  refine q_iload_n dX5_in_0 rfl ?_
  refine q_iload_n dX5_in_1 rfl ?_
  refine q_icmp_lt (tgt := 14) dX5_in_2 (by decide) (fun c673 => ?_) (fun c673 => ?_)
  ·
    refine q_iconst (v := nI 0) dX5_in_14 rfl ?_
    exact q_iret dX5_in_15 rfl (rfl) ⟨⟨_, rfl, Or.inr rfl⟩, hok, rfl⟩
  ·
    refine q_iload_n dX5_in_5 rfl ?_
    refine q_iload_n dX5_in_6 rfl ?_
    refine q_icmp_gt (tgt := 14) dX5_in_7 (by decide) (fun c674 => ?_) (fun c674 => ?_)
    ·
      refine q_iconst (v := nI 0) dX5_in_14 rfl ?_
      exact q_iret dX5_in_15 rfl (rfl) ⟨⟨_, rfl, Or.inr rfl⟩, hok, rfl⟩
    ·
      refine q_iconst (v := nI 1) dX5_in_10 rfl ?_
      refine q_goto (tgt := 15) dX5_in_11 (by decide) ?_
      exact q_iret dX5_in_15 rfl (rfl) ⟨⟨_, rfl, Or.inl ⟨rfl, by assumption, by assumption⟩⟩, hok, rfl⟩
theorem sX5_isLink (Sc : q_S) (Γ : Nat → q_K) (n o ml th s : Nat) (hB : mB Γ o) (hml : ml ≤ 4) (a1 : Int32) : q_mod Sc Γ o ml mX5_isLink [.ref o, .int (a1)] n th s (fun O th' s' => (∃ x, O = .inl (some (.int x)) ∧ ((x = nI 1 ∧ ∃ j, j < ml ∧ a1 = nI j) ∨ x = nI 0)) ∧ th' = th ∧ s' = s) := by
  intro h hok
  show q_A Sc mX5_isLink 0 [.ref o, .int (a1)] [] h n 0 0 (fun O h' n' => ∃ th' s', (fun O th' s' => (∃ x, O = .inl (some (.int x)) ∧ ((x = nI 1 ∧ ∃ j, j < ml ∧ a1 = nI j) ∨ x = nI 0)) ∧ th' = th ∧ s' = s) O th' s' ∧ q_ok (mG Γ o ml th' s') h' ∧ n' = n)
  refine q_iload_n dX5_isLink_0 rfl ?_
  refine q_if_lt (tgt := 16) dX5_isLink_1 (by decide) (fun c675 => ?_) (fun c675 => ?_)
  ·
    refine q_iconst (v := nI 0) dX5_isLink_16 rfl ?_
    exact q_iret dX5_isLink_17 rfl (rfl) ⟨th, s, ⟨⟨_, rfl, Or.inr rfl⟩, rfl, rfl⟩, hok, rfl⟩
  ·
    refine q_iload_n dX5_isLink_4 rfl ?_
    refine q_aload_n dX5_isLink_5 rfl ?_
    refine t_getc 1 kX5 (by decide) wPX5_59 dX5_isLink_6 hok mG_o rfl ?_
    refine q_icmp_ge (tgt := 16) dX5_isLink_9 (by decide) (fun c677 => ?_) (fun c677 => ?_)
    ·
      refine q_iconst (v := nI 0) dX5_isLink_16 rfl ?_
      exact q_iret dX5_isLink_17 rfl (rfl) ⟨th, s, ⟨⟨_, rfl, Or.inr rfl⟩, rfl, rfl⟩, hok, rfl⟩
    ·
      refine q_iconst (v := nI 1) dX5_isLink_12 rfl ?_
      refine q_goto (tgt := 17) dX5_isLink_13 (by decide) ?_
      exact q_iret dX5_isLink_17 rfl (rfl) ⟨th, s, ⟨⟨_, rfl, Or.inl ⟨rfl, q_chk (by omega) (by assumption) (by assumption)⟩⟩, rfl, rfl⟩, hok, rfl⟩
set_option maxRecDepth 20000 in
set_option maxHeartbeats 4000000 in
theorem sX5_thrown (Sc : q_S) (Γ : Nat → q_K) (n o ml th s : Nat) (hB : mB Γ o) (hml : ml ≤ 4)  : q_mod Sc Γ o ml mX5_thrown [.ref o] n th s (fun O th' s' => q_RI O ∧ th' = th ∧ s' = s) := by
  intro h hok
  show q_A Sc mX5_thrown 0 [.ref o] [] h n 0 0 (fun O h' n' => ∃ th' s', (fun O th' s' => q_RI O ∧ th' = th ∧ s' = s) O th' s' ∧ q_ok (mG Γ o ml th' s') h' ∧ n' = n)
  refine q_aload_n dX5_thrown_0 rfl ?_
  refine t_getc 0 kX5 (by decide) wPX5_66 dX5_thrown_1 hok mG_o rfl ?_
  exact q_iret dX5_thrown_4 rfl (rfl) ⟨th, s, ⟨⟨_, rfl⟩, rfl, rfl⟩, hok, rfl⟩
set_option maxRecDepth 20000 in
set_option maxHeartbeats 4000000 in
theorem sX5_grace (Sc : q_S) (Γ : Nat → q_K) (n o ml th s : Nat) (hB : mB Γ o) (hml : ml ≤ 4) (a1 : Nat) (b1 : a1 < 4) : q_mod Sc Γ o ml mX5_grace [.ref o, .int (nI a1)] n th s (fun O th' s' => q_RI O ∧ th' = th ∧ s' = s) := by
  intro h hok
  show q_A Sc mX5_grace 0 [.ref o, .int (nI a1)] [] h n 0 0 (fun O h' n' => ∃ th' s', (fun O th' s' => q_RI O ∧ th' = th ∧ s' = s) O th' s' ∧ q_ok (mG Γ o ml th' s') h' ∧ n' = n)
  refine q_aload_n dX5_grace_0 rfl ?_
  refine t_getr 2 kX5 (by decide) wPX5_7 dX5_grace_1 hok mG_o rfl ?_
  refine q_iload_n dX5_grace_4 rfl ?_
  refine t_iald dX5_grace_5 hok (mG_a0 (ml := ml) (th := th) (s := s) hB) (by exact vp_in_nI (by omega) (by omega)) (fun x680 => ?_)
  refine q_aload_n dX5_grace_6 rfl ?_
  refine t_getr 3 kX5 (by decide) wPX5_13 dX5_grace_7 hok mG_o rfl ?_
  refine q_iload_n dX5_grace_10 rfl ?_
  refine t_iald dX5_grace_11 hok (mG_a1 (ml := ml) (th := th) (s := s) hB) (by exact vp_in_nI (by omega) (by omega)) (fun x681 => ?_)
  refine q_imul dX5_grace_12 ?_
  generalize (x680) * (x681) = z682
  refine q_aload_n dX5_grace_13 rfl ?_
  refine t_getr 4 kX5 (by decide) wPX5_16 dX5_grace_14 hok mG_o rfl ?_
  refine q_iload_n dX5_grace_17 rfl ?_
  refine t_iald dX5_grace_18 hok (mG_a2 (ml := ml) (th := th) (s := s) hB) (by exact vp_in_nI (by omega) (by omega)) (fun x683 => ?_)
  refine q_iadd dX5_grace_19 ?_
  generalize (z682) + (x683) = z684
  exact q_iret dX5_grace_20 rfl (rfl) ⟨th, s, ⟨⟨_, rfl⟩, rfl, rfl⟩, hok, rfl⟩
set_option maxRecDepth 20000 in
set_option maxHeartbeats 4000000 in
theorem sX5_setOf (Sc : q_S) (Γ : Nat → q_K) (n o ml th s : Nat) (hB : mB Γ o) (hml : ml ≤ 4) (a1 : Nat) (b1 : a1 < 32) (a2 : Int32) : q_mod Sc Γ o ml mX5_setOf [.ref o, .int (nI a1), .int (a2)] n th s (fun O th' s' => q_RI O ∧ th' = th ∧ s' = s) := by
  intro h hok
  show q_A Sc mX5_setOf 0 [.ref o, .int (nI a1), .int (a2), .retAddr 0, .retAddr 0] [] h n 0 0 (fun O h' n' => ∃ th' s', (fun O th' s' => q_RI O ∧ th' = th ∧ s' = s) O th' s' ∧ q_ok (mG Γ o ml th' s') h' ∧ n' = n)
  refine q_iconst (v := nI 0) dX5_setOf_0 rfl ?_
  refine t_istore [.ref o, .int (nI a1), .int (a2), .int (nI 0), .retAddr 0] (Or.inl ⟨3, rfl, rfl, dX5_setOf_1⟩) (by decide) rfl ?_
  refine q_iconst (v := nI 0) dX5_setOf_2 rfl ?_
  refine t_istore [.ref o, .int (nI a1), .int (a2), .int (nI 0), .int (nI 0)] (Or.inr ⟨rfl, dX5_setOf_3⟩) (by decide) rfl ?_
  have hl686 : ∀ (d688 k687 : Nat) (x689 : Int32) (h : q_H), k687 + d688 = 16 → q_ok (mG Γ o ml (th) (s)) h → q_A Sc mX5_setOf 5 [.ref o, .int (nI a1), .int (a2), .int (x689), .int (nI k687)] [] h n 0 0 (fun O h' n' => ∃ th' s', (fun O th' s' => q_RI O ∧ th' = th ∧ s' = s) O th' s' ∧ q_ok (mG Γ o ml th' s') h' ∧ n' = n) := by
    intro d688
    induction d688 with
    | zero =>
      intro k687 x689 h el686 hok
      refine q_iload dX5_setOf_5 rfl ?_
      refine q_bipush (v := nI 16) dX5_setOf_7 rfl ?_
      refine t_icmp_ge_n (tgt := 45) (by omega) (by omega) dX5_setOf_9 (by decide) (fun c690 => ?_) (fun c690 => ?_)
      rotate_left
      · exact absurd c690 (by omega)
      refine q_iload_n dX5_setOf_45 rfl ?_
      exact q_iret dX5_setOf_46 rfl (rfl) ⟨th, s, ⟨⟨_, rfl⟩, rfl, rfl⟩, hok, rfl⟩
    | succ d688 ihl686 =>
      intro k687 x689 h el686 hok
      refine q_iload dX5_setOf_5 rfl ?_
      refine q_bipush (v := nI 16) dX5_setOf_7 rfl ?_
      refine t_icmp_ge_n (tgt := 45) (by omega) (by omega) dX5_setOf_9 (by decide) (fun c691 => ?_) (fun c691 => ?_)
      · exact absurd c691 (by omega)
      refine q_aload_n dX5_setOf_12 rfl ?_
      refine t_getr 10 kX5 (by decide) wPX5_34 dX5_setOf_13 hok mG_o rfl ?_
      refine q_bipush (v := nI 16) dX5_setOf_16 rfl ?_
      refine q_iload_n dX5_setOf_18 rfl ?_
      refine t_imul_n dX5_setOf_19 ?_
      refine q_iload dX5_setOf_20 rfl ?_
      refine t_iadd_n dX5_setOf_22 ?_
      refine t_iald dX5_setOf_23 hok (mG_a8 (ml := ml) (th := th) (s := s) hB) (by exact vp_in_nI (by omega) (by omega)) (fun x692 => ?_)
      refine q_iload_n dX5_setOf_24 rfl ?_
      refine q_icmp_ne (tgt := 37) dX5_setOf_25 (by decide) (fun c693 => ?_) (fun c693 => ?_)
      ·
        refine q_iload_n dX5_setOf_37 rfl ?_
        refine t_istore [.ref o, .int (nI a1), .int (a2), .int (x689), .int (nI k687)] (Or.inl ⟨3, rfl, rfl, dX5_setOf_38⟩) (by decide) rfl ?_
        refine t_iinc_n [.ref o, .int (nI a1), .int (a2), .int (x689), .int (nI (k687 + 1))] dX5_setOf_39 rfl (by decide) rfl ?_
        refine q_goto (tgt := 5) dX5_setOf_42 (by decide) ?_
        exact ihl686 (k687 + 1) (x689) h (by omega) hok
      ·
        refine q_iload_n dX5_setOf_28 rfl ?_
        refine q_iconst (v := nI 1) dX5_setOf_29 rfl ?_
        refine q_iload dX5_setOf_30 rfl ?_
        refine q_ishl dX5_setOf_32 ?_
        generalize (nI 1) <<< ((nI k687) &&& 31) = z694
        refine q_iadd dX5_setOf_33 ?_
        generalize (x689) + (z694) = z695
        refine q_goto (tgt := 38) dX5_setOf_34 (by decide) ?_
        refine t_istore [.ref o, .int (nI a1), .int (a2), .int (z695), .int (nI k687)] (Or.inl ⟨3, rfl, rfl, dX5_setOf_38⟩) (by decide) rfl ?_
        refine t_iinc_n [.ref o, .int (nI a1), .int (a2), .int (z695), .int (nI (k687 + 1))] dX5_setOf_39 rfl (by decide) rfl ?_
        refine q_goto (tgt := 5) dX5_setOf_42 (by decide) ?_
        exact ihl686 (k687 + 1) (z695) h (by omega) hok
  exact hl686 (16) 0 (nI 0) h (by omega) hok
set_option maxRecDepth 20000 in
set_option maxHeartbeats 4000000 in
theorem sX5_become (Sc : q_S) (Γ : Nat → q_K) (n o ml th s : Nat) (hB : mB Γ o) (hml : ml ≤ 4) (a1 : Nat) (b1 : a1 < 32) (a2 : Int32) (a3 : Int32) (a4 : Int32) : q_mod Sc Γ o ml mX5_become [.ref o, .int (nI a1), .int (a2), .int (a3), .int (a4)] n th s (fun O th' s' => q_RV O ∧ th' = th ∧ s' = s) := by
  intro h hok
  show q_A Sc mX5_become 0 [.ref o, .int (nI a1), .int (a2), .int (a3), .int (a4), .retAddr 0, .retAddr 0] [] h n 0 0 (fun O h' n' => ∃ th' s', (fun O th' s' => q_RV O ∧ th' = th ∧ s' = s) O th' s' ∧ q_ok (mG Γ o ml th' s') h' ∧ n' = n)
  refine q_aload_n dX5_become_0 rfl ?_
  refine t_getr 8 kX5 (by decide) wPX5_28 dX5_become_1 hok mG_o rfl ?_
  refine q_iload_n dX5_become_4 rfl ?_
  refine q_iload_n dX5_become_5 rfl ?_
  refine t_iast dX5_become_6 hok (mG_a6 (ml := ml) (th := th) (s := s) hB) (by exact vp_in_nI (by omega) (by omega)) (fun h hok => ?_)
  refine q_iconst (v := nI 0) dX5_become_7 rfl ?_
  refine t_istore [.ref o, .int (nI a1), .int (a2), .int (a3), .int (a4), .int (nI 0), .retAddr 0] (Or.inr ⟨rfl, dX5_become_8⟩) (by decide) rfl ?_
  have hl697 : ∀ (d699 k698 : Nat) (h : q_H), k698 + d699 = 16 → q_ok (mG Γ o ml (th) (s)) h → q_A Sc mX5_become 10 [.ref o, .int (nI a1), .int (a2), .int (a3), .int (a4), .int (nI k698), .retAddr 0] [] h n 0 0 (fun O h' n' => ∃ th' s', (fun O th' s' => q_RV O ∧ th' = th ∧ s' = s) O th' s' ∧ q_ok (mG Γ o ml th' s') h' ∧ n' = n) := by
    intro d699
    induction d699 with
    | zero =>
      intro k698  h el697 hok
      refine q_iload dX5_become_10 rfl ?_
      refine q_bipush (v := nI 16) dX5_become_12 rfl ?_
      refine t_icmp_ge_n (tgt := 110) (by omega) (by omega) dX5_become_14 (by decide) (fun c700 => ?_) (fun c700 => ?_)
      rotate_left
      · exact absurd c700 (by omega)
      refine q_aload_n dX5_become_110 rfl ?_
      refine t_getr 9 kX5 (by decide) wPX5_31 dX5_become_111 hok mG_o rfl ?_
      refine q_iload_n dX5_become_114 rfl ?_
      refine q_iload_n dX5_become_115 rfl ?_
      refine q_iconst (v := nI 1) dX5_become_116 rfl ?_
      refine q_icmp_ne (tgt := 129) dX5_become_117 (by decide) (fun c701 => ?_) (fun c701 => ?_)
      ·
        refine q_iconst (v := nI 0) dX5_become_129 rfl ?_
        refine t_iast dX5_become_130 hok (mG_a7 (ml := ml) (th := th) (s := s) hB) (by exact vp_in_nI (by omega) (by omega)) (fun h hok => ?_)
        refine q_iload_n dX5_become_131 rfl ?_
        refine q_if_ne (tgt := 146) dX5_become_132 (by decide) (fun c702 => ?_) (fun c702 => ?_)
        ·
          exact q_vret dX5_become_146 rfl ⟨th, s, ⟨rfl, rfl, rfl⟩, hok, rfl⟩
        ·
          refine q_iload_n dX5_become_135 rfl ?_
          refine q_if_ne (tgt := 146) dX5_become_136 (by decide) (fun c703 => ?_) (fun c703 => ?_)
          ·
            exact q_vret dX5_become_146 rfl ⟨th, s, ⟨rfl, rfl, rfl⟩, hok, rfl⟩
          ·
            refine q_aload_n dX5_become_139 rfl ?_
            refine t_getr 8 kX5 (by decide) wPX5_28 dX5_become_140 hok mG_o rfl ?_
            refine q_iload_n dX5_become_143 rfl ?_
            refine q_iconst (v := -1) dX5_become_144 rfl ?_
            refine t_iast dX5_become_145 hok (mG_a6 (ml := ml) (th := th) (s := s) hB) (by exact vp_in_nI (by omega) (by omega)) (fun h hok => ?_)
            exact q_vret dX5_become_146 rfl ⟨th, s, ⟨rfl, rfl, rfl⟩, hok, rfl⟩
      ·
        refine q_aload_n dX5_become_120 rfl ?_
        refine t_getr 9 kX5 (by decide) wPX5_31 dX5_become_121 hok mG_o rfl ?_
        refine q_iload_n dX5_become_124 rfl ?_
        refine t_iald dX5_become_125 hok (mG_a7 (ml := ml) (th := th) (s := s) hB) (by exact vp_in_nI (by omega) (by omega)) (fun x704 => ?_)
        refine q_goto (tgt := 130) dX5_become_126 (by decide) ?_
        refine t_iast dX5_become_130 hok (mG_a7 (ml := ml) (th := th) (s := s) hB) (by exact vp_in_nI (by omega) (by omega)) (fun h hok => ?_)
        refine q_iload_n dX5_become_131 rfl ?_
        refine q_if_ne (tgt := 146) dX5_become_132 (by decide) (fun c705 => ?_) (fun c705 => ?_)
        ·
          exact q_vret dX5_become_146 rfl ⟨th, s, ⟨rfl, rfl, rfl⟩, hok, rfl⟩
        ·
          refine q_iload_n dX5_become_135 rfl ?_
          refine q_if_ne (tgt := 146) dX5_become_136 (by decide) (fun c706 => ?_) (fun c706 => ?_)
          ·
            exact q_vret dX5_become_146 rfl ⟨th, s, ⟨rfl, rfl, rfl⟩, hok, rfl⟩
          ·
            refine q_aload_n dX5_become_139 rfl ?_
            refine t_getr 8 kX5 (by decide) wPX5_28 dX5_become_140 hok mG_o rfl ?_
            refine q_iload_n dX5_become_143 rfl ?_
            refine q_iconst (v := -1) dX5_become_144 rfl ?_
            refine t_iast dX5_become_145 hok (mG_a6 (ml := ml) (th := th) (s := s) hB) (by exact vp_in_nI (by omega) (by omega)) (fun h hok => ?_)
            exact q_vret dX5_become_146 rfl ⟨th, s, ⟨rfl, rfl, rfl⟩, hok, rfl⟩
    | succ d699 ihl697 =>
      intro k698  h el697 hok
      refine q_iload dX5_become_10 rfl ?_
      refine q_bipush (v := nI 16) dX5_become_12 rfl ?_
      refine t_icmp_ge_n (tgt := 110) (by omega) (by omega) dX5_become_14 (by decide) (fun c707 => ?_) (fun c707 => ?_)
      · exact absurd c707 (by omega)
      refine q_iload_n dX5_become_17 rfl ?_
      refine q_iload dX5_become_18 rfl ?_
      refine q_ishr dX5_become_20 ?_
      generalize (a3) >>> ((nI k698) &&& 31) = z708
      refine q_iconst (v := nI 1) dX5_become_21 rfl ?_
      refine q_iand dX5_become_22 ?_
      generalize (z708) &&& (nI 1) = z709
      refine q_iconst (v := nI 1) dX5_become_23 rfl ?_
      refine q_icmp_ne (tgt := 31) dX5_become_24 (by decide) (fun c710 => ?_) (fun c710 => ?_)
      ·
        refine q_iconst (v := nI 0) dX5_become_31 rfl ?_
        refine t_istore [.ref o, .int (nI a1), .int (a2), .int (a3), .int (a4), .int (nI k698), .int (nI 0)] (Or.inr ⟨rfl, dX5_become_32⟩) (by decide) rfl ?_
        refine q_aload_n dX5_become_34 rfl ?_
        refine t_getr 10 kX5 (by decide) wPX5_34 dX5_become_35 hok mG_o rfl ?_
        refine q_bipush (v := nI 16) dX5_become_38 rfl ?_
        refine q_iload_n dX5_become_40 rfl ?_
        refine t_imul_n dX5_become_41 ?_
        refine q_iload dX5_become_42 rfl ?_
        refine t_iadd_n dX5_become_44 ?_
        refine q_iload dX5_become_45 rfl ?_
        refine q_if_eq (tgt := 54) dX5_become_47 (by decide) (fun _ => ?_) (fun q => absurd q (by decide))
        refine q_iload dX5_become_54 rfl ?_
        refine q_iload dX5_become_56 rfl ?_
        refine q_ishr dX5_become_58 ?_
        generalize (a4) >>> ((nI k698) &&& 31) = z711
        refine q_iconst (v := nI 1) dX5_become_59 rfl ?_
        refine q_iand dX5_become_60 ?_
        generalize (z711) &&& (nI 1) = z712
        refine q_iconst (v := nI 1) dX5_become_61 rfl ?_
        refine q_icmp_ne (tgt := 69) dX5_become_62 (by decide) (fun c713 => ?_) (fun c713 => ?_)
        ·
          refine q_iconst (v := nI 0) dX5_become_69 rfl ?_
          refine t_iast dX5_become_70 hok (mG_a8 (ml := ml) (th := th) (s := s) hB) (by exact vp_in_nI (by omega) (by omega)) (fun h hok => ?_)
          refine q_aload_n dX5_become_71 rfl ?_
          refine t_getr 11 kX5 (by decide) wPX5_37 dX5_become_72 hok mG_o rfl ?_
          refine q_bipush (v := nI 16) dX5_become_75 rfl ?_
          refine q_iload_n dX5_become_77 rfl ?_
          refine t_imul_n dX5_become_78 ?_
          refine q_iload dX5_become_79 rfl ?_
          refine t_iadd_n dX5_become_81 ?_
          refine q_iload dX5_become_82 rfl ?_
          refine q_if_eq (tgt := 102) dX5_become_84 (by decide) (fun _ => ?_) (fun q => absurd q (by decide))
          refine q_iconst (v := nI 0) dX5_become_102 rfl ?_
          refine t_iast dX5_become_103 hok (mG_a9 (ml := ml) (th := th) (s := s) hB) (by exact vp_in_nI (by omega) (by omega)) (fun h hok => ?_)
          refine t_iinc_n [.ref o, .int (nI a1), .int (a2), .int (a3), .int (a4), .int (nI (k698 + 1)), .int (nI 0)] dX5_become_104 rfl (by decide) rfl ?_
          refine q_goto (tgt := 10) dX5_become_107 (by decide) ?_
          refine q_weak [.ref o, .int (nI a1), .int (a2), .int (a3), .int (a4), .int (nI (k698 + 1)), .retAddr 0] ⟨Or.inl rfl, Or.inl rfl, Or.inl rfl, Or.inl rfl, Or.inl rfl, Or.inl rfl, Or.inr ⟨0, rfl⟩, trivial⟩ ?_
          exact ihl697 (k698 + 1)  h (by omega) hok
        ·
          refine q_iconst (v := nI 2) dX5_become_65 rfl ?_
          refine q_goto (tgt := 70) dX5_become_66 (by decide) ?_
          refine t_iast dX5_become_70 hok (mG_a8 (ml := ml) (th := th) (s := s) hB) (by exact vp_in_nI (by omega) (by omega)) (fun h hok => ?_)
          refine q_aload_n dX5_become_71 rfl ?_
          refine t_getr 11 kX5 (by decide) wPX5_37 dX5_become_72 hok mG_o rfl ?_
          refine q_bipush (v := nI 16) dX5_become_75 rfl ?_
          refine q_iload_n dX5_become_77 rfl ?_
          refine t_imul_n dX5_become_78 ?_
          refine q_iload dX5_become_79 rfl ?_
          refine t_iadd_n dX5_become_81 ?_
          refine q_iload dX5_become_82 rfl ?_
          refine q_if_eq (tgt := 102) dX5_become_84 (by decide) (fun _ => ?_) (fun q => absurd q (by decide))
          refine q_iconst (v := nI 0) dX5_become_102 rfl ?_
          refine t_iast dX5_become_103 hok (mG_a9 (ml := ml) (th := th) (s := s) hB) (by exact vp_in_nI (by omega) (by omega)) (fun h hok => ?_)
          refine t_iinc_n [.ref o, .int (nI a1), .int (a2), .int (a3), .int (a4), .int (nI (k698 + 1)), .int (nI 0)] dX5_become_104 rfl (by decide) rfl ?_
          refine q_goto (tgt := 10) dX5_become_107 (by decide) ?_
          refine q_weak [.ref o, .int (nI a1), .int (a2), .int (a3), .int (a4), .int (nI (k698 + 1)), .retAddr 0] ⟨Or.inl rfl, Or.inl rfl, Or.inl rfl, Or.inl rfl, Or.inl rfl, Or.inl rfl, Or.inr ⟨0, rfl⟩, trivial⟩ ?_
          exact ihl697 (k698 + 1)  h (by omega) hok
      ·
        refine q_iconst (v := nI 1) dX5_become_27 rfl ?_
        refine q_goto (tgt := 32) dX5_become_28 (by decide) ?_
        refine t_istore [.ref o, .int (nI a1), .int (a2), .int (a3), .int (a4), .int (nI k698), .int (nI 1)] (Or.inr ⟨rfl, dX5_become_32⟩) (by decide) rfl ?_
        refine q_aload_n dX5_become_34 rfl ?_
        refine t_getr 10 kX5 (by decide) wPX5_34 dX5_become_35 hok mG_o rfl ?_
        refine q_bipush (v := nI 16) dX5_become_38 rfl ?_
        refine q_iload_n dX5_become_40 rfl ?_
        refine t_imul_n dX5_become_41 ?_
        refine q_iload dX5_become_42 rfl ?_
        refine t_iadd_n dX5_become_44 ?_
        refine q_iload dX5_become_45 rfl ?_
        refine q_if_eq (tgt := 54) dX5_become_47 (by decide) (fun q => absurd q (by decide)) (fun _ => ?_)
        refine q_iconst (v := nI 1) dX5_become_50 rfl ?_
        refine q_goto (tgt := 70) dX5_become_51 (by decide) ?_
        refine t_iast dX5_become_70 hok (mG_a8 (ml := ml) (th := th) (s := s) hB) (by exact vp_in_nI (by omega) (by omega)) (fun h hok => ?_)
        refine q_aload_n dX5_become_71 rfl ?_
        refine t_getr 11 kX5 (by decide) wPX5_37 dX5_become_72 hok mG_o rfl ?_
        refine q_bipush (v := nI 16) dX5_become_75 rfl ?_
        refine q_iload_n dX5_become_77 rfl ?_
        refine t_imul_n dX5_become_78 ?_
        refine q_iload dX5_become_79 rfl ?_
        refine t_iadd_n dX5_become_81 ?_
        refine q_iload dX5_become_82 rfl ?_
        refine q_if_eq (tgt := 102) dX5_become_84 (by decide) (fun q => absurd q (by decide)) (fun _ => ?_)
        refine q_aload_n dX5_become_87 rfl ?_
        refine t_getr 11 kX5 (by decide) wPX5_37 dX5_become_88 hok mG_o rfl ?_
        refine q_bipush (v := nI 16) dX5_become_91 rfl ?_
        refine q_iload_n dX5_become_93 rfl ?_
        refine t_imul_n dX5_become_94 ?_
        refine q_iload dX5_become_95 rfl ?_
        refine t_iadd_n dX5_become_97 ?_
        refine t_iald dX5_become_98 hok (mG_a9 (ml := ml) (th := th) (s := s) hB) (by exact vp_in_nI (by omega) (by omega)) (fun x714 => ?_)
        refine q_goto (tgt := 103) dX5_become_99 (by decide) ?_
        refine t_iast dX5_become_103 hok (mG_a9 (ml := ml) (th := th) (s := s) hB) (by exact vp_in_nI (by omega) (by omega)) (fun h hok => ?_)
        refine t_iinc_n [.ref o, .int (nI a1), .int (a2), .int (a3), .int (a4), .int (nI (k698 + 1)), .int (nI 1)] dX5_become_104 rfl (by decide) rfl ?_
        refine q_goto (tgt := 10) dX5_become_107 (by decide) ?_
        refine q_weak [.ref o, .int (nI a1), .int (a2), .int (a3), .int (a4), .int (nI (k698 + 1)), .retAddr 0] ⟨Or.inl rfl, Or.inl rfl, Or.inl rfl, Or.inl rfl, Or.inl rfl, Or.inl rfl, Or.inr ⟨0, rfl⟩, trivial⟩ ?_
        exact ihl697 (k698 + 1)  h (by omega) hok
  exact hl697 (16) 0  h (by omega) hok
set_option maxRecDepth 20000 in
set_option maxHeartbeats 4000000 in
theorem sX5_setTimers (Sc : q_S) (Γ : Nat → q_K) (n o ml th s : Nat) (hB : mB Γ o) (hml : ml ≤ 4) (a1 : Nat) (b1 : a1 < 32) (a2 : Int32) (a3 : Int32) : q_mod Sc Γ o ml mX5_setTimers [.ref o, .int (nI a1), .int (a2), .int (a3)] n th s (fun O th' s' => q_RV O ∧ th' = th ∧ s' = s) := by
  intro h hok
  show q_A Sc mX5_setTimers 0 [.ref o, .int (nI a1), .int (a2), .int (a3), .retAddr 0] [] h n 0 0 (fun O h' n' => ∃ th' s', (fun O th' s' => q_RV O ∧ th' = th ∧ s' = s) O th' s' ∧ q_ok (mG Γ o ml th' s') h' ∧ n' = n)
  refine q_iconst (v := nI 0) dX5_setTimers_0 rfl ?_
  refine t_istore [.ref o, .int (nI a1), .int (a2), .int (a3), .int (nI 0)] (Or.inr ⟨rfl, dX5_setTimers_1⟩) (by decide) rfl ?_
  have hl716 : ∀ (d718 k717 : Nat) (h : q_H), k717 + d718 = 16 → q_ok (mG Γ o ml (th) (s)) h → q_A Sc mX5_setTimers 3 [.ref o, .int (nI a1), .int (a2), .int (a3), .int (nI k717)] [] h n 0 0 (fun O h' n' => ∃ th' s', (fun O th' s' => q_RV O ∧ th' = th ∧ s' = s) O th' s' ∧ q_ok (mG Γ o ml th' s') h' ∧ n' = n) := by
    intro d718
    induction d718 with
    | zero =>
      intro k717  h el716 hok
      refine q_iload dX5_setTimers_3 rfl ?_
      refine q_bipush (v := nI 16) dX5_setTimers_5 rfl ?_
      refine t_icmp_ge_n (tgt := 54) (by omega) (by omega) dX5_setTimers_7 (by decide) (fun c719 => ?_) (fun c719 => ?_)
      rotate_left
      · exact absurd c719 (by omega)
      exact q_vret dX5_setTimers_54 rfl ⟨th, s, ⟨rfl, rfl, rfl⟩, hok, rfl⟩
    | succ d718 ihl716 =>
      intro k717  h el716 hok
      refine q_iload dX5_setTimers_3 rfl ?_
      refine q_bipush (v := nI 16) dX5_setTimers_5 rfl ?_
      refine t_icmp_ge_n (tgt := 54) (by omega) (by omega) dX5_setTimers_7 (by decide) (fun c720 => ?_) (fun c720 => ?_)
      · exact absurd c720 (by omega)
      refine q_aload_n dX5_setTimers_10 rfl ?_
      refine t_getr 11 kX5 (by decide) wPX5_37 dX5_setTimers_11 hok mG_o rfl ?_
      refine q_bipush (v := nI 16) dX5_setTimers_14 rfl ?_
      refine q_iload_n dX5_setTimers_16 rfl ?_
      refine t_imul_n dX5_setTimers_17 ?_
      refine q_iload dX5_setTimers_18 rfl ?_
      refine t_iadd_n dX5_setTimers_20 ?_
      refine q_iload_n dX5_setTimers_21 rfl ?_
      refine q_iload dX5_setTimers_22 rfl ?_
      refine q_ishr dX5_setTimers_24 ?_
      generalize (a2) >>> ((nI k717) &&& 31) = z721
      refine q_iconst (v := nI 1) dX5_setTimers_25 rfl ?_
      refine q_iand dX5_setTimers_26 ?_
      generalize (z721) &&& (nI 1) = z722
      refine q_iconst (v := nI 1) dX5_setTimers_27 rfl ?_
      refine q_icmp_ne (tgt := 35) dX5_setTimers_28 (by decide) (fun c723 => ?_) (fun c723 => ?_)
      ·
        refine q_aload_n dX5_setTimers_35 rfl ?_
        refine t_getr 11 kX5 (by decide) wPX5_37 dX5_setTimers_36 hok mG_o rfl ?_
        refine q_bipush (v := nI 16) dX5_setTimers_39 rfl ?_
        refine q_iload_n dX5_setTimers_41 rfl ?_
        refine t_imul_n dX5_setTimers_42 ?_
        refine q_iload dX5_setTimers_43 rfl ?_
        refine t_iadd_n dX5_setTimers_45 ?_
        refine t_iald dX5_setTimers_46 hok (mG_a9 (ml := ml) (th := th) (s := s) hB) (by exact vp_in_nI (by omega) (by omega)) (fun x724 => ?_)
        refine t_iast dX5_setTimers_47 hok (mG_a9 (ml := ml) (th := th) (s := s) hB) (by exact vp_in_nI (by omega) (by omega)) (fun h hok => ?_)
        refine t_iinc_n [.ref o, .int (nI a1), .int (a2), .int (a3), .int (nI (k717 + 1))] dX5_setTimers_48 rfl (by decide) rfl ?_
        refine q_goto (tgt := 3) dX5_setTimers_51 (by decide) ?_
        exact ihl716 (k717 + 1)  h (by omega) hok
      ·
        refine q_iload_n dX5_setTimers_31 rfl ?_
        refine q_goto (tgt := 47) dX5_setTimers_32 (by decide) ?_
        refine t_iast dX5_setTimers_47 hok (mG_a9 (ml := ml) (th := th) (s := s) hB) (by exact vp_in_nI (by omega) (by omega)) (fun h hok => ?_)
        refine t_iinc_n [.ref o, .int (nI a1), .int (a2), .int (a3), .int (nI (k717 + 1))] dX5_setTimers_48 rfl (by decide) rfl ?_
        refine q_goto (tgt := 3) dX5_setTimers_51 (by decide) ?_
        exact ihl716 (k717 + 1)  h (by omega) hok
  exact hl716 (16) 0  h (by omega) hok
set_option maxRecDepth 20000 in
set_option maxHeartbeats 4000000 in
theorem sX5_lower (Sc : q_S) (Γ : Nat → q_K) (n o ml th s : Nat) (hB : mB Γ o) (hml : ml ≤ 4) (a1 : Nat) (b1 : a1 < 4) (a2 : Nat) (b2 : a2 < 32) (a3 : Int32) : q_mod Sc Γ o ml mX5_lower [.ref o, .int (nI a1), .int (nI a2), .int (a3)] n th s (fun O th' s' => q_RV O ∧ th' = th ∧ s' = s) := by
  intro h hok
  show q_A Sc mX5_lower 0 [.ref o, .int (nI a1), .int (nI a2), .int (a3), .retAddr 0, .retAddr 0, .retAddr 0] [] h n 0 0 (fun O h' n' => ∃ th' s', (fun O th' s' => q_RV O ∧ th' = th ∧ s' = s) O th' s' ∧ q_ok (mG Γ o ml th' s') h' ∧ n' = n)
  refine q_aload_n dX5_lower_0 rfl ?_
  refine t_getr 2 kX5 (by decide) wPX5_7 dX5_lower_1 hok mG_o rfl ?_
  refine q_iload_n dX5_lower_4 rfl ?_
  refine t_iald dX5_lower_5 hok (mG_a0 (ml := ml) (th := th) (s := s) hB) (by exact vp_in_nI (by omega) (by omega)) (fun x726 => ?_)
  refine t_istore [.ref o, .int (nI a1), .int (nI a2), .int (a3), .int (x726), .retAddr 0, .retAddr 0] (Or.inr ⟨rfl, dX5_lower_6⟩) (by decide) rfl ?_
  refine q_iconst (v := nI 0) dX5_lower_8 rfl ?_
  refine t_istore [.ref o, .int (nI a1), .int (nI a2), .int (a3), .int (x726), .int (nI 0), .retAddr 0] (Or.inr ⟨rfl, dX5_lower_9⟩) (by decide) rfl ?_
  have hl727 : ∀ (d729 k728 : Nat) (h : q_H), k728 + d729 = 16 → q_ok (mG Γ o ml (th) (s)) h → q_A Sc mX5_lower 11 [.ref o, .int (nI a1), .int (nI a2), .int (a3), .int (x726), .int (nI k728), .retAddr 0] [] h n 0 0 (fun O h' n' => ∃ th' s', (fun O th' s' => q_RV O ∧ th' = th ∧ s' = s) O th' s' ∧ q_ok (mG Γ o ml th' s') h' ∧ n' = n) := by
    intro d729
    induction d729 with
    | zero =>
      intro k728  h el727 hok
      refine q_iload dX5_lower_11 rfl ?_
      refine q_bipush (v := nI 16) dX5_lower_13 rfl ?_
      refine t_icmp_ge_n (tgt := 92) (by omega) (by omega) dX5_lower_15 (by decide) (fun c730 => ?_) (fun c730 => ?_)
      rotate_left
      · exact absurd c730 (by omega)
      exact q_vret dX5_lower_92 rfl ⟨th, s, ⟨rfl, rfl, rfl⟩, hok, rfl⟩
    | succ d729 ihl727 =>
      intro k728  h el727 hok
      refine q_iload dX5_lower_11 rfl ?_
      refine q_bipush (v := nI 16) dX5_lower_13 rfl ?_
      refine t_icmp_ge_n (tgt := 92) (by omega) (by omega) dX5_lower_15 (by decide) (fun c731 => ?_) (fun c731 => ?_)
      · exact absurd c731 (by omega)
      refine q_iload_n dX5_lower_18 rfl ?_
      refine q_iload dX5_lower_19 rfl ?_
      refine q_ishr dX5_lower_21 ?_
      generalize (a3) >>> ((nI k728) &&& 31) = z732
      refine q_iconst (v := nI 1) dX5_lower_22 rfl ?_
      refine q_iand dX5_lower_23 ?_
      generalize (z732) &&& (nI 1) = z733
      refine q_iconst (v := nI 1) dX5_lower_24 rfl ?_
      refine q_icmp_ne (tgt := 49) dX5_lower_25 (by decide) (fun c734 => ?_) (fun c734 => ?_)
      ·
        refine q_iconst (v := nI 0) dX5_lower_49 rfl ?_
        refine t_istore [.ref o, .int (nI a1), .int (nI a2), .int (a3), .int (x726), .int (nI k728), .int (nI 0)] (Or.inr ⟨rfl, dX5_lower_50⟩) (by decide) rfl ?_
        refine q_aload_n dX5_lower_52 rfl ?_
        refine t_getr 11 kX5 (by decide) wPX5_37 dX5_lower_53 hok mG_o rfl ?_
        refine q_bipush (v := nI 16) dX5_lower_56 rfl ?_
        refine q_iload_n dX5_lower_58 rfl ?_
        refine t_imul_n dX5_lower_59 ?_
        refine q_iload dX5_lower_60 rfl ?_
        refine t_iadd_n dX5_lower_62 ?_
        refine q_iload dX5_lower_63 rfl ?_
        refine q_if_eq (tgt := 73) dX5_lower_65 (by decide) (fun _ => ?_) (fun q => absurd q (by decide))
        refine q_aload_n dX5_lower_73 rfl ?_
        refine t_getr 11 kX5 (by decide) wPX5_37 dX5_lower_74 hok mG_o rfl ?_
        refine q_bipush (v := nI 16) dX5_lower_77 rfl ?_
        refine q_iload_n dX5_lower_79 rfl ?_
        refine t_imul_n dX5_lower_80 ?_
        refine q_iload dX5_lower_81 rfl ?_
        refine t_iadd_n dX5_lower_83 ?_
        refine t_iald dX5_lower_84 hok (mG_a9 (ml := ml) (th := th) (s := s) hB) (by exact vp_in_nI (by omega) (by omega)) (fun x735 => ?_)
        refine t_iast dX5_lower_85 hok (mG_a9 (ml := ml) (th := th) (s := s) hB) (by exact vp_in_nI (by omega) (by omega)) (fun h hok => ?_)
        refine t_iinc_n [.ref o, .int (nI a1), .int (nI a2), .int (a3), .int (x726), .int (nI (k728 + 1)), .int (nI 0)] dX5_lower_86 rfl (by decide) rfl ?_
        refine q_goto (tgt := 11) dX5_lower_89 (by decide) ?_
        refine q_weak [.ref o, .int (nI a1), .int (nI a2), .int (a3), .int (x726), .int (nI (k728 + 1)), .retAddr 0] ⟨Or.inl rfl, Or.inl rfl, Or.inl rfl, Or.inl rfl, Or.inl rfl, Or.inl rfl, Or.inr ⟨0, rfl⟩, trivial⟩ ?_
        exact ihl727 (k728 + 1)  h (by omega) hok
      ·
        refine q_aload_n dX5_lower_28 rfl ?_
        refine t_getr 11 kX5 (by decide) wPX5_37 dX5_lower_29 hok mG_o rfl ?_
        refine q_bipush (v := nI 16) dX5_lower_32 rfl ?_
        refine q_iload_n dX5_lower_34 rfl ?_
        refine t_imul_n dX5_lower_35 ?_
        refine q_iload dX5_lower_36 rfl ?_
        refine t_iadd_n dX5_lower_38 ?_
        refine t_iald dX5_lower_39 hok (mG_a9 (ml := ml) (th := th) (s := s) hB) (by exact vp_in_nI (by omega) (by omega)) (fun x736 => ?_)
        refine q_iload dX5_lower_40 rfl ?_
        refine q_icmp_le (tgt := 49) dX5_lower_42 (by decide) (fun c737 => ?_) (fun c737 => ?_)
        ·
          refine q_iconst (v := nI 0) dX5_lower_49 rfl ?_
          refine t_istore [.ref o, .int (nI a1), .int (nI a2), .int (a3), .int (x726), .int (nI k728), .int (nI 0)] (Or.inr ⟨rfl, dX5_lower_50⟩) (by decide) rfl ?_
          refine q_aload_n dX5_lower_52 rfl ?_
          refine t_getr 11 kX5 (by decide) wPX5_37 dX5_lower_53 hok mG_o rfl ?_
          refine q_bipush (v := nI 16) dX5_lower_56 rfl ?_
          refine q_iload_n dX5_lower_58 rfl ?_
          refine t_imul_n dX5_lower_59 ?_
          refine q_iload dX5_lower_60 rfl ?_
          refine t_iadd_n dX5_lower_62 ?_
          refine q_iload dX5_lower_63 rfl ?_
          refine q_if_eq (tgt := 73) dX5_lower_65 (by decide) (fun _ => ?_) (fun q => absurd q (by decide))
          refine q_aload_n dX5_lower_73 rfl ?_
          refine t_getr 11 kX5 (by decide) wPX5_37 dX5_lower_74 hok mG_o rfl ?_
          refine q_bipush (v := nI 16) dX5_lower_77 rfl ?_
          refine q_iload_n dX5_lower_79 rfl ?_
          refine t_imul_n dX5_lower_80 ?_
          refine q_iload dX5_lower_81 rfl ?_
          refine t_iadd_n dX5_lower_83 ?_
          refine t_iald dX5_lower_84 hok (mG_a9 (ml := ml) (th := th) (s := s) hB) (by exact vp_in_nI (by omega) (by omega)) (fun x738 => ?_)
          refine t_iast dX5_lower_85 hok (mG_a9 (ml := ml) (th := th) (s := s) hB) (by exact vp_in_nI (by omega) (by omega)) (fun h hok => ?_)
          refine t_iinc_n [.ref o, .int (nI a1), .int (nI a2), .int (a3), .int (x726), .int (nI (k728 + 1)), .int (nI 0)] dX5_lower_86 rfl (by decide) rfl ?_
          refine q_goto (tgt := 11) dX5_lower_89 (by decide) ?_
          refine q_weak [.ref o, .int (nI a1), .int (nI a2), .int (a3), .int (x726), .int (nI (k728 + 1)), .retAddr 0] ⟨Or.inl rfl, Or.inl rfl, Or.inl rfl, Or.inl rfl, Or.inl rfl, Or.inl rfl, Or.inr ⟨0, rfl⟩, trivial⟩ ?_
          exact ihl727 (k728 + 1)  h (by omega) hok
        ·
          refine q_iconst (v := nI 1) dX5_lower_45 rfl ?_
          refine q_goto (tgt := 50) dX5_lower_46 (by decide) ?_
          refine t_istore [.ref o, .int (nI a1), .int (nI a2), .int (a3), .int (x726), .int (nI k728), .int (nI 1)] (Or.inr ⟨rfl, dX5_lower_50⟩) (by decide) rfl ?_
          refine q_aload_n dX5_lower_52 rfl ?_
          refine t_getr 11 kX5 (by decide) wPX5_37 dX5_lower_53 hok mG_o rfl ?_
          refine q_bipush (v := nI 16) dX5_lower_56 rfl ?_
          refine q_iload_n dX5_lower_58 rfl ?_
          refine t_imul_n dX5_lower_59 ?_
          refine q_iload dX5_lower_60 rfl ?_
          refine t_iadd_n dX5_lower_62 ?_
          refine q_iload dX5_lower_63 rfl ?_
          refine q_if_eq (tgt := 73) dX5_lower_65 (by decide) (fun q => absurd q (by decide)) (fun _ => ?_)
          refine q_iload dX5_lower_68 rfl ?_
          refine q_goto (tgt := 85) dX5_lower_70 (by decide) ?_
          refine t_iast dX5_lower_85 hok (mG_a9 (ml := ml) (th := th) (s := s) hB) (by exact vp_in_nI (by omega) (by omega)) (fun h hok => ?_)
          refine t_iinc_n [.ref o, .int (nI a1), .int (nI a2), .int (a3), .int (x726), .int (nI (k728 + 1)), .int (nI 1)] dX5_lower_86 rfl (by decide) rfl ?_
          refine q_goto (tgt := 11) dX5_lower_89 (by decide) ?_
          refine q_weak [.ref o, .int (nI a1), .int (nI a2), .int (a3), .int (x726), .int (nI (k728 + 1)), .retAddr 0] ⟨Or.inl rfl, Or.inl rfl, Or.inl rfl, Or.inl rfl, Or.inl rfl, Or.inl rfl, Or.inr ⟨0, rfl⟩, trivial⟩ ?_
          exact ihl727 (k728 + 1)  h (by omega) hok
  exact hl727 (16) 0  h (by omega) hok
set_option maxRecDepth 20000 in
set_option maxHeartbeats 4000000 in
theorem sX5_lowerGroup (Sc : q_S) (Γ : Nat → q_K) (n o ml th s : Nat) (hB : mB Γ o) (hml : ml ≤ 4) (a1 : Nat) (b1 : a1 < 4) (a2 : Nat) (b2 : a2 < 32) : q_mod Sc Γ o ml mX5_lowerGroup [.ref o, .int (nI a1), .int (nI a2)] n th s (fun O th' s' => q_RV O ∧ th' = th ∧ s' = s) := by
  intro h hok
  show q_A Sc mX5_lowerGroup 0 [.ref o, .int (nI a1), .int (nI a2)] [] h n 0 0 (fun O h' n' => ∃ th' s', (fun O th' s' => q_RV O ∧ th' = th ∧ s' = s) O th' s' ∧ q_ok (mG Γ o ml th' s') h' ∧ n' = n)
  refine q_aload_n dX5_lowerGroup_0 rfl ?_
  refine t_getr 9 kX5 (by decide) wPX5_31 dX5_lowerGroup_1 hok mG_o rfl ?_
  refine q_iload_n dX5_lowerGroup_4 rfl ?_
  refine q_aload_n dX5_lowerGroup_5 rfl ?_
  refine t_getr 9 kX5 (by decide) wPX5_31 dX5_lowerGroup_6 hok mG_o rfl ?_
  refine q_iload_n dX5_lowerGroup_9 rfl ?_
  refine t_iald dX5_lowerGroup_10 hok (mG_a7 (ml := ml) (th := th) (s := s) hB) (by exact vp_in_nI (by omega) (by omega)) (fun x740 => ?_)
  refine q_aload_n dX5_lowerGroup_11 rfl ?_
  refine t_getr 2 kX5 (by decide) wPX5_7 dX5_lowerGroup_12 hok mG_o rfl ?_
  refine q_iload_n dX5_lowerGroup_15 rfl ?_
  refine t_iald dX5_lowerGroup_16 hok (mG_a0 (ml := ml) (th := th) (s := s) hB) (by exact vp_in_nI (by omega) (by omega)) (fun x741 => ?_)
  refine q_icmp_le (tgt := 29) dX5_lowerGroup_17 (by decide) (fun c742 => ?_) (fun c742 => ?_)
  ·
    refine q_aload_n dX5_lowerGroup_29 rfl ?_
    refine t_getr 9 kX5 (by decide) wPX5_31 dX5_lowerGroup_30 hok mG_o rfl ?_
    refine q_iload_n dX5_lowerGroup_33 rfl ?_
    refine t_iald dX5_lowerGroup_34 hok (mG_a7 (ml := ml) (th := th) (s := s) hB) (by exact vp_in_nI (by omega) (by omega)) (fun x743 => ?_)
    refine t_iast dX5_lowerGroup_35 hok (mG_a7 (ml := ml) (th := th) (s := s) hB) (by exact vp_in_nI (by omega) (by omega)) (fun h hok => ?_)
    exact q_vret dX5_lowerGroup_36 rfl ⟨th, s, ⟨rfl, rfl, rfl⟩, hok, rfl⟩
  ·
    refine q_aload_n dX5_lowerGroup_20 rfl ?_
    refine t_getr 2 kX5 (by decide) wPX5_7 dX5_lowerGroup_21 hok mG_o rfl ?_
    refine q_iload_n dX5_lowerGroup_24 rfl ?_
    refine t_iald dX5_lowerGroup_25 hok (mG_a0 (ml := ml) (th := th) (s := s) hB) (by exact vp_in_nI (by omega) (by omega)) (fun x744 => ?_)
    refine q_goto (tgt := 35) dX5_lowerGroup_26 (by decide) ?_
    refine t_iast dX5_lowerGroup_35 hok (mG_a7 (ml := ml) (th := th) (s := s) hB) (by exact vp_in_nI (by omega) (by omega)) (fun h hok => ?_)
    exact q_vret dX5_lowerGroup_36 rfl ⟨th, s, ⟨rfl, rfl, rfl⟩, hok, rfl⟩
set_option maxRecDepth 20000 in
set_option maxHeartbeats 4000000 in
theorem sX5_asks (Sc : q_S) (Γ : Nat → q_K) (n o ml th s : Nat) (hB : mB Γ o) (hml : ml ≤ 4) (a1 : Nat) (b1 : a1 < 4) : q_mod Sc Γ o ml mX5_asks [.ref o, .int (nI a1)] n th s (fun O th' s' => q_RB O ∧ th' = th ∧ s' = s) := by
  intro h hok
  show q_A Sc mX5_asks 0 [.ref o, .int (nI a1)] [] h n 0 0 (fun O h' n' => ∃ th' s', (fun O th' s' => q_RB O ∧ th' = th ∧ s' = s) O th' s' ∧ q_ok (mG Γ o ml th' s') h' ∧ n' = n)
  refine q_aload_n dX5_asks_0 rfl ?_
  refine t_getr 6 kX5 (by decide) wPX5_22 dX5_asks_1 hok mG_o rfl ?_
  refine q_iload_n dX5_asks_4 rfl ?_
  refine t_iald dX5_asks_5 hok (mG_a4 (ml := ml) (th := th) (s := s) hB) (by exact vp_in_nI (by omega) (by omega)) (fun x746 => ?_)
  refine q_if_ne (tgt := 13) dX5_asks_6 (by decide) (fun c747 => ?_) (fun c747 => ?_)
  ·
    refine q_iconst (v := nI 0) dX5_asks_13 rfl ?_
    exact q_iret dX5_asks_14 rfl (rfl) ⟨th, s, ⟨⟨_, rfl, Or.inl rfl⟩, rfl, rfl⟩, hok, rfl⟩
  ·
    refine q_iconst (v := nI 1) dX5_asks_9 rfl ?_
    refine q_goto (tgt := 14) dX5_asks_10 (by decide) ?_
    exact q_iret dX5_asks_14 rfl (rfl) ⟨th, s, ⟨⟨_, rfl, Or.inr rfl⟩, rfl, rfl⟩, hok, rfl⟩
set_option maxRecDepth 20000 in
set_option maxHeartbeats 4000000 in
theorem sX5_send (Sc : q_S) (Γ : Nat → q_K) (n o ml th s : Nat) (hB : mB Γ o) (hml : ml ≤ 4) (hs : s ≤ 2000000000) (a1 : Int32) (a2 : Int32) (a3 : Int32) : q_mod Sc Γ o ml mX5_send [.ref o, .int (a1), .int (a2), .int (a3)] n th s (fun O th' s' => q_RV O ∧ th' = th ∧ s' ≤ s + 1) := by
  intro h hok
  show q_A Sc mX5_send 0 [.ref o, .int (a1), .int (a2), .int (a3), .retAddr 0] [] h n 0 0 (fun O h' n' => ∃ th' s', (fun O th' s' => q_RV O ∧ th' = th ∧ s' ≤ s + 1) O th' s' ∧ q_ok (mG Γ o ml th' s') h' ∧ n' = n)
  refine q_aload_n dX5_send_0 rfl ?_
  refine t_getc 15 kX5 (by decide) wPX5_72 dX5_send_1 hok mG_o rfl ?_
  refine q_bipush (v := nI 40) dX5_send_4 rfl ?_
  refine q_irem dX5_send_6 (by decide) ?_
  rw [pk_rem (by omega) (by omega) (by omega)]
  refine t_istore [.ref o, .int (a1), .int (a2), .int (a3), .int (nI ((s) % (40)))] (Or.inr ⟨rfl, dX5_send_7⟩) (by decide) rfl ?_
  refine q_aload_n dX5_send_9 rfl ?_
  refine t_getr 16 kX5 (by decide) wPX5_47 dX5_send_10 hok mG_o rfl ?_
  refine q_iload dX5_send_13 rfl ?_
  refine q_iload_n dX5_send_15 rfl ?_
  refine t_iast dX5_send_16 hok (mG_a12 (ml := ml) (th := th) (s := s) hB) (by exact vp_in_nI (by omega) (by omega)) (fun h hok => ?_)
  refine q_aload_n dX5_send_17 rfl ?_
  refine t_getr 17 kX5 (by decide) wPX5_50 dX5_send_18 hok mG_o rfl ?_
  refine q_iload dX5_send_21 rfl ?_
  refine q_iload_n dX5_send_23 rfl ?_
  refine t_iast dX5_send_24 hok (mG_a13 (ml := ml) (th := th) (s := s) hB) (by exact vp_in_nI (by omega) (by omega)) (fun h hok => ?_)
  refine q_aload_n dX5_send_25 rfl ?_
  refine t_getr 18 kX5 (by decide) wPX5_53 dX5_send_26 hok mG_o rfl ?_
  refine q_iload dX5_send_29 rfl ?_
  refine q_iload_n dX5_send_31 rfl ?_
  refine t_iast dX5_send_32 hok (mG_a14 (ml := ml) (th := th) (s := s) hB) (by exact vp_in_nI (by omega) (by omega)) (fun h hok => ?_)
  refine q_aload_n dX5_send_33 rfl ?_
  refine t_getr 19 kX5 (by decide) wPX5_56 dX5_send_34 hok mG_o rfl ?_
  refine q_iload dX5_send_37 rfl ?_
  refine q_aload_n dX5_send_39 rfl ?_
  refine t_geti 14 kX5 (by decide) wPX5_69 dX5_send_40 hok mG_o rfl (fun x749 => ?_)
  refine t_iast dX5_send_43 hok (mG_a15 (ml := ml) (th := th) (s := s) hB) (by exact vp_in_nI (by omega) (by omega)) (fun h hok => ?_)
  refine q_aload_n dX5_send_44 rfl ?_
  refine q_dup dX5_send_45 rfl ?_
  refine t_getc 15 kX5 (by decide) wPX5_72 dX5_send_46 hok mG_o rfl ?_
  refine q_iconst (v := nI 1) dX5_send_49 rfl ?_
  refine t_iadd_n dX5_send_50 ?_
  refine t_putc 15 (z' := s + 1) kX5 (by decide) wPX5_72 rfl dX5_send_51 hok mG_o rfl ⟨rfl, rfl⟩ (fun h hok => ?_)
  replace hok := mG_setS hok
  exact q_vret dX5_send_54 rfl ⟨th, s + 1, ⟨rfl, rfl, by omega⟩, hok, rfl⟩
