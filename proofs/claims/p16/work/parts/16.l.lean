theorem hat0a : ∀ w ∈ vx_atS "GroupFilters" 149 "java/lang/IndexOutOfBoundsException" ["java/lang/RuntimeException", "java/lang/Exception"], w ∈ lw_tbl := by decide +kernel
theorem hat0b : ∀ w ∈ vx_atS "GroupFilters" 149 "java/lang/IndexOutOfBoundsException" ["java/lang/RuntimeException", "java/lang/Exception"], q_okw w = true := by decide +kernel
theorem hat1a : ∀ w ∈ vx_atS "GroupFilters" 156 "java/lang/IllegalArgumentException" ["java/lang/RuntimeException", "java/lang/Exception"], w ∈ lw_tbl := by decide +kernel
theorem hat1b : ∀ w ∈ vx_atS "GroupFilters" 156 "java/lang/IllegalArgumentException" ["java/lang/RuntimeException", "java/lang/Exception"], q_okw w = true := by decide +kernel
theorem hatk0 : q_in (Cond.classLink "GroupFilters" 145 "java/lang/IndexOutOfBoundsException") := q_in_at 234 (by decide +kernel) rfl
theorem hatk1 : q_in (Cond.classLink "GroupFilters" 152 "java/lang/IllegalArgumentException") := q_in_at 304 (by decide +kernel) rfl
theorem hatn0 : q_in (Cond.initialized "java/lang/IndexOutOfBoundsException") := q_in_at 41 (by decide +kernel) rfl
theorem hatn1 : q_in (Cond.initialized "java/lang/IllegalArgumentException") := q_in_at 42 (by decide +kernel) rfl
theorem hatg0 : ∀ w ∈ Cond.classLink "GroupFilters" 145 "java/lang/IndexOutOfBoundsException" :: Cond.initialized "java/lang/IndexOutOfBoundsException" :: vx_atS "GroupFilters" 149 "java/lang/IndexOutOfBoundsException" ["java/lang/RuntimeException", "java/lang/Exception"], vx_ot w = true := by decide +kernel
theorem hatg1 : ∀ w ∈ Cond.classLink "GroupFilters" 152 "java/lang/IllegalArgumentException" :: Cond.initialized "java/lang/IllegalArgumentException" :: vx_atS "GroupFilters" 156 "java/lang/IllegalArgumentException" ["java/lang/RuntimeException", "java/lang/Exception"], vx_ot w = true := by decide +kernel
theorem q_lt0 {a : Int32} : a < 0 ↔ a.toInt < 0 := by rw [Int32.lt_iff_toInt_lt]; rfl
theorem q_le0 {a : Int32} : a ≤ 0 ↔ a.toInt ≤ 0 := by rw [Int32.le_iff_toInt_le]; rfl
def q_cI (a b : Int) : q_O → Prop := fun O => (O = .inl none ∧ 0 ≤ a ∧ a < b) ∨ (O = .inr 0 ∧ (a < 0 ∨ b ≤ a))
def q_cN (a b c : Int) : q_O → Prop := fun O => (O = .inl none ∧ b ≤ a ∧ a ≤ c) ∨ (O = .inr 1 ∧ (a < b ∨ c < a))
theorem q_cI.v {a b : Int} {v : Option Value} (h : q_cI a b (.inl v)) : v = none ∧ 0 ≤ a ∧ a < b := by
  rcases h with ⟨h, h2⟩ | ⟨h, -⟩
  · exact ⟨Sum.inl.inj h, h2⟩
  · cases h
theorem q_cI.x {a b : Int} {v : Nat} (h : q_cI a b (.inr v)) : v = 0 ∧ (a < 0 ∨ b ≤ a) := by
  rcases h with ⟨h, h2⟩ | ⟨h, h2⟩
  · cases h
  · exact ⟨Sum.inr.inj h, h2⟩
theorem q_cN.v {a b c : Int} {v : Option Value} (h : q_cN a b c (.inl v)) : v = none ∧ b ≤ a ∧ a ≤ c := by
  rcases h with ⟨h, h2⟩ | ⟨h, -⟩
  · exact ⟨Sum.inl.inj h, h2⟩
  · cases h
theorem q_cN.x {a b c : Int} {v : Nat} (h : q_cN a b c (.inr v)) : v = 1 ∧ (a < b ∨ c < a) := by
  rcases h with ⟨h, h2⟩ | ⟨h, h2⟩
  · cases h
  · exact ⟨Sum.inr.inj h, h2⟩
theorem eX4_checkIndex (Sc : q_S) (Γ : Nat → q_K) (n : Nat) (a0 a1 : Int32) : q_safe Sc Γ mX4_checkIndex [.int a0, .int a1] n 1 6 (q_cI a0.toInt a1.toInt) := by
  intro h hok
  show q_A Sc mX4_checkIndex 0 [.int a0, .int a1] [] h n 1 6 (fun O h' n' => q_cI a0.toInt a1.toInt O ∧ q_ok Γ h' ∧ n' = n)
  have hthrow : (a0.toInt < 0 ∨ a1.toInt ≤ a0.toInt) → q_A Sc mX4_checkIndex 9 [.int a0, .int a1] [] h n 1 6 (fun O h' n' => q_cI a0.toInt a1.toInt O ∧ q_ok Γ h' ∧ n' = n) := fun hx =>
    q_throw (x := 0) (names := ["java/lang/RuntimeException", "java/lang/Exception"]) rfl (Or.inl ⟨rfl, rfl, rfl, rfl⟩) (by decide +kernel) (by decide +kernel) hatk0 hatn0 (fun w hw => ⟨hat0a w hw, hat0b w hw⟩) hatg0 dX4_checkIndex_9 dX4_checkIndex_12 dX4_checkIndex_13 dX4_checkIndex_15 dX4_checkIndex_18 rfl (Nat.le_of_ble_eq_true rfl) (Nat.le_of_ble_eq_true rfl) (Nat.le_refl _) (Nat.le_refl _) ⟨Or.inr ⟨rfl, hx⟩, hok, rfl⟩
  refine q_iload_n dX4_checkIndex_0 rfl ?_
  refine q_if_lt (tgt := 9) dX4_checkIndex_1 (by decide) (fun c1 => hthrow (Or.inl (q_lt0.mp c1))) (fun c1 => ?_)
  refine q_iload_n dX4_checkIndex_4 rfl ?_
  refine q_iload_n dX4_checkIndex_5 rfl ?_
  rw [q_lt0] at c1
  refine q_icmp_lt (tgt := 19) dX4_checkIndex_6 (by decide) (fun c2 => ?_) (fun c2 => hthrow (Or.inr (by rw [Int32.lt_iff_toInt_lt] at c2; omega)))
  exact q_vret dX4_checkIndex_19 rfl ⟨Or.inl ⟨rfl, by omega, Int32.lt_iff_toInt_lt.mp c2⟩, hok, rfl⟩
theorem eX4_checkNumber (Sc : q_S) (Γ : Nat → q_K) (n : Nat) (a0 a1 a2 : Int32) : q_safe Sc Γ mX4_checkNumber [.int a0, .int a1, .int a2] n 1 6 (q_cN a0.toInt a1.toInt a2.toInt) := by
  intro h hok
  show q_A Sc mX4_checkNumber 0 [.int a0, .int a1, .int a2] [] h n 1 6 (fun O h' n' => q_cN a0.toInt a1.toInt a2.toInt O ∧ q_ok Γ h' ∧ n' = n)
  have hthrow : (a0.toInt < a1.toInt ∨ a2.toInt < a0.toInt) → q_A Sc mX4_checkNumber 10 [.int a0, .int a1, .int a2] [] h n 1 6 (fun O h' n' => q_cN a0.toInt a1.toInt a2.toInt O ∧ q_ok Γ h' ∧ n' = n) := fun hx =>
    q_throw (x := 1) (names := ["java/lang/RuntimeException", "java/lang/Exception"]) rfl (Or.inr ⟨rfl, rfl, rfl, rfl⟩) (by decide +kernel) (by decide +kernel) hatk1 hatn1 (fun w hw => ⟨hat1a w hw, hat1b w hw⟩) hatg1 dX4_checkNumber_10 dX4_checkNumber_13 dX4_checkNumber_14 dX4_checkNumber_16 dX4_checkNumber_19 rfl (Nat.le_of_ble_eq_true rfl) (Nat.le_of_ble_eq_true rfl) (Nat.le_refl _) (Nat.le_refl _) ⟨Or.inr ⟨rfl, hx⟩, hok, rfl⟩
  refine q_iload_n dX4_checkNumber_0 rfl ?_
  refine q_iload_n dX4_checkNumber_1 rfl ?_
  refine q_icmp_lt (tgt := 10) dX4_checkNumber_2 (by decide) (fun c1 => hthrow (Or.inl (Int32.lt_iff_toInt_lt.mp c1))) (fun c1 => ?_)
  refine q_iload_n dX4_checkNumber_5 rfl ?_
  refine q_iload_n dX4_checkNumber_6 rfl ?_
  rw [Int32.lt_iff_toInt_lt] at c1
  refine q_icmp_le (tgt := 20) dX4_checkNumber_7 (by decide) (fun c2 => ?_) (fun c2 => hthrow (Or.inr (by rw [Int32.le_iff_toInt_le] at c2; omega)))
  exact q_vret dX4_checkNumber_20 rfl ⟨Or.inl ⟨rfl, by omega, Int32.le_iff_toInt_le.mp c2⟩, hok, rfl⟩

/-! ===== the calls that check their arguments ===== -/
def inZ (a : Int32) (lo hi : Int) : Prop := lo ≤ a.toInt ∧ a.toInt < hi
def nn (a : Int32) : Nat := a.toInt.toNat
theorem nn_nI {j : Nat} (h : j < 2 ^ 31) : nn (nI j) = j := by
  unfold nn
  rw [nI_toInt h]
  rfl
theorem inZ.nat {a : Int32} {H : Int} (h : inZ a 0 H) (hH : H ≤ 2 ^ 31) : ∃ j : Nat, (j : Int) < H ∧ a = nI j := by
  refine ⟨a.toInt.toNat, ?_, int_eq ?_ ?_⟩
  · have h1 := h.1
    have h2 := h.2
    omega
  · have h1 := h.1
    have h2 := h.2
    omega
  · have h1 := h.1
    omega
theorem inZ.m {a : Int32} (h : inZ a (-1) 8) : a = -1 ∨ ∃ j : Nat, (j : Int) < 8 ∧ a = nI j := by
  by_cases h0 : a.toInt = -1
  · left
    exact Int32.toInt_inj.mp (h0.trans (by decide))
  · right
    have h1 := h.1
    exact inZ.nat ⟨by omega, h.2⟩ (by decide)
theorem inZ.m2 {a : Int32} : inZ a (-1) 8 ↔ a = -1 ∨ inZ a 0 8 := by
  constructor
  · intro h
    rcases h.m with h1 | ⟨j, h1, h2⟩
    · exact Or.inl h1
    · refine Or.inr ⟨?_, h.2⟩
      rw [h2, nI_toInt (by omega)]
      omega
  · rintro (h | h)
    · rw [h]
      exact ⟨by decide, by decide⟩
    · have h1 := h.1
      exact ⟨by omega, h.2⟩
def q_pub (G1 G2 : Prop) (V : q_V) (r : Option Value) (S : q_V) : q_O → q_V → Prop := fun O F => (¬ G1 ∧ O = .inr 0 ∧ V = F) ∨ (G1 ∧ ¬ G2 ∧ O = .inr 1 ∧ V = F) ∨ (G1 ∧ G2 ∧ O = .inl r ∧ S = F)
def q_puq (G : Prop) (V : q_V) (r : Option Value) (S : q_V) : q_O → q_V → Prop := fun O F => (¬ G ∧ (O = .inr 0 ∨ O = .inr 1) ∧ V = F) ∨ (G ∧ O = .inl r ∧ S = F)
def q_mub (G1 G2 : Prop) (V : q_V) (o : Nat) (x : Int32) (S : q_V) : q_O → q_V → Prop := fun O F => (¬ G1 ∧ O = .inl (some (.int (nI 0))) ∧ vset V o 0 (nI 1) = F) ∨ (G1 ∧ ¬ G2 ∧ O = .inl (some (.int (nI 0))) ∧ vset V o 0 (nI 2) = F) ∨ (G1 ∧ G2 ∧ O = .inl (some (.int x)) ∧ S = F)
def q_muq (G : Prop) (V : q_V) (o : Nat) (x : Int32) (S : q_V) : q_O → q_V → Prop := fun O F => (¬ G ∧ O = .inl (some (.int (nI 0))) ∧ (vset V o 0 (nI 1) = F ∨ vset V o 0 (nI 2) = F)) ∨ (G ∧ O = .inl (some (.int x)) ∧ S = F)
theorem wX4_checkIndex (Sc : q_S) (Γ : Nat → q_K) (n : Nat) (V : q_V) (a b : Int32) (H : Int) (hH : b.toInt = H) : q_fp Sc Γ mX4_checkIndex [.int a, .int b] n 1 6 V (fun O F => V = F ∧ ((O = .inl none ∧ inZ a 0 H) ∨ (O = .inr 0 ∧ ¬ inZ a 0 H))) := fun h hok => by
  subst hH
  refine q_mono (fun O h' n' hq => ?_) (eX4_checkIndex Sc (gX Γ V) n a b h hok)
  obtain ⟨h1, h2, h3⟩ := hq
  refine ⟨V, ⟨rfl, ?_⟩, h2, h3⟩
  rcases h1 with ⟨e, h1⟩ | ⟨e, h1⟩
  · exact Or.inl ⟨e, h1⟩
  · exact Or.inr ⟨e, fun q => by have q1 := q.1; have q2 := q.2; omega⟩
theorem wX4_checkNumber (Sc : q_S) (Γ : Nat → q_K) (n : Nat) (V : q_V) (a lo b : Int32) (L H : Int) (hL : lo.toInt = L) (hH : b.toInt + 1 = H) : q_fp Sc Γ mX4_checkNumber [.int a, .int lo, .int b] n 1 6 V (fun O F => V = F ∧ ((O = .inl none ∧ inZ a L H) ∨ (O = .inr 1 ∧ ¬ inZ a L H))) := fun h hok => by
  subst hH
  subst hL
  refine q_mono (fun O h' n' hq => ?_) (eX4_checkNumber Sc (gX Γ V) n a lo b h hok)
  obtain ⟨h1, h2, h3⟩ := hq
  refine ⟨V, ⟨rfl, ?_⟩, h2, h3⟩
  rcases h1 with ⟨e, h1, h4⟩ | ⟨e, h1⟩
  · exact Or.inl ⟨e, h1, by omega⟩
  · exact Or.inr ⟨e, fun q => by have q1 := q.1; have q2 := q.2; omega⟩

def vX5_in (a0 : Int32) (a1 : Int32) (a2 : Int32) (V : q_V) : Int32 := if a0 < a1 then ((nI 0)) else (if a2 < a0 then ((nI 0)) else ((nI 1)))
set_option maxRecDepth 20000 in
set_option maxHeartbeats 4000000 in
theorem eX5_in (Sc : q_S) (Γ : Nat → q_K) (n : Nat) (V : q_V) (a0 : Int32) (a1 : Int32) (a2 : Int32) : q_fn Sc Γ mX5_in [.int (a0), .int (a1), .int (a2)] n V (some (.int (vX5_in a0 a1 a2 V))) V := by
  refine q_fn.of fun Q h hQ hok => ?_
  show q_A Sc mX5_in 0 [.int (a0), .int (a1), .int (a2)] [] h n 0 0 Q
  refine q_iload_n dX5_in_0 rfl ?_
  refine q_iload_n dX5_in_1 rfl ?_
  refine q_icmp_lt (tgt := 14) dX5_in_2 (by decide) (fun c358 => ?_) (fun c358 => ?_)
  ·
    refine q_iconst (v := nI 0) dX5_in_14 rfl ?_
    exact q_iret dX5_in_15 rfl (rfl) (hQ _ _ (by dsimp only [vX5_in]; rw [if_pos c358]) (hok))
  ·
    refine q_iload_n dX5_in_5 rfl ?_
    refine q_iload_n dX5_in_6 rfl ?_
    refine q_icmp_gt (tgt := 14) dX5_in_7 (by decide) (fun c359 => ?_) (fun c359 => ?_)
    ·
      refine q_iconst (v := nI 0) dX5_in_14 rfl ?_
      exact q_iret dX5_in_15 rfl (rfl) (hQ _ _ (by dsimp only [vX5_in]; rw [if_neg c358, if_pos c359]) (hok))
    ·
      refine q_iconst (v := nI 1) dX5_in_10 rfl ?_
      refine q_goto (tgt := 15) dX5_in_11 (by decide) ?_
      exact q_iret dX5_in_15 rfl (rfl) (hQ _ _ (by dsimp only [vX5_in]; rw [if_neg c358, if_neg c359]) (hok))
def vX5_isLink (o ml : Nat) (a1 : Int32) (V : q_V) : Int32 := if a1 < 0 then ((nI 0)) else (if (nI ml) ≤ a1 then ((nI 0)) else ((nI 1)))
set_option maxRecDepth 20000 in
set_option maxHeartbeats 4000000 in
theorem eX5_isLink (Sc : q_S) (Γ : Nat → q_K) (n : Nat) (V : q_V) (o ml : Nat) (H : sM Γ o ml) (hm1 : 1 ≤ ml) (hml : ml ≤ 4) (a1 : Int32) : q_fn Sc Γ mX5_isLink [.ref o, .int (a1)] n V (some (.int (vX5_isLink o ml a1 V))) V := by
  refine q_fn.of fun Q h hQ hok => ?_
  show q_A Sc mX5_isLink 0 [.ref o, .int (a1)] [] h n 0 0 Q
  refine q_iload_n dX5_isLink_0 rfl ?_
  refine q_if_lt (tgt := 16) dX5_isLink_1 (by decide) (fun c360 => ?_) (fun c360 => ?_)
  ·
    refine q_iconst (v := nI 0) dX5_isLink_16 rfl ?_
    exact q_iret dX5_isLink_17 rfl (rfl) (hQ _ _ (by dsimp only [vX5_isLink]; rw [if_pos c360]) (hok))
  ·
    refine q_iload_n dX5_isLink_4 rfl ?_
    refine q_aload_n dX5_isLink_5 rfl ?_
    refine v_getc 1 kX5 (by decide) wPX5_59 dX5_isLink_6 hok H.1 rfl ?_
    refine q_icmp_ge (tgt := 16) dX5_isLink_9 (by decide) (fun c361 => ?_) (fun c361 => ?_)
    ·
      refine q_iconst (v := nI 0) dX5_isLink_16 rfl ?_
      exact q_iret dX5_isLink_17 rfl (rfl) (hQ _ _ (by dsimp only [vX5_isLink]; rw [if_neg c360, if_pos c361]) (hok))
    ·
      refine q_iconst (v := nI 1) dX5_isLink_12 rfl ?_
      refine q_goto (tgt := 17) dX5_isLink_13 (by decide) ?_
      exact q_iret dX5_isLink_17 rfl (rfl) (hQ _ _ (by dsimp only [vX5_isLink]; rw [if_neg c360, if_neg c361]) (hok))
theorem uX5_in (Sc : q_S) (Γ : Nat → q_K) (n : Nat) (V : q_V) (a lo b : Int32) (L H : Int) (hL : lo.toInt = L) (hH : b.toInt + 1 = H) : q_fp Sc Γ mX5_in [.int a, .int lo, .int b] n 0 0 V (fun O F => V = F ∧ ∃ x, O = .inl (some (.int x)) ∧ ((x = nI 1 ∧ inZ a L H) ∨ (x = nI 0 ∧ ¬ inZ a L H))) := fun h hok => by
  subst hH
  subst hL
  refine q_mono (fun O h' n' hq => ?_) (eX5_in Sc Γ n V a lo b h hok)
  obtain ⟨h1, h2, h3⟩ := hq
  refine ⟨V, ⟨rfl, _, h1, ?_⟩, h2, h3⟩
  dsimp only [vX5_in]
  split
  · rename_i c
    rw [Int32.lt_iff_toInt_lt] at c
    exact Or.inr ⟨rfl, fun q => by have q1 := q.1; omega⟩
  · rename_i c
    rw [Int32.lt_iff_toInt_lt] at c
    split
    · rename_i c2
      rw [Int32.lt_iff_toInt_lt] at c2
      exact Or.inr ⟨rfl, fun q => by have q1 := q.2; omega⟩
    · rename_i c2
      rw [Int32.lt_iff_toInt_lt] at c2
      exact Or.inl ⟨rfl, by omega, by omega⟩
theorem uX5_isLink (Sc : q_S) (Γ : Nat → q_K) (n : Nat) (V : q_V) (o ml : Nat) (H : sM Γ o ml) (hm1 : 1 ≤ ml) (hml : ml ≤ 4) (a : Int32) : q_fp Sc Γ mX5_isLink [.ref o, .int a] n 0 0 V (fun O F => V = F ∧ ∃ x, O = .inl (some (.int x)) ∧ ((x = nI 1 ∧ inZ a 0 (ml : Int)) ∨ (x = nI 0 ∧ ¬ inZ a 0 (ml : Int)))) := fun h hok => by
  refine q_mono (fun O h' n' hq => ?_) (eX5_isLink Sc Γ n V o ml H hm1 hml a h hok)
  obtain ⟨h1, h2, h3⟩ := hq
  refine ⟨V, ⟨rfl, _, h1, ?_⟩, h2, h3⟩
  have em : (nI ml).toInt = ml := nI_toInt (by omega)
  dsimp only [vX5_isLink]
  split
  · rename_i c
    rw [Int32.lt_iff_toInt_lt, Int32.toInt_zero] at c
    exact Or.inr ⟨rfl, fun q => by have q1 := q.1; omega⟩
  · rename_i c
    rw [Int32.lt_iff_toInt_lt, Int32.toInt_zero] at c
    split
    · rename_i c2
      rw [Int32.le_iff_toInt_le] at c2
      exact Or.inr ⟨rfl, fun q => by have q1 := q.2; omega⟩
    · rename_i c2
      rw [Int32.le_iff_toInt_le] at c2
      exact Or.inl ⟨rfl, by omega, by omega⟩

