/-! ===== sets of sources as ints: their bits ===== -/
abbrev bt (a : Int32) (s : Nat) : Prop := (a >>> (nI s &&& 31)) &&& nI 1 = nI 1
theorem bt_iff {a : Int32} {s : Nat} (hs : s < 16) : bt a s ↔ a.toBitVec.getLsbD s = true := by
  have h1 : ∀ x : Int32, x &&& nI 1 = nI 1 ↔ x.toBitVec.getLsbD 0 = true := fun x => by
    rw [← Int32.toBitVec_inj, Int32.toBitVec_and]
    show x.toBitVec &&& 1#32 = 1#32 ↔ _
    rw [BitVec.and_one_eq_setWidth_ofBool_getLsbD]
    cases x.toBitVec.getLsbD 0 <;> decide
  have h2 : (a >>> (nI s &&& 31)).toBitVec = a.toBitVec.sshiftRight s := by
    rw [Int32.toBitVec_shiftRight]
    show a.toBitVec.sshiftRight ((nI s &&& 31).toBitVec.smod 32).toNat = _
    rw [show ((nI s &&& 31).toBitVec.smod 32).toNat = s from by
      rcases (show s = 0 ∨ s = 1 ∨ s = 2 ∨ s = 3 ∨ s = 4 ∨ s = 5 ∨ s = 6 ∨ s = 7 ∨ s = 8 ∨ s = 9 ∨ s = 10 ∨ s = 11 ∨ s = 12 ∨ s = 13 ∨ s = 14 ∨ s = 15 by omega) with rfl | rfl | rfl | rfl | rfl | rfl | rfl | rfl | rfl | rfl | rfl | rfl | rfl | rfl | rfl | rfl <;> decide]
  show (a >>> (nI s &&& 31)) &&& nI 1 = nI 1 ↔ _
  rw [h1, h2, BitVec.getLsbD_sshiftRight]
  simp
  omega
theorem bt_or {a b : Int32} {s : Nat} (hs : s < 16) : bt (a ||| b) s ↔ bt a s ∨ bt b s := by
  rw [bt_iff hs, bt_iff hs, bt_iff hs, Int32.toBitVec_or, BitVec.getLsbD_or, Bool.or_eq_true]
theorem bt_and {a b : Int32} {s : Nat} (hs : s < 16) : bt (a &&& b) s ↔ bt a s ∧ bt b s := by
  rw [bt_iff hs, bt_iff hs, bt_iff hs, Int32.toBitVec_and, BitVec.getLsbD_and, Bool.and_eq_true]
theorem bt_not {a : Int32} {s : Nat} (hs : s < 16) : bt (a ^^^ (-1)) s ↔ ¬ bt a s := by
  rw [bt_iff hs, bt_iff hs, Int32.toBitVec_xor, BitVec.getLsbD_xor, show (-1 : Int32).toBitVec.getLsbD s = true from by
    rw [show (-1 : Int32).toBitVec = BitVec.allOnes 32 from by decide, BitVec.getLsbD_allOnes]
    exact decide_eq_true (by omega)]
  cases a.toBitVec.getLsbD s <;> decide
theorem bt_0 {s : Nat} (hs : s < 16) : ¬ bt (nI 0) s := by
  rw [bt_iff hs, show (nI 0).toBitVec = 0#32 from rfl, BitVec.getLsbD_zero]
  decide
theorem bt_nat {m s : Nat} (hm : m < 65536) (hs : s < 16) : bt (nI m) s ↔ m.testBit s = true := by
  rw [bt_iff hs, show (nI m).toBitVec = BitVec.ofNat 32 m from rfl, BitVec.getLsbD_ofNat]
  simp
  omega
theorem hd_iff {a : Int32} {s : Nat} {V : q_V} : vX4_holds a (nI s) V = 0 ↔ ¬ bt a s := by
  dsimp only [vX4_holds]
  have h2 : ∀ x : Int32, x &&& nI 1 = 0 ∨ x &&& nI 1 = nI 1 := fun x => by
    have e : ∀ y : BitVec 32, y &&& 1#32 = 0#32 ∨ y &&& 1#32 = 1#32 := fun y => by
      rw [BitVec.and_one_eq_setWidth_ofBool_getLsbD]
      cases y.getLsbD 0
      · exact Or.inl (by decide)
      · exact Or.inr (by decide)
    rcases e x.toBitVec with h | h
    · exact Or.inl (Int32.toBitVec_inj.mp (by rw [Int32.toBitVec_and]; exact h))
    · exact Or.inr (Int32.toBitVec_inj.mp (by rw [Int32.toBitVec_and]; exact h))
  split
  · rename_i c
    refine ⟨fun _ q => ?_, fun _ => rfl⟩
    have q2 : (a >>> (nI s &&& 31)) &&& nI 1 = nI 1 := q
    rw [c] at q2
    exact absurd q2 (by decide)
  · rename_i c
    refine ⟨fun q => absurd q (by decide), fun q => ?_⟩
    rcases h2 (a >>> (nI s &&& 31)) with h | h
    · exact absurd h c
    · exact absurd h q
def S16 (a : Int32) : Prop := ∃ m : Nat, m < 65536 ∧ a = nI m
theorem S16.bv {a : Int32} (h : S16 a) {s : Nat} (hs : 16 ≤ s) : a.toBitVec.getLsbD s = false := by
  obtain ⟨m, hm, rfl⟩ := h
  rw [show (nI m).toBitVec = BitVec.ofNat 32 m from rfl, BitVec.getLsbD_ofNat, Nat.testBit_lt_two_pow (Nat.lt_of_lt_of_le hm (Nat.pow_le_pow_right (by decide) hs : 2 ^ 16 ≤ 2 ^ s))]
  simp
theorem S16.of {a : Int32} (h : ∀ s, 16 ≤ s → a.toBitVec.getLsbD s = false) : S16 a := by
  refine ⟨a.toBitVec.toNat, ?_, (nI_cd a).symm⟩
  refine Nat.lt_of_not_le fun hge => ?_
  have h1 := a.toBitVec.isLt
  obtain ⟨i, hi, hi2⟩ := Nat.exists_ge_and_testBit_of_ge_two_pow (n := 16) hge
  have h3 := h i hi
  rw [BitVec.getLsbD] at h3
  rw [h3] at hi2
  cases hi2
theorem S16.or {a b : Int32} (ha : S16 a) (hb : S16 b) : S16 (a ||| b) := S16.of fun s hs => by
  rw [Int32.toBitVec_or, BitVec.getLsbD_or, ha.bv hs, hb.bv hs]
  rfl
theorem S16.and {a b : Int32} (ha : S16 a) : S16 (a &&& b) := S16.of fun s hs => by
  rw [Int32.toBitVec_and, BitVec.getLsbD_and, ha.bv hs]
  rfl
theorem S16.zero : S16 (nI 0) := ⟨0, by decide, rfl⟩
theorem S16.ext {a b : Int32} (ha : S16 a) (hb : S16 b) (h : ∀ s, s < 16 → (bt a s ↔ bt b s)) : a = b := by
  refine Int32.toBitVec_inj.mp (BitVec.eq_of_getLsbD_eq fun s _ => ?_)
  by_cases hs : s < 16
  · have h1 := h s hs
    rw [bt_iff hs, bt_iff hs] at h1
    cases e : a.toBitVec.getLsbD s <;> cases e2 : b.toBitVec.getLsbD s <;> simp_all
  · rw [ha.bv (by omega), hb.bv (by omega)]
theorem S16.eq0 {a : Int32} (ha : S16 a) : a = 0 ↔ ∀ s, s < 16 → ¬ bt a s := by
  constructor
  · rintro rfl s hs
    exact bt_0 hs
  · intro h
    exact S16.ext ha S16.zero fun s hs => ⟨fun q => absurd q (h s hs), fun q => absurd q (bt_0 hs)⟩
theorem S16.inZ {a : Int32} (h : inZ a 0 65536) : S16 a := by
  obtain ⟨j, h1, h2⟩ := h.nat (by decide)
  exact ⟨j, by omega, h2⟩
theorem shl_nI {k : Nat} (hk : k < 16) : nI 1 <<< (nI k &&& 31) = nI (2 ^ k) := by
  rcases (show k = 0 ∨ k = 1 ∨ k = 2 ∨ k = 3 ∨ k = 4 ∨ k = 5 ∨ k = 6 ∨ k = 7 ∨ k = 8 ∨ k = 9 ∨ k = 10 ∨ k = 11 ∨ k = 12 ∨ k = 13 ∨ k = 14 ∨ k = 15 by omega) with rfl | rfl | rfl | rfl | rfl | rfl | rfl | rfl | rfl | rfl | rfl | rfl | rfl | rfl | rfl | rfl <;> decide
theorem pow16 {k : Nat} (hk : k < 16) : 2 ^ k ≤ 32768 := (Nat.pow_le_pow_right (by decide) (show k ≤ 15 by omega) : 2 ^ k ≤ 2 ^ 15)
/-- the sum of the powers of the places that P names -/
theorem sum_bits {P : Nat → Prop} {G : Nat → Int32 → Int32} (hP : ∀ k g, k < 16 → P k → G k g = g + nI 1 <<< (nI k &&& 31)) (hN : ∀ k g, k < 16 → ¬ P k → G k g = g) : ∀ (d k m : Nat), k + d = 16 → m < 2 ^ k → (∀ s, s < k → (m.testBit s = true ↔ P s)) → ∃ m2, m2 < 65536 ∧ lp G d k (nI m) = nI m2 ∧ ∀ s, s < 16 → (m2.testBit s = true ↔ P s) := by
  intro d
  induction d with
  | zero =>
    intro k m hk hm hb
    obtain rfl : k = 16 := by omega
    exact ⟨m, hm, rfl, hb⟩
  | succ d ih =>
    intro k m hk hm hb
    have hp := pow16 (show k < 16 by omega)
    have e2 : 2 ^ (k + 1) = 2 ^ k + 2 ^ k := by rw [Nat.pow_succ]; omega
    by_cases h : P k
    · have e1 : lp G (d + 1) k (nI m) = lp G d (k + 1) (nI (2 ^ k + m)) := by
        show lp G d (k + 1) (G k (nI m)) = _
        rw [hP k _ (by omega) h, shl_nI (by omega), nI_add, Nat.add_comm m]
      rw [e1]
      refine ih (k + 1) (2 ^ k + m) (by omega) (by omega) (fun s hs => ?_)
      by_cases hsk : s = k
      · subst hsk
        rw [Nat.testBit_two_pow_add_eq, Nat.testBit_lt_two_pow hm]
        exact ⟨fun _ => h, fun _ => rfl⟩
      · rw [Nat.testBit_two_pow_add_gt (by omega)]
        exact hb s (by omega)
    · have e1 : lp G (d + 1) k (nI m) = lp G d (k + 1) (nI m) := by
        show lp G d (k + 1) (G k (nI m)) = _
        rw [hN k _ (by omega) h]
      rw [e1]
      refine ih (k + 1) m (by omega) (by omega) (fun s hs => ?_)
      by_cases hsk : s = k
      · subst hsk
        rw [Nat.testBit_lt_two_pow hm]
        exact ⟨fun q => absurd q (by decide), fun q => absurd q h⟩
      · exact hb s (by omega)
theorem sum_set {P : Nat → Prop} {G : Nat → Int32 → Int32} (hP : ∀ k g, k < 16 → P k → G k g = g + nI 1 <<< (nI k &&& 31)) (hN : ∀ k g, k < 16 → ¬ P k → G k g = g) : S16 (lp G 16 0 (nI 0)) ∧ ∀ s, s < 16 → (bt (lp G 16 0 (nI 0)) s ↔ P s) := by
  obtain ⟨m, h1, h2, h3⟩ := sum_bits hP hN 16 0 0 rfl (by decide) (fun s hs => absurd hs (by omega))
  rw [h2]
  exact ⟨⟨m, h1, rfl⟩, fun s hs => by rw [bt_nat h1 hs]; exact h3 s hs⟩
theorem bt_shl {k s : Nat} (hk : k < 16) (hs : s < 16) : bt (nI 1 <<< (nI k &&& 31)) s ↔ s = k := by
  have hp := pow16 hk
  rw [shl_nI hk, bt_nat (by omega) hs, Nat.testBit_two_pow]
  simp
  omega
theorem S16.shl {k : Nat} (hk : k < 16) : S16 (nI 1 <<< (nI k &&& 31)) := by
  have hp := pow16 hk
  exact ⟨2 ^ k, by omega, shl_nI hk⟩

