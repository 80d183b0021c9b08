set_option maxRecDepth 20000 in
set_option maxHeartbeats 8000000 in
theorem nX5_init (Sc : q_S) (Γ : Nat → q_K) (o : Nat) (hg : Γ o = (4, 5, [(2, 0), (2, 0), (3, 0), (3, 0), (3, 0), (3, 0), (3, 0), (3, 0), (3, 0), (3, 0), (3, 0), (3, 0), (3, 0), (3, 0), (0, 0), (2, 0), (3, 0), (3, 0), (3, 0), (3, 0)])) (lk : Int32) (h : q_H) (hok : q_ok Γ h) : q_A Sc mX5_init 0 [.ref o, .int lk] [] h (o + 1) 16 1656 (fun O h' n' => O = .inl none ∧ ∃ (ml : Nat) (Γ' : Nat → q_K), 1 ≤ ml ∧ ml ≤ 4 ∧ nI ml = q_clamp lk ∧ n' = o + 17 ∧ q_ok (mG Γ' o ml 0 0) h' ∧ mB Γ' o ∧ mE Γ' o z0 z0 ∧ ∀ j, j < o → Γ' j = Γ j) := by
  refine q_aload_n dX5_init_0 rfl ?_
  refine q_obj dX5_init_1 wOX5 wOi wOc (by decide) (Nat.le_of_ble_eq_true rfl) ?_
  refine q_aload_n dX5_init_4 rfl ?_
  refine q_iconst (v := nI 4) dX5_init_5 rfl ?_
  refine c_newi dX5_init_6 rfl wAint (nI_pos (by decide)) (nI_clamp (by decide)) (by decide) (Nat.le_of_ble_eq_true rfl) (Nat.le_of_ble_eq_true rfl) hok (fun h hok => ?_)
  refine c_put 2 (p := (1, o + 1)) kX5 (by decide) wQX5_7 (Or.inr ⟨rfl, rfl, rfl⟩) dX5_init_8 hok ((gs_ne (by omega)).trans hg) (by exact Nat.le_of_ble_eq_true rfl) (fun _ => ⟨rfl, rfl⟩) (by rfl) (fun h hok => ?_)
  refine q_aload_n dX5_init_11 rfl ?_
  refine q_iconst (v := nI 4) dX5_init_12 rfl ?_
  refine c_newi dX5_init_13 rfl wAint (nI_pos (by decide)) (nI_clamp (by decide)) (by decide) (Nat.le_of_ble_eq_true rfl) (Nat.le_of_ble_eq_true rfl) hok (fun h hok => ?_)
  refine c_put 3 (p := (1, o + 2)) kX5 (by decide) wQX5_13 (Or.inr ⟨rfl, rfl, rfl⟩) dX5_init_15 hok ((gs_ne (by omega)).trans gs_at) (by exact Nat.le_of_ble_eq_true rfl) (fun _ => ⟨rfl, rfl⟩) (by rfl) (fun h hok => ?_)
  refine q_aload_n dX5_init_18 rfl ?_
  refine q_iconst (v := nI 4) dX5_init_19 rfl ?_
  refine c_newi dX5_init_20 rfl wAint (nI_pos (by decide)) (nI_clamp (by decide)) (by decide) (Nat.le_of_ble_eq_true rfl) (Nat.le_of_ble_eq_true rfl) hok (fun h hok => ?_)
  refine c_put 4 (p := (1, o + 3)) kX5 (by decide) wQX5_16 (Or.inr ⟨rfl, rfl, rfl⟩) dX5_init_22 hok ((gs_ne (by omega)).trans gs_at) (by exact Nat.le_of_ble_eq_true rfl) (fun _ => ⟨rfl, rfl⟩) (by rfl) (fun h hok => ?_)
  refine q_aload_n dX5_init_25 rfl ?_
  refine q_iconst (v := nI 4) dX5_init_26 rfl ?_
  refine c_newi dX5_init_27 rfl wAint (nI_pos (by decide)) (nI_clamp (by decide)) (by decide) (Nat.le_of_ble_eq_true rfl) (Nat.le_of_ble_eq_true rfl) hok (fun h hok => ?_)
  refine c_put 5 (p := (1, o + 4)) kX5 (by decide) wQX5_19 (Or.inr ⟨rfl, rfl, rfl⟩) dX5_init_29 hok ((gs_ne (by omega)).trans gs_at) (by exact Nat.le_of_ble_eq_true rfl) (fun _ => ⟨rfl, rfl⟩) (by rfl) (fun h hok => ?_)
  refine q_aload_n dX5_init_32 rfl ?_
  refine q_iconst (v := nI 4) dX5_init_33 rfl ?_
  refine c_newi dX5_init_34 rfl wAint (nI_pos (by decide)) (nI_clamp (by decide)) (by decide) (Nat.le_of_ble_eq_true rfl) (Nat.le_of_ble_eq_true rfl) hok (fun h hok => ?_)
  refine c_put 6 (p := (1, o + 5)) kX5 (by decide) wQX5_22 (Or.inr ⟨rfl, rfl, rfl⟩) dX5_init_36 hok ((gs_ne (by omega)).trans gs_at) (by exact Nat.le_of_ble_eq_true rfl) (fun _ => ⟨rfl, rfl⟩) (by rfl) (fun h hok => ?_)
  refine q_aload_n dX5_init_39 rfl ?_
  refine q_iconst (v := nI 4) dX5_init_40 rfl ?_
  refine c_newi dX5_init_41 rfl wAint (nI_pos (by decide)) (nI_clamp (by decide)) (by decide) (Nat.le_of_ble_eq_true rfl) (Nat.le_of_ble_eq_true rfl) hok (fun h hok => ?_)
  refine c_put 7 (p := (1, o + 6)) kX5 (by decide) wQX5_25 (Or.inr ⟨rfl, rfl, rfl⟩) dX5_init_43 hok ((gs_ne (by omega)).trans gs_at) (by exact Nat.le_of_ble_eq_true rfl) (fun _ => ⟨rfl, rfl⟩) (by rfl) (fun h hok => ?_)
  refine q_aload_n dX5_init_46 rfl ?_
  refine q_bipush (v := nI 32) dX5_init_47 rfl ?_
  refine c_newi dX5_init_49 rfl wAint (nI_pos (by decide)) (nI_clamp (by decide)) (by decide) (Nat.le_of_ble_eq_true rfl) (Nat.le_of_ble_eq_true rfl) hok (fun h hok => ?_)
  refine c_put 8 (p := (1, o + 7)) kX5 (by decide) wQX5_28 (Or.inr ⟨rfl, rfl, rfl⟩) dX5_init_51 hok ((gs_ne (by omega)).trans gs_at) (by exact Nat.le_of_ble_eq_true rfl) (fun _ => ⟨rfl, rfl⟩) (by rfl) (fun h hok => ?_)
  refine q_aload_n dX5_init_54 rfl ?_
  refine q_bipush (v := nI 32) dX5_init_55 rfl ?_
  refine c_newi dX5_init_57 rfl wAint (nI_pos (by decide)) (nI_clamp (by decide)) (by decide) (Nat.le_of_ble_eq_true rfl) (Nat.le_of_ble_eq_true rfl) hok (fun h hok => ?_)
  refine c_put 9 (p := (1, o + 8)) kX5 (by decide) wQX5_31 (Or.inr ⟨rfl, rfl, rfl⟩) dX5_init_59 hok ((gs_ne (by omega)).trans gs_at) (by exact Nat.le_of_ble_eq_true rfl) (fun _ => ⟨rfl, rfl⟩) (by rfl) (fun h hok => ?_)
  refine q_aload_n dX5_init_62 rfl ?_
  refine q_sipush (v := nI 512) dX5_init_63 rfl ?_
  refine c_newi dX5_init_66 rfl wAint (nI_pos (by decide)) (nI_clamp (by decide)) (by decide) (Nat.le_of_ble_eq_true rfl) (Nat.le_of_ble_eq_true rfl) hok (fun h hok => ?_)
  refine c_put 10 (p := (1, o + 9)) kX5 (by decide) wQX5_34 (Or.inr ⟨rfl, rfl, rfl⟩) dX5_init_68 hok ((gs_ne (by omega)).trans gs_at) (by exact Nat.le_of_ble_eq_true rfl) (fun _ => ⟨rfl, rfl⟩) (by rfl) (fun h hok => ?_)
  refine q_aload_n dX5_init_71 rfl ?_
  refine q_sipush (v := nI 512) dX5_init_72 rfl ?_
  refine c_newi dX5_init_75 rfl wAint (nI_pos (by decide)) (nI_clamp (by decide)) (by decide) (Nat.le_of_ble_eq_true rfl) (Nat.le_of_ble_eq_true rfl) hok (fun h hok => ?_)
  refine c_put 11 (p := (1, o + 10)) kX5 (by decide) wQX5_37 (Or.inr ⟨rfl, rfl, rfl⟩) dX5_init_77 hok ((gs_ne (by omega)).trans gs_at) (by exact Nat.le_of_ble_eq_true rfl) (fun _ => ⟨rfl, rfl⟩) (by rfl) (fun h hok => ?_)
  refine q_aload_n dX5_init_80 rfl ?_
  refine q_sipush (v := nI 192) dX5_init_81 rfl ?_
  refine c_newz dX5_init_84 rfl wAboolean (nI_pos (by decide)) (nI_clamp (by decide)) (by decide) (Nat.le_of_ble_eq_true rfl) (Nat.le_of_ble_eq_true rfl) hok (fun h hok => ?_)
  refine c_put 12 (p := (1, o + 11)) kX5 (by decide) wQX5_40 (Or.inr ⟨rfl, rfl, rfl⟩) dX5_init_86 hok ((gs_ne (by omega)).trans gs_at) (by exact Nat.le_of_ble_eq_true rfl) (fun _ => ⟨rfl, rfl⟩) (by rfl) (fun h hok => ?_)
  refine q_aload_n dX5_init_89 rfl ?_
  refine q_sipush (v := nI 192) dX5_init_90 rfl ?_
  refine c_newi dX5_init_93 rfl wAint (nI_pos (by decide)) (nI_clamp (by decide)) (by decide) (Nat.le_of_ble_eq_true rfl) (Nat.le_of_ble_eq_true rfl) hok (fun h hok => ?_)
  refine c_put 13 (p := (1, o + 12)) kX5 (by decide) wQX5_44 (Or.inr ⟨rfl, rfl, rfl⟩) dX5_init_95 hok ((gs_ne (by omega)).trans gs_at) (by exact Nat.le_of_ble_eq_true rfl) (fun _ => ⟨rfl, rfl⟩) (by rfl) (fun h hok => ?_)
  refine q_aload_n dX5_init_98 rfl ?_
  refine q_bipush (v := nI 40) dX5_init_99 rfl ?_
  refine c_newi dX5_init_101 rfl wAint (nI_pos (by decide)) (nI_clamp (by decide)) (by decide) (Nat.le_of_ble_eq_true rfl) (Nat.le_of_ble_eq_true rfl) hok (fun h hok => ?_)
  refine c_put 16 (p := (1, o + 13)) kX5 (by decide) wQX5_47 (Or.inr ⟨rfl, rfl, rfl⟩) dX5_init_103 hok ((gs_ne (by omega)).trans gs_at) (by exact Nat.le_of_ble_eq_true rfl) (fun _ => ⟨rfl, rfl⟩) (by rfl) (fun h hok => ?_)
  refine q_aload_n dX5_init_106 rfl ?_
  refine q_bipush (v := nI 40) dX5_init_107 rfl ?_
  refine c_newi dX5_init_109 rfl wAint (nI_pos (by decide)) (nI_clamp (by decide)) (by decide) (Nat.le_of_ble_eq_true rfl) (Nat.le_of_ble_eq_true rfl) hok (fun h hok => ?_)
  refine c_put 17 (p := (1, o + 14)) kX5 (by decide) wQX5_50 (Or.inr ⟨rfl, rfl, rfl⟩) dX5_init_111 hok ((gs_ne (by omega)).trans gs_at) (by exact Nat.le_of_ble_eq_true rfl) (fun _ => ⟨rfl, rfl⟩) (by rfl) (fun h hok => ?_)
  refine q_aload_n dX5_init_114 rfl ?_
  refine q_bipush (v := nI 40) dX5_init_115 rfl ?_
  refine c_newi dX5_init_117 rfl wAint (nI_pos (by decide)) (nI_clamp (by decide)) (by decide) (Nat.le_of_ble_eq_true rfl) (Nat.le_of_ble_eq_true rfl) hok (fun h hok => ?_)
  refine c_put 18 (p := (1, o + 15)) kX5 (by decide) wQX5_53 (Or.inr ⟨rfl, rfl, rfl⟩) dX5_init_119 hok ((gs_ne (by omega)).trans gs_at) (by exact Nat.le_of_ble_eq_true rfl) (fun _ => ⟨rfl, rfl⟩) (by rfl) (fun h hok => ?_)
  refine q_aload_n dX5_init_122 rfl ?_
  refine q_bipush (v := nI 40) dX5_init_123 rfl ?_
  refine c_newi dX5_init_125 rfl wAint (nI_pos (by decide)) (nI_clamp (by decide)) (by decide) (Nat.le_of_ble_eq_true rfl) (Nat.le_of_ble_eq_true rfl) hok (fun h hok => ?_)
  refine c_put 19 (p := (1, o + 16)) kX5 (by decide) wQX5_56 (Or.inr ⟨rfl, rfl, rfl⟩) dX5_init_127 hok ((gs_ne (by omega)).trans gs_at) (by exact Nat.le_of_ble_eq_true rfl) (fun _ => ⟨rfl, rfl⟩) (by rfl) (fun h hok => ?_)
  obtain ⟨Γ3, hok, ho, hB, h11, h12, hlow⟩ : ∃ Γ3 : Nat → q_K, q_ok Γ3 h ∧ Γ3 o = (4, 5, [(2, 0), (2, 0), (1, o + 1), (1, o + 2), (1, o + 3), (1, o + 4), (1, o + 5), (1, o + 6), (1, o + 7), (1, o + 8), (1, o + 9), (1, o + 10), (1, o + 11), (1, o + 12), (0, 0), (2, 0), (1, o + 13), (1, o + 14), (1, o + 15), (1, o + 16)]) ∧ mB Γ3 o ∧ Γ3 (o + 11) = (2, 192, []) ∧ Γ3 (o + 12) = (1, 192, []) ∧ ∀ j, j < o → Γ3 j = Γ j := by
    refine ⟨_, hok, gs_at, ⟨?_, ?_, ?_, ?_, ?_, ?_, ?_, ?_, ?_, ?_, trivial, trivial, ?_, ?_, ?_, ?_⟩, ?_, ?_, fun j hj => ?_⟩
    · rw [gs_ne (by omega), gs_ne (by omega), gs_ne (by omega), gs_ne (by omega), gs_ne (by omega), gs_ne (by omega), gs_ne (by omega), gs_ne (by omega), gs_ne (by omega), gs_ne (by omega), gs_ne (by omega), gs_ne (by omega), gs_ne (by omega), gs_ne (by omega), gs_ne (by omega), gs_ne (by omega), gs_ne (by omega), gs_ne (by omega), gs_ne (by omega), gs_ne (by omega), gs_ne (by omega), gs_ne (by omega), gs_ne (by omega), gs_ne (by omega), gs_ne (by omega), gs_ne (by omega), gs_ne (by omega), gs_ne (by omega), gs_ne (by omega), gs_ne (by omega), gs_ne (by omega)]; exact gs_at
    · rw [gs_ne (by omega), gs_ne (by omega), gs_ne (by omega), gs_ne (by omega), gs_ne (by omega), gs_ne (by omega), gs_ne (by omega), gs_ne (by omega), gs_ne (by omega), gs_ne (by omega), gs_ne (by omega), gs_ne (by omega), gs_ne (by omega), gs_ne (by omega), gs_ne (by omega), gs_ne (by omega), gs_ne (by omega), gs_ne (by omega), gs_ne (by omega), gs_ne (by omega), gs_ne (by omega), gs_ne (by omega), gs_ne (by omega), gs_ne (by omega), gs_ne (by omega), gs_ne (by omega), gs_ne (by omega), gs_ne (by omega), gs_ne (by omega)]; exact gs_at
    · rw [gs_ne (by omega), gs_ne (by omega), gs_ne (by omega), gs_ne (by omega), gs_ne (by omega), gs_ne (by omega), gs_ne (by omega), gs_ne (by omega), gs_ne (by omega), gs_ne (by omega), gs_ne (by omega), gs_ne (by omega), gs_ne (by omega), gs_ne (by omega), gs_ne (by omega), gs_ne (by omega), gs_ne (by omega), gs_ne (by omega), gs_ne (by omega), gs_ne (by omega), gs_ne (by omega), gs_ne (by omega), gs_ne (by omega), gs_ne (by omega), gs_ne (by omega), gs_ne (by omega), gs_ne (by omega)]; exact gs_at
    · rw [gs_ne (by omega), gs_ne (by omega), gs_ne (by omega), gs_ne (by omega), gs_ne (by omega), gs_ne (by omega), gs_ne (by omega), gs_ne (by omega), gs_ne (by omega), gs_ne (by omega), gs_ne (by omega), gs_ne (by omega), gs_ne (by omega), gs_ne (by omega), gs_ne (by omega), gs_ne (by omega), gs_ne (by omega), gs_ne (by omega), gs_ne (by omega), gs_ne (by omega), gs_ne (by omega), gs_ne (by omega), gs_ne (by omega), gs_ne (by omega), gs_ne (by omega)]; exact gs_at
    · rw [gs_ne (by omega), gs_ne (by omega), gs_ne (by omega), gs_ne (by omega), gs_ne (by omega), gs_ne (by omega), gs_ne (by omega), gs_ne (by omega), gs_ne (by omega), gs_ne (by omega), gs_ne (by omega), gs_ne (by omega), gs_ne (by omega), gs_ne (by omega), gs_ne (by omega), gs_ne (by omega), gs_ne (by omega), gs_ne (by omega), gs_ne (by omega), gs_ne (by omega), gs_ne (by omega), gs_ne (by omega), gs_ne (by omega)]; exact gs_at
    · rw [gs_ne (by omega), gs_ne (by omega), gs_ne (by omega), gs_ne (by omega), gs_ne (by omega), gs_ne (by omega), gs_ne (by omega), gs_ne (by omega), gs_ne (by omega), gs_ne (by omega), gs_ne (by omega), gs_ne (by omega), gs_ne (by omega), gs_ne (by omega), gs_ne (by omega), gs_ne (by omega), gs_ne (by omega), gs_ne (by omega), gs_ne (by omega), gs_ne (by omega), gs_ne (by omega)]; exact gs_at
    · rw [gs_ne (by omega), gs_ne (by omega), gs_ne (by omega), gs_ne (by omega), gs_ne (by omega), gs_ne (by omega), gs_ne (by omega), gs_ne (by omega), gs_ne (by omega), gs_ne (by omega), gs_ne (by omega), gs_ne (by omega), gs_ne (by omega), gs_ne (by omega), gs_ne (by omega), gs_ne (by omega), gs_ne (by omega), gs_ne (by omega), gs_ne (by omega)]; exact gs_at
    · rw [gs_ne (by omega), gs_ne (by omega), gs_ne (by omega), gs_ne (by omega), gs_ne (by omega), gs_ne (by omega), gs_ne (by omega), gs_ne (by omega), gs_ne (by omega), gs_ne (by omega), gs_ne (by omega), gs_ne (by omega), gs_ne (by omega), gs_ne (by omega), gs_ne (by omega), gs_ne (by omega), gs_ne (by omega)]; exact gs_at
    · rw [gs_ne (by omega), gs_ne (by omega), gs_ne (by omega), gs_ne (by omega), gs_ne (by omega), gs_ne (by omega), gs_ne (by omega), gs_ne (by omega), gs_ne (by omega), gs_ne (by omega), gs_ne (by omega), gs_ne (by omega), gs_ne (by omega), gs_ne (by omega), gs_ne (by omega)]; exact gs_at
    · rw [gs_ne (by omega), gs_ne (by omega), gs_ne (by omega), gs_ne (by omega), gs_ne (by omega), gs_ne (by omega), gs_ne (by omega), gs_ne (by omega), gs_ne (by omega), gs_ne (by omega), gs_ne (by omega), gs_ne (by omega), gs_ne (by omega)]; exact gs_at
    · rw [gs_ne (by omega), gs_ne (by omega), gs_ne (by omega), gs_ne (by omega), gs_ne (by omega), gs_ne (by omega), gs_ne (by omega)]; exact gs_at
    · rw [gs_ne (by omega), gs_ne (by omega), gs_ne (by omega), gs_ne (by omega), gs_ne (by omega)]; exact gs_at
    · rw [gs_ne (by omega), gs_ne (by omega), gs_ne (by omega)]; exact gs_at
    · rw [gs_ne (by omega)]; exact gs_at
    · rw [gs_ne (by omega), gs_ne (by omega), gs_ne (by omega), gs_ne (by omega), gs_ne (by omega), gs_ne (by omega), gs_ne (by omega), gs_ne (by omega), gs_ne (by omega), gs_ne (by omega), gs_ne (by omega)]; exact gs_at
    · rw [gs_ne (by omega), gs_ne (by omega), gs_ne (by omega), gs_ne (by omega), gs_ne (by omega), gs_ne (by omega), gs_ne (by omega), gs_ne (by omega), gs_ne (by omega)]; exact gs_at
    · rw [gs_ne (by omega), gs_ne (by omega), gs_ne (by omega), gs_ne (by omega), gs_ne (by omega), gs_ne (by omega), gs_ne (by omega), gs_ne (by omega), gs_ne (by omega), gs_ne (by omega), gs_ne (by omega), gs_ne (by omega), gs_ne (by omega), gs_ne (by omega), gs_ne (by omega), gs_ne (by omega), gs_ne (by omega), gs_ne (by omega), gs_ne (by omega), gs_ne (by omega), gs_ne (by omega), gs_ne (by omega), gs_ne (by omega), gs_ne (by omega), gs_ne (by omega), gs_ne (by omega), gs_ne (by omega), gs_ne (by omega), gs_ne (by omega), gs_ne (by omega), gs_ne (by omega), gs_ne (by omega)]
  refine q_aload_n dX5_init_130 rfl ?_
  refine q_iload_n dX5_init_131 rfl ?_
  refine q_iconst (v := nI 1) dX5_init_132 rfl ?_
  have hJ : ∀ ml : Nat, 1 ≤ ml → ml ≤ 4 → nI ml = q_clamp lk → q_A Sc mX5_init 150 [.ref o, .int lk] [.int (nI ml), .ref o] h (o + 17) 0 0 (fun O h' n' => O = .inl none ∧ ∃ (ml : Nat) (Γ' : Nat → q_K), 1 ≤ ml ∧ ml ≤ 4 ∧ nI ml = q_clamp lk ∧ n' = o + 17 ∧ q_ok (mG Γ' o ml 0 0) h' ∧ mB Γ' o ∧ mE Γ' o z0 z0 ∧ ∀ j, j < o → Γ' j = Γ j) := by
    intro ml h1 h4 hc
    refine c_put 1 (p := (2, ml)) kX5 (by decide) wQX5_59 (Or.inr ⟨rfl, rfl, rfl⟩) dX5_init_150 hok ho (by exact Nat.le_of_ble_eq_true rfl) ⟨rfl, rfl⟩ (by rfl) (fun h hok => ?_)
    refine q_aload_n dX5_init_153 rfl ?_
    have hok2 : q_ok (mG Γ3 o ml 0 0) h := fun j => by
      have h9 := hok j
      by_cases hj : j = o
      · subst hj
        rw [gs_at] at h9
        rw [mG_o]
        exact h9
      · rw [gs_ne hj] at h9
        rw [show mG Γ3 o ml 0 0 j = Γ3 j from if_neg hj]
        exact h9
    obtain ⟨E, hok3⟩ := hok2.o9 (i := o + 11) (N := 192) (ps := []) ((mG_ne (by omega)).trans h11)
    have hok4 := mG_gs (by omega) hok3
    obtain ⟨F, hok5⟩ := hok4.o8 (i := o + 12) (N := 192) (ps := []) ((mG_ne (by omega)).trans ((gs_ne (by omega)).trans h12))
    have hok6 := mG_gs (by omega) hok5
    have hB2 : mB (mS Γ3 o F E) o := mB_gs (Or.inr (Or.inl rfl)) (mB_gs (Or.inl rfl) hB)
    have hE2 : mE (mS Γ3 o F E) o F E := ⟨(gs_ne (by omega)).trans gs_at, gs_at⟩
    obtain ⟨fs, hf1, -⟩ := hok6.o mG_o
    refine q_callV (M' := mX5_begin) [] [] kX5 dX5_init_154 wPX5_63v wIX5_begin wSX5_begin iX5_begin oX5_begin rfl hf1 (eX5_begin Sc (mS Γ3 o F E) _ o ml 0 0 hB2 F E hE2 h hok6) (Nat.zero_le _) (Nat.zero_le _) (Nat.le_of_ble_eq_true rfl) (Nat.le_of_ble_eq_true rfl) (Nat.le_of_ble_eq_true rfl) rfl (fun v h n' hP => ?_) (fun x h n' hP => by cases hP.1)
    obtain ⟨ev, rfl, hok⟩ := hP
    obtain rfl := Sum.inl.inj ev
    exact q_vret dX5_init_157 rfl ⟨rfl, ml, _, h1, h4, hc, rfl, hok, mB_gs (Or.inr (Or.inl rfl)) (mB_gs (Or.inl rfl) hB2), ⟨(gs_ne (by omega)).trans gs_at, gs_at⟩, fun j hj => (gs_ne (by omega)).trans ((gs_ne (by omega)).trans ((gs_ne (by omega)).trans ((gs_ne (by omega)).trans (hlow j hj))))⟩
  refine q_less (Nat.zero_le _) (Nat.zero_le _) ?_
  refine q_icmp_ge (tgt := 140) dX5_init_133 (by decide) (fun c1 => ?_) (fun c1 => ?_)
  · have h1 : ¬ lk < nI 1 := fun q => by
      rw [Int32.lt_iff_toInt_lt] at q
      rw [Int32.le_iff_toInt_le] at c1
      omega
    refine q_iload_n dX5_init_140 rfl ?_
    refine q_iconst (v := nI 4) dX5_init_141 rfl ?_
    refine q_icmp_le (tgt := 149) dX5_init_142 (by decide) (fun c2 => ?_) (fun c2 => ?_)
    · have h4 : ¬ nI 4 < lk := fun q => by
        rw [Int32.lt_iff_toInt_lt] at q
        rw [Int32.le_iff_toInt_le] at c2
        omega
      refine q_iload_n dX5_init_149 rfl ?_
      obtain ⟨g, hg4, rfl⟩ := q_chk2 (a := lk) (B := 4) (by decide) (fun q => h1 (by
        rw [Int32.lt_iff_toInt_lt, nI_toInt (by decide)] at q ⊢
        omega)) h4
      have hg1 : 1 ≤ g := Nat.le_of_not_lt fun q => h1 ((nI_ltI (by omega) (by decide)).mpr q)
      exact hJ g hg1 hg4 (by unfold q_clamp; rw [if_neg h1, if_neg h4])
    · have h4 : nI 4 < lk := by
        rw [Int32.le_iff_toInt_le] at c2
        rw [Int32.lt_iff_toInt_lt]
        omega
      refine q_iconst (v := nI 4) dX5_init_145 rfl ?_
      refine q_goto (tgt := 150) dX5_init_146 (by decide) ?_
      exact hJ 4 (by omega) (by omega) (by unfold q_clamp; rw [if_neg h1, if_pos h4])
  · have h1 : lk < nI 1 := by
      rw [Int32.le_iff_toInt_le] at c1
      rw [Int32.lt_iff_toInt_lt]
      omega
    refine q_iconst (v := nI 1) dX5_init_136 rfl ?_
    refine q_goto (tgt := 150) dX5_init_137 (by decide) ?_
    exact hJ 1 (by omega) (by omega) (by unfold q_clamp; rw [if_pos h1])

def q_inv (P : Nat → Int32) (m b : Nat) : Prop := (b = 0 ∧ ∀ k, k < m → P k = nI 0) ∨ (b = 1 ∧ ∃ k, k < m ∧ P k = nI 1)
theorem q_hd_1 {a s : Int32} (h : (a >>> (s &&& 31)) &&& nI 1 = nI 1) : q_hd a s = nI 1 := by
  unfold q_hd
  rw [h, if_neg (by decide)]
theorem q_hd_0 {a s : Int32} (h : ¬ (a >>> (s &&& 31)) &&& nI 1 = nI 1) : q_hd a s = nI 0 := by
  unfold q_hd
  rcases q_and1 (a >>> (s &&& 31)) with q | q
  · rw [if_pos q]
  · exact absurd q h
set_option maxHeartbeats 4000000 in
theorem eX5_wl (Sc : q_S) (Γ : Nat → q_K) (n o ml s : Nat) (f e : Nat → Int32) (hE : mE Γ o f e) (hml : ml ≤ 4) (j i : Nat) (hj : j < ml) (hi : i < 8) (c : Int32) (P : Nat → Int32) (hP : ∀ m, P m = q_wn (f (48 * j + 8 * m + i)) (e (48 * j + 8 * m + i)) c) : ∀ (d m b : Nat) (h : q_H), m + d = 6 → q_inv P m b → q_ok (mG Γ o ml 0 s) h → q_A Sc mX5_wanted 43 [.ref o, .int (nI j), .int (nI i), .int c, .int (nI b), .int (nI m), .retAddr 0] [] h n 0 0 (fun O h' n' => q_any P O ∧ q_ok (mG Γ o ml 0 s) h' ∧ n' = n) := by
  intro d
  induction d with
  | zero =>
    intro m b h hmd hb hok
    obtain rfl : m = 6 := by omega
    refine q_iload dX5_wanted_43 rfl ?_
    refine q_bipush (v := nI 6) dX5_wanted_45 rfl ?_
    refine t_icmp_ge_n (tgt := 119) (by omega) (by omega) dX5_wanted_47 (by decide) (fun c => ?_) (fun c => absurd c (by omega))
    refine q_iload dX5_wanted_119 rfl ?_
    rcases hb with ⟨rfl, hz⟩ | ⟨rfl, hz⟩
    · exact q_iret dX5_wanted_121 rfl (rfl) ⟨⟨_, rfl, Or.inr ⟨rfl, hz⟩⟩, hok, rfl⟩
    · exact q_iret dX5_wanted_121 rfl (rfl) ⟨⟨_, rfl, Or.inl ⟨rfl, hz⟩⟩, hok, rfl⟩
  | succ d ih =>
    intro m b h hmd hb hok
    have hK : ∀ (b' : Nat) (h : q_H), q_inv P (m + 1) b' → q_ok (mG Γ o ml 0 s) h → q_A Sc mX5_wanted 111 [.ref o, .int (nI j), .int (nI i), .int c, .int (nI b), .int (nI m), .int (nI (48 * j + 8 * m + i))] [.int (nI b')] h n 0 0 (fun O h' n' => q_any P O ∧ q_ok (mG Γ o ml 0 s) h' ∧ n' = n) := fun b' h hb' hok => by
      refine t_istore [.ref o, .int (nI j), .int (nI i), .int c, .int (nI b'), .int (nI m), .int (nI (48 * j + 8 * m + i))] (Or.inr ⟨rfl, dX5_wanted_111⟩) (by decide) rfl ?_
      refine t_iinc_n [.ref o, .int (nI j), .int (nI i), .int c, .int (nI b'), .int (nI (m + 1)), .int (nI (48 * j + 8 * m + i))] dX5_wanted_113 rfl (by decide) rfl ?_
      refine q_goto (tgt := 43) dX5_wanted_116 (by decide) ?_
      refine q_weak [.ref o, .int (nI j), .int (nI i), .int c, .int (nI b'), .int (nI (m + 1)), .retAddr 0] ⟨Or.inl rfl, Or.inl rfl, Or.inl rfl, Or.inl rfl, Or.inl rfl, Or.inl rfl, Or.inr ⟨0, rfl⟩, trivial⟩ ?_
      exact ih (m + 1) b' h (by omega) hb' hok
    refine q_iload dX5_wanted_43 rfl ?_
    refine q_bipush (v := nI 6) dX5_wanted_45 rfl ?_
    refine t_icmp_ge_n (tgt := 119) (by omega) (by omega) dX5_wanted_47 (by decide) (fun c => absurd c (by omega)) (fun _ => ?_)
    refine q_aload_n dX5_wanted_50 rfl ?_
    refine t_getc 0 kX5 (by decide) wPX5_66 dX5_wanted_51 hok mG_o rfl ?_
    refine q_if_ne (tgt := 119) dX5_wanted_54 (by decide) (fun q => absurd rfl q) (fun _ => ?_)
    refine q_bipush (v := nI 48) dX5_wanted_57 rfl ?_
    refine q_iload_n dX5_wanted_59 rfl ?_
    refine t_imul_n dX5_wanted_60 ?_
    refine q_bipush (v := nI 8) dX5_wanted_61 rfl ?_
    refine q_iload dX5_wanted_63 rfl ?_
    refine t_imul_n dX5_wanted_65 ?_
    refine t_iadd_n dX5_wanted_66 ?_
    refine q_iload_n dX5_wanted_67 rfl ?_
    refine t_iadd_n dX5_wanted_68 ?_
    refine t_istore [.ref o, .int (nI j), .int (nI i), .int c, .int (nI b), .int (nI m), .int (nI (48 * j + 8 * m + i))] (Or.inr ⟨rfl, dX5_wanted_69⟩) (by decide) rfl ?_
    refine q_iload dX5_wanted_71 rfl ?_
    rcases hb with ⟨rfl, hz⟩ | ⟨rfl, k, hk, hz⟩
    rotate_left
    · refine q_if_ne (tgt := 106) dX5_wanted_73 (by decide) (fun _ => ?_) (fun q => absurd q (by decide))
      refine q_iconst (v := nI 1) dX5_wanted_106 rfl ?_
      refine q_goto (tgt := 111) dX5_wanted_107 (by decide) ?_
      exact hK 1 h (Or.inr ⟨rfl, k, by omega, hz⟩) hok
    refine q_if_ne (tgt := 106) dX5_wanted_73 (by decide) (fun q => absurd rfl q) (fun _ => ?_)
    have hcmp : ∀ (y : Int32) (h : q_H), q_hd (f (48 * j + 8 * m + i)) c = y → q_ok (mG Γ o ml 0 s) h → q_A Sc mX5_wanted 96 [.ref o, .int (nI j), .int (nI i), .int c, .int (nI 0), .int (nI m), .int (nI (48 * j + 8 * m + i))] [.int y] h n 0 0 (fun O h' n' => q_any P O ∧ q_ok (mG Γ o ml 0 s) h' ∧ n' = n) := fun y h hy hok => by
      refine q_aload_n dX5_wanted_96 rfl ?_
      refine t_getr 12 kX5 (by decide) wPX5_40 dX5_wanted_97 hok mG_o rfl ?_
      refine q_iload dX5_wanted_100 rfl ?_
      refine x_zald (by decide) dX5_wanted_102 hok ((mG_ne (by omega)).trans hE.1) (show 48 * j + 8 * m + i < 192 by omega) ?_
      refine q_icmp_eq (tgt := 110) dX5_wanted_103 (by decide) (fun q => ?_) (fun q => ?_)
      · refine q_iconst (v := nI 0) dX5_wanted_110 rfl ?_
        refine hK 0 h (Or.inl ⟨rfl, fun k hk => ?_⟩) hok
        by_cases hkm : k = m
        · subst hkm
          rw [hP]
          unfold q_wn
          rw [hy, if_pos q]
        · exact hz k (by omega)
      · refine q_iconst (v := nI 1) dX5_wanted_106 rfl ?_
        refine q_goto (tgt := 111) dX5_wanted_107 (by decide) ?_
        refine hK 1 h (Or.inr ⟨rfl, m, by omega, ?_⟩) hok
        rw [hP]
        unfold q_wn
        rw [hy, if_neg q]
    refine q_aload_n dX5_wanted_76 rfl ?_
    refine t_getr 13 kX5 (by decide) wPX5_44 dX5_wanted_77 hok mG_o rfl ?_
    refine q_iload dX5_wanted_80 rfl ?_
    refine x_iald (by decide) dX5_wanted_82 hok ((mG_ne (by omega)).trans hE.2) (show 48 * j + 8 * m + i < 192 by omega) ?_
    refine q_iload_n dX5_wanted_83 rfl ?_
    refine q_ishr dX5_wanted_84 ?_
    refine q_iconst (v := nI 1) dX5_wanted_85 rfl ?_
    refine q_iand dX5_wanted_86 ?_
    refine q_iconst (v := nI 1) dX5_wanted_87 rfl ?_
    refine q_icmp_ne (tgt := 95) dX5_wanted_88 (by decide) (fun q => ?_) (fun q => ?_)
    · refine q_iconst (v := nI 0) dX5_wanted_95 rfl ?_
      exact hcmp _ h (q_hd_0 q) hok
    · refine q_iconst (v := nI 1) dX5_wanted_91 rfl ?_
      refine q_goto (tgt := 96) dX5_wanted_92 (by decide) ?_
      exact hcmp _ h (q_hd_1 q) hok
set_option maxHeartbeats 4000000 in
theorem eX5_wanted (Sc : q_S) (Γ : Nat → q_K) (n o ml th s : Nat) (f e : Nat → Int32) (hE : mE Γ o f e) (hml : ml ≤ 4) (l g c : Int32) (h : q_H) (hok : q_ok (mG Γ o ml th s) h) : q_A Sc mX5_wanted 0 [.ref o, .int l, .int g, .int c, .retAddr 0, .retAddr 0, .retAddr 0] [] h n 0 0 (fun O h' n' => ∃ th', ((q_ok3 l.toInt g.toInt c.toInt ml ∧ th' = 0 ∧ q_any (fun m => q_wn (f (48 * l.toInt.toNat + 8 * m + g.toInt.toNat)) (e (48 * l.toInt.toNat + 8 * m + g.toInt.toNat)) c) O) ∨ (¬ q_ok3 l.toInt g.toInt c.toInt ml ∧ th' = 1 ∧ ∃ x, O = .inl (some (.int x)))) ∧ q_ok (mG Γ o ml th' s) h' ∧ n' = n) := by
  have e0 : (nI 0).toInt = 0 := rfl
  have e7 : (nI 7).toInt = 7 := rfl
  have e15 : (nI 15).toInt = 15 := rfl
  have hJ0 : ∀ (h : q_H), q_ok (mG Γ o ml th s) h → q_ok3 l.toInt g.toInt c.toInt ml → q_A Sc mX5_wanted 34 [.ref o, .int l, .int g, .int c, .retAddr 0, .retAddr 0, .retAddr 0] [.int (nI 0), .ref o] h n 0 0 (fun O h' n' => ∃ th', ((q_ok3 l.toInt g.toInt c.toInt ml ∧ th' = 0 ∧ q_any (fun m => q_wn (f (48 * l.toInt.toNat + 8 * m + g.toInt.toNat)) (e (48 * l.toInt.toNat + 8 * m + g.toInt.toNat)) c) O) ∨ (¬ q_ok3 l.toInt g.toInt c.toInt ml ∧ th' = 1 ∧ ∃ x, O = .inl (some (.int x)))) ∧ q_ok (mG Γ o ml th' s) h' ∧ n' = n) := fun h hok hy => by
    refine t_putc 0 (z' := 0) kX5 (by decide) wPX5_66 rfl dX5_wanted_34 hok mG_o rfl ⟨rfl, rfl⟩ (fun h hok => ?_)
    replace hok := mG_setT hok
    have hy0 := hy
    obtain ⟨hl0, hl1, hg0, hg1, hs0, hs1⟩ := hy
    obtain ⟨j, hj, rfl⟩ := q_tnat (by omega) hl0 hl1
    obtain ⟨i, hi, rfl⟩ := q_tnat (B := 8) (by omega) hg0 hg1
    refine q_iconst (v := nI 0) dX5_wanted_37 rfl ?_
    refine t_istore [.ref o, .int (nI j), .int (nI i), .int c, .int (nI 0), .retAddr 0, .retAddr 0] (Or.inr ⟨rfl, dX5_wanted_38⟩) (by decide) rfl ?_
    refine q_iconst (v := nI 0) dX5_wanted_40 rfl ?_
    refine t_istore [.ref o, .int (nI j), .int (nI i), .int c, .int (nI 0), .int (nI 0), .retAddr 0] (Or.inr ⟨rfl, dX5_wanted_41⟩) (by decide) rfl ?_
    refine q_mono (fun O h' n' hq => ?_) (eX5_wl Sc Γ n o ml s f e hE hml j i hj hi c (fun m => q_wn (f (48 * j + 8 * m + i)) (e (48 * j + 8 * m + i)) c) (fun _ => rfl) 6 0 0 h rfl (Or.inl ⟨rfl, fun k hk => absurd hk (by omega)⟩) hok)
    refine ⟨0, Or.inl ⟨hy0, rfl, ?_⟩, hq.2⟩
    rw [nI_tn (by omega), nI_tn (by omega)]
    exact hq.1
  have hJ1 : ∀ (h : q_H), q_ok (mG Γ o ml th s) h → ¬ q_ok3 l.toInt g.toInt c.toInt ml → q_A Sc mX5_wanted 33 [.ref o, .int l, .int g, .int c, .retAddr 0, .retAddr 0, .retAddr 0] [.ref o] h n 0 0 (fun O h' n' => ∃ th', ((q_ok3 l.toInt g.toInt c.toInt ml ∧ th' = 0 ∧ q_any (fun m => q_wn (f (48 * l.toInt.toNat + 8 * m + g.toInt.toNat)) (e (48 * l.toInt.toNat + 8 * m + g.toInt.toNat)) c) O) ∨ (¬ q_ok3 l.toInt g.toInt c.toInt ml ∧ th' = 1 ∧ ∃ x, O = .inl (some (.int x)))) ∧ q_ok (mG Γ o ml th' s) h' ∧ n' = n) := fun h hok hn => by
    refine q_iconst (v := nI 1) dX5_wanted_33 rfl ?_
    refine t_putc 0 (z' := 1) kX5 (by decide) wPX5_66 rfl dX5_wanted_34 hok mG_o rfl ⟨rfl, rfl⟩ (fun h hok => ?_)
    replace hok := mG_setT hok
    refine q_iconst (v := nI 0) dX5_wanted_37 rfl ?_
    refine t_istore [.ref o, .int l, .int g, .int c, .int (nI 0), .retAddr 0, .retAddr 0] (Or.inr ⟨rfl, dX5_wanted_38⟩) (by decide) rfl ?_
    refine q_iconst (v := nI 0) dX5_wanted_40 rfl ?_
    refine t_istore [.ref o, .int l, .int g, .int c, .int (nI 0), .int (nI 0), .retAddr 0] (Or.inr ⟨rfl, dX5_wanted_41⟩) (by decide) rfl ?_
    refine q_iload dX5_wanted_43 rfl ?_
    refine q_bipush (v := nI 6) dX5_wanted_45 rfl ?_
    refine t_icmp_ge_n (tgt := 119) (by omega) (by omega) dX5_wanted_47 (by decide) (fun c => absurd c (by omega)) (fun _ => ?_)
    refine q_aload_n dX5_wanted_50 rfl ?_
    refine t_getc 0 kX5 (by decide) wPX5_66 dX5_wanted_51 hok mG_o rfl ?_
    refine q_if_ne (tgt := 119) dX5_wanted_54 (by decide) (fun _ => ?_) (fun q => absurd q (by decide))
    refine q_iload dX5_wanted_119 rfl ?_
    exact q_iret dX5_wanted_121 rfl (rfl) ⟨1, Or.inr ⟨hn, rfl, _, rfl⟩, hok, rfl⟩
  refine q_aload_n dX5_wanted_0 rfl ?_
  refine q_aload_n dX5_wanted_1 rfl ?_
  refine q_iload_n dX5_wanted_2 rfl ?_
  refine t_callM (M' := mX5_isLink) [.int l] [.ref o] dX5_wanted_3 wPX5_117v wIX5_isLink wSX5_isLink iX5_isLink oX5_isLink rfl hok (eX5_isLink Sc Γ n o ml th s hml l) (Nat.le_of_ble_eq_true rfl) (Nat.le_of_ble_eq_true rfl) (Nat.le_of_ble_eq_true rfl) rfl (fun _ _ _ q => by obtain ⟨⟨_, q, _⟩, _⟩ := q; cases q) (fun v h th' s' qv hok => ?_)
  obtain ⟨⟨x, qx, hx⟩, et, es⟩ := qv
  rw [et, es] at hok
  obtain rfl := Sum.inl.inj qx
  rcases hx with ⟨rfl, hl⟩ | ⟨rfl, hl⟩
  rotate_left
  · exact q_if_eq (tgt := 33) dX5_wanted_6 (by decide) (fun _ => hJ1 h hok (by omega)) (fun q => absurd rfl q)
  refine q_if_eq (tgt := 33) dX5_wanted_6 (by decide) (fun q => absurd q (by decide)) (fun _ => ?_)
  refine q_iload_n dX5_wanted_9 rfl ?_
  refine q_iconst (v := nI 0) dX5_wanted_10 rfl ?_
  refine q_bipush (v := nI 7) dX5_wanted_11 rfl ?_
  refine t_callS (M' := mX5_in) [.int g, .int (nI 0), .int (nI 7)] [.ref o] dX5_wanted_13 wPX5_120 wTX5_in wNX5 iX5_in oX5_in rfl hok (eX5_in Sc _ n g (nI 0) (nI 7)) (Nat.le_of_ble_eq_true rfl) (Nat.le_of_ble_eq_true rfl) (Nat.le_of_ble_eq_true rfl) (Nat.le_of_ble_eq_true rfl) (Nat.le_of_ble_eq_true rfl) rfl (fun v h qv hok => ?_) (fun x h qx hok => absurd qx (by intro q; obtain ⟨_, q, _⟩ := q; cases q))
  obtain ⟨x, qx, hx⟩ := qv
  obtain rfl := Sum.inl.inj qx
  rw [e0, e7] at hx
  rcases hx with ⟨rfl, hg⟩ | ⟨rfl, hg⟩
  rotate_left
  · exact q_if_eq (tgt := 33) dX5_wanted_16 (by decide) (fun _ => hJ1 h hok (by omega)) (fun q => absurd rfl q)
  refine q_if_eq (tgt := 33) dX5_wanted_16 (by decide) (fun q => absurd q (by decide)) (fun _ => ?_)
  refine q_iload_n dX5_wanted_19 rfl ?_
  refine q_iconst (v := nI 0) dX5_wanted_20 rfl ?_
  refine q_bipush (v := nI 15) dX5_wanted_21 rfl ?_
  refine t_callS (M' := mX5_in) [.int c, .int (nI 0), .int (nI 15)] [.ref o] dX5_wanted_23 wPX5_120 wTX5_in wNX5 iX5_in oX5_in rfl hok (eX5_in Sc _ n c (nI 0) (nI 15)) (Nat.le_of_ble_eq_true rfl) (Nat.le_of_ble_eq_true rfl) (Nat.le_of_ble_eq_true rfl) (Nat.le_of_ble_eq_true rfl) (Nat.le_of_ble_eq_true rfl) rfl (fun v h qv hok => ?_) (fun x h qx hok => absurd qx (by intro q; obtain ⟨_, q, _⟩ := q; cases q))
  obtain ⟨x, qx, hx⟩ := qv
  obtain rfl := Sum.inl.inj qx
  rw [e0, e15] at hx
  rcases hx with ⟨rfl, hc⟩ | ⟨rfl, hc⟩
  rotate_left
  · exact q_if_eq (tgt := 33) dX5_wanted_26 (by decide) (fun _ => hJ1 h hok (by omega)) (fun q => absurd rfl q)
  refine q_if_eq (tgt := 33) dX5_wanted_26 (by decide) (fun q => absurd q (by decide)) (fun _ => ?_)
  refine q_iconst (v := nI 0) dX5_wanted_29 rfl ?_
  refine q_goto (tgt := 34) dX5_wanted_30 (by decide) ?_
  exact hJ0 h hok ⟨by omega, by omega, by omega, by omega, by omega, by omega⟩

