set_option maxRecDepth 20000 in
set_option maxHeartbeats 8000000 in
theorem nX5_init (Sc : q_S) (Γ : Nat → q_K) (o : Nat) (hg : Γ o = (4, 5, [(0, 0), (2, 0), (3, 0), (3, 0), (3, 0), (3, 0), (3, 0), (3, 0), (3, 0), (3, 0), (3, 0), (3, 0), (3, 0), (3, 0), (0, 0), (0, 0), (3, 0), (3, 0), (3, 0), (3, 0)])) (hn5 : n5 Γ) (lk : Int32) (h : q_H) (hok : q_ok Γ h) : q_A Sc mX5_init 0 [.ref o, .int lk] [] h (o + 1) 16 1656 (fun O h' n' => O = .inl none ∧ ∃ (ml : Nat) (Γ' : Nat → q_K) (V' : q_V), 1 ≤ ml ∧ ml ≤ 4 ∧ nI ml = q_clamp lk ∧ n' = o + 17 ∧ q_ok (gX Γ' V') h' ∧ n5 Γ' ∧ sM Γ' o ml ∧ CM V' o ∧ ∀ j, j < o → Γ' j = Γ j) := by
  refine q_aload_n dX5_init_0 rfl ?_
  refine q_obj dX5_init_1 wOX5 wOi wOc (by decide) (Nat.le_of_ble_eq_true rfl) ?_
  refine q_aload_n dX5_init_4 rfl ?_
  refine q_iconst (v := nI 4) dX5_init_5 rfl ?_
  refine c_newi dX5_init_6 rfl wAint (nI_pos (by decide)) (nI_clamp (by decide)) (by decide) (Nat.le_of_ble_eq_true rfl) (Nat.le_of_ble_eq_true rfl) hok (fun h hok => ?_)
  have hn5 := n5.gs hn5 (i := o + 1) (t := 1) (r := (4, [])) (by decide)
  refine c_put 2 (p := (1, o + 1)) kX5 (by decide) wQX5_7 (Or.inr ⟨rfl, rfl, rfl⟩) dX5_init_8 hok ((gs_ne (by omega)).trans hg) (by exact Nat.le_of_ble_eq_true rfl) (fun _ => ⟨rfl, rfl⟩) (by rfl) (fun h hok => ?_)
  have hn5 := n5.gs hn5 (i := o) (t := 4) (r := (5, [(0, 0), (2, 0), (1, o + 1), (3, 0), (3, 0), (3, 0), (3, 0), (3, 0), (3, 0), (3, 0), (3, 0), (3, 0), (3, 0), (3, 0), (0, 0), (0, 0), (3, 0), (3, 0), (3, 0), (3, 0)])) (by decide)
  refine q_aload_n dX5_init_11 rfl ?_
  refine q_iconst (v := nI 4) dX5_init_12 rfl ?_
  refine c_newi dX5_init_13 rfl wAint (nI_pos (by decide)) (nI_clamp (by decide)) (by decide) (Nat.le_of_ble_eq_true rfl) (Nat.le_of_ble_eq_true rfl) hok (fun h hok => ?_)
  have hn5 := n5.gs hn5 (i := o + 2) (t := 1) (r := (4, [])) (by decide)
  refine c_put 3 (p := (1, o + 2)) kX5 (by decide) wQX5_13 (Or.inr ⟨rfl, rfl, rfl⟩) dX5_init_15 hok ((gs_ne (by omega)).trans gs_at) (by exact Nat.le_of_ble_eq_true rfl) (fun _ => ⟨rfl, rfl⟩) (by rfl) (fun h hok => ?_)
  have hn5 := n5.gs hn5 (i := o) (t := 4) (r := (5, [(0, 0), (2, 0), (1, o + 1), (1, o + 2), (3, 0), (3, 0), (3, 0), (3, 0), (3, 0), (3, 0), (3, 0), (3, 0), (3, 0), (3, 0), (0, 0), (0, 0), (3, 0), (3, 0), (3, 0), (3, 0)])) (by decide)
  refine q_aload_n dX5_init_18 rfl ?_
  refine q_iconst (v := nI 4) dX5_init_19 rfl ?_
  refine c_newi dX5_init_20 rfl wAint (nI_pos (by decide)) (nI_clamp (by decide)) (by decide) (Nat.le_of_ble_eq_true rfl) (Nat.le_of_ble_eq_true rfl) hok (fun h hok => ?_)
  have hn5 := n5.gs hn5 (i := o + 3) (t := 1) (r := (4, [])) (by decide)
  refine c_put 4 (p := (1, o + 3)) kX5 (by decide) wQX5_16 (Or.inr ⟨rfl, rfl, rfl⟩) dX5_init_22 hok ((gs_ne (by omega)).trans gs_at) (by exact Nat.le_of_ble_eq_true rfl) (fun _ => ⟨rfl, rfl⟩) (by rfl) (fun h hok => ?_)
  have hn5 := n5.gs hn5 (i := o) (t := 4) (r := (5, [(0, 0), (2, 0), (1, o + 1), (1, o + 2), (1, o + 3), (3, 0), (3, 0), (3, 0), (3, 0), (3, 0), (3, 0), (3, 0), (3, 0), (3, 0), (0, 0), (0, 0), (3, 0), (3, 0), (3, 0), (3, 0)])) (by decide)
  refine q_aload_n dX5_init_25 rfl ?_
  refine q_iconst (v := nI 4) dX5_init_26 rfl ?_
  refine c_newi dX5_init_27 rfl wAint (nI_pos (by decide)) (nI_clamp (by decide)) (by decide) (Nat.le_of_ble_eq_true rfl) (Nat.le_of_ble_eq_true rfl) hok (fun h hok => ?_)
  have hn5 := n5.gs hn5 (i := o + 4) (t := 1) (r := (4, [])) (by decide)
  refine c_put 5 (p := (1, o + 4)) kX5 (by decide) wQX5_19 (Or.inr ⟨rfl, rfl, rfl⟩) dX5_init_29 hok ((gs_ne (by omega)).trans gs_at) (by exact Nat.le_of_ble_eq_true rfl) (fun _ => ⟨rfl, rfl⟩) (by rfl) (fun h hok => ?_)
  have hn5 := n5.gs hn5 (i := o) (t := 4) (r := (5, [(0, 0), (2, 0), (1, o + 1), (1, o + 2), (1, o + 3), (1, o + 4), (3, 0), (3, 0), (3, 0), (3, 0), (3, 0), (3, 0), (3, 0), (3, 0), (0, 0), (0, 0), (3, 0), (3, 0), (3, 0), (3, 0)])) (by decide)
  refine q_aload_n dX5_init_32 rfl ?_
  refine q_iconst (v := nI 4) dX5_init_33 rfl ?_
  refine c_newi dX5_init_34 rfl wAint (nI_pos (by decide)) (nI_clamp (by decide)) (by decide) (Nat.le_of_ble_eq_true rfl) (Nat.le_of_ble_eq_true rfl) hok (fun h hok => ?_)
  have hn5 := n5.gs hn5 (i := o + 5) (t := 1) (r := (4, [])) (by decide)
  refine c_put 6 (p := (1, o + 5)) kX5 (by decide) wQX5_22 (Or.inr ⟨rfl, rfl, rfl⟩) dX5_init_36 hok ((gs_ne (by omega)).trans gs_at) (by exact Nat.le_of_ble_eq_true rfl) (fun _ => ⟨rfl, rfl⟩) (by rfl) (fun h hok => ?_)
  have hn5 := n5.gs hn5 (i := o) (t := 4) (r := (5, [(0, 0), (2, 0), (1, o + 1), (1, o + 2), (1, o + 3), (1, o + 4), (1, o + 5), (3, 0), (3, 0), (3, 0), (3, 0), (3, 0), (3, 0), (3, 0), (0, 0), (0, 0), (3, 0), (3, 0), (3, 0), (3, 0)])) (by decide)
  refine q_aload_n dX5_init_39 rfl ?_
  refine q_iconst (v := nI 4) dX5_init_40 rfl ?_
  refine c_newi dX5_init_41 rfl wAint (nI_pos (by decide)) (nI_clamp (by decide)) (by decide) (Nat.le_of_ble_eq_true rfl) (Nat.le_of_ble_eq_true rfl) hok (fun h hok => ?_)
  have hn5 := n5.gs hn5 (i := o + 6) (t := 1) (r := (4, [])) (by decide)
  refine c_put 7 (p := (1, o + 6)) kX5 (by decide) wQX5_25 (Or.inr ⟨rfl, rfl, rfl⟩) dX5_init_43 hok ((gs_ne (by omega)).trans gs_at) (by exact Nat.le_of_ble_eq_true rfl) (fun _ => ⟨rfl, rfl⟩) (by rfl) (fun h hok => ?_)
  have hn5 := n5.gs hn5 (i := o) (t := 4) (r := (5, [(0, 0), (2, 0), (1, o + 1), (1, o + 2), (1, o + 3), (1, o + 4), (1, o + 5), (1, o + 6), (3, 0), (3, 0), (3, 0), (3, 0), (3, 0), (3, 0), (0, 0), (0, 0), (3, 0), (3, 0), (3, 0), (3, 0)])) (by decide)
  refine q_aload_n dX5_init_46 rfl ?_
  refine q_bipush (v := nI 32) dX5_init_47 rfl ?_
  refine c_newi dX5_init_49 rfl wAint (nI_pos (by decide)) (nI_clamp (by decide)) (by decide) (Nat.le_of_ble_eq_true rfl) (Nat.le_of_ble_eq_true rfl) hok (fun h hok => ?_)
  have hn5 := n5.gs hn5 (i := o + 7) (t := 1) (r := (32, [])) (by decide)
  refine c_put 8 (p := (1, o + 7)) kX5 (by decide) wQX5_28 (Or.inr ⟨rfl, rfl, rfl⟩) dX5_init_51 hok ((gs_ne (by omega)).trans gs_at) (by exact Nat.le_of_ble_eq_true rfl) (fun _ => ⟨rfl, rfl⟩) (by rfl) (fun h hok => ?_)
  have hn5 := n5.gs hn5 (i := o) (t := 4) (r := (5, [(0, 0), (2, 0), (1, o + 1), (1, o + 2), (1, o + 3), (1, o + 4), (1, o + 5), (1, o + 6), (1, o + 7), (3, 0), (3, 0), (3, 0), (3, 0), (3, 0), (0, 0), (0, 0), (3, 0), (3, 0), (3, 0), (3, 0)])) (by decide)
  refine q_aload_n dX5_init_54 rfl ?_
  refine q_bipush (v := nI 32) dX5_init_55 rfl ?_
  refine c_newi dX5_init_57 rfl wAint (nI_pos (by decide)) (nI_clamp (by decide)) (by decide) (Nat.le_of_ble_eq_true rfl) (Nat.le_of_ble_eq_true rfl) hok (fun h hok => ?_)
  have hn5 := n5.gs hn5 (i := o + 8) (t := 1) (r := (32, [])) (by decide)
  refine c_put 9 (p := (1, o + 8)) kX5 (by decide) wQX5_31 (Or.inr ⟨rfl, rfl, rfl⟩) dX5_init_59 hok ((gs_ne (by omega)).trans gs_at) (by exact Nat.le_of_ble_eq_true rfl) (fun _ => ⟨rfl, rfl⟩) (by rfl) (fun h hok => ?_)
  have hn5 := n5.gs hn5 (i := o) (t := 4) (r := (5, [(0, 0), (2, 0), (1, o + 1), (1, o + 2), (1, o + 3), (1, o + 4), (1, o + 5), (1, o + 6), (1, o + 7), (1, o + 8), (3, 0), (3, 0), (3, 0), (3, 0), (0, 0), (0, 0), (3, 0), (3, 0), (3, 0), (3, 0)])) (by decide)
  refine q_aload_n dX5_init_62 rfl ?_
  refine q_sipush (v := nI 512) dX5_init_63 rfl ?_
  refine c_newi dX5_init_66 rfl wAint (nI_pos (by decide)) (nI_clamp (by decide)) (by decide) (Nat.le_of_ble_eq_true rfl) (Nat.le_of_ble_eq_true rfl) hok (fun h hok => ?_)
  have hn5 := n5.gs hn5 (i := o + 9) (t := 1) (r := (512, [])) (by decide)
  refine c_put 10 (p := (1, o + 9)) kX5 (by decide) wQX5_34 (Or.inr ⟨rfl, rfl, rfl⟩) dX5_init_68 hok ((gs_ne (by omega)).trans gs_at) (by exact Nat.le_of_ble_eq_true rfl) (fun _ => ⟨rfl, rfl⟩) (by rfl) (fun h hok => ?_)
  have hn5 := n5.gs hn5 (i := o) (t := 4) (r := (5, [(0, 0), (2, 0), (1, o + 1), (1, o + 2), (1, o + 3), (1, o + 4), (1, o + 5), (1, o + 6), (1, o + 7), (1, o + 8), (1, o + 9), (3, 0), (3, 0), (3, 0), (0, 0), (0, 0), (3, 0), (3, 0), (3, 0), (3, 0)])) (by decide)
  refine q_aload_n dX5_init_71 rfl ?_
  refine q_sipush (v := nI 512) dX5_init_72 rfl ?_
  refine c_newi dX5_init_75 rfl wAint (nI_pos (by decide)) (nI_clamp (by decide)) (by decide) (Nat.le_of_ble_eq_true rfl) (Nat.le_of_ble_eq_true rfl) hok (fun h hok => ?_)
  have hn5 := n5.gs hn5 (i := o + 10) (t := 1) (r := (512, [])) (by decide)
  refine c_put 11 (p := (1, o + 10)) kX5 (by decide) wQX5_37 (Or.inr ⟨rfl, rfl, rfl⟩) dX5_init_77 hok ((gs_ne (by omega)).trans gs_at) (by exact Nat.le_of_ble_eq_true rfl) (fun _ => ⟨rfl, rfl⟩) (by rfl) (fun h hok => ?_)
  have hn5 := n5.gs hn5 (i := o) (t := 4) (r := (5, [(0, 0), (2, 0), (1, o + 1), (1, o + 2), (1, o + 3), (1, o + 4), (1, o + 5), (1, o + 6), (1, o + 7), (1, o + 8), (1, o + 9), (1, o + 10), (3, 0), (3, 0), (0, 0), (0, 0), (3, 0), (3, 0), (3, 0), (3, 0)])) (by decide)
  refine q_aload_n dX5_init_80 rfl ?_
  refine q_sipush (v := nI 192) dX5_init_81 rfl ?_
  refine c_newz dX5_init_84 rfl wAboolean (nI_pos (by decide)) (nI_clamp (by decide)) (by decide) (Nat.le_of_ble_eq_true rfl) (Nat.le_of_ble_eq_true rfl) hok (fun h hok => ?_)
  have hn5 := n5.gs hn5 (i := o + 11) (t := 2) (r := (192, [])) (by decide)
  refine c_put 12 (p := (1, o + 11)) kX5 (by decide) wQX5_40 (Or.inr ⟨rfl, rfl, rfl⟩) dX5_init_86 hok ((gs_ne (by omega)).trans gs_at) (by exact Nat.le_of_ble_eq_true rfl) (fun _ => ⟨rfl, rfl⟩) (by rfl) (fun h hok => ?_)
  have hn5 := n5.gs hn5 (i := o) (t := 4) (r := (5, [(0, 0), (2, 0), (1, o + 1), (1, o + 2), (1, o + 3), (1, o + 4), (1, o + 5), (1, o + 6), (1, o + 7), (1, o + 8), (1, o + 9), (1, o + 10), (1, o + 11), (3, 0), (0, 0), (0, 0), (3, 0), (3, 0), (3, 0), (3, 0)])) (by decide)
  refine q_aload_n dX5_init_89 rfl ?_
  refine q_sipush (v := nI 192) dX5_init_90 rfl ?_
  refine c_newi dX5_init_93 rfl wAint (nI_pos (by decide)) (nI_clamp (by decide)) (by decide) (Nat.le_of_ble_eq_true rfl) (Nat.le_of_ble_eq_true rfl) hok (fun h hok => ?_)
  have hn5 := n5.gs hn5 (i := o + 12) (t := 1) (r := (192, [])) (by decide)
  refine c_put 13 (p := (1, o + 12)) kX5 (by decide) wQX5_44 (Or.inr ⟨rfl, rfl, rfl⟩) dX5_init_95 hok ((gs_ne (by omega)).trans gs_at) (by exact Nat.le_of_ble_eq_true rfl) (fun _ => ⟨rfl, rfl⟩) (by rfl) (fun h hok => ?_)
  have hn5 := n5.gs hn5 (i := o) (t := 4) (r := (5, [(0, 0), (2, 0), (1, o + 1), (1, o + 2), (1, o + 3), (1, o + 4), (1, o + 5), (1, o + 6), (1, o + 7), (1, o + 8), (1, o + 9), (1, o + 10), (1, o + 11), (1, o + 12), (0, 0), (0, 0), (3, 0), (3, 0), (3, 0), (3, 0)])) (by decide)
  refine q_aload_n dX5_init_98 rfl ?_
  refine q_bipush (v := nI 40) dX5_init_99 rfl ?_
  refine c_newi dX5_init_101 rfl wAint (nI_pos (by decide)) (nI_clamp (by decide)) (by decide) (Nat.le_of_ble_eq_true rfl) (Nat.le_of_ble_eq_true rfl) hok (fun h hok => ?_)
  have hn5 := n5.gs hn5 (i := o + 13) (t := 1) (r := (40, [])) (by decide)
  refine c_put 16 (p := (1, o + 13)) kX5 (by decide) wQX5_47 (Or.inr ⟨rfl, rfl, rfl⟩) dX5_init_103 hok ((gs_ne (by omega)).trans gs_at) (by exact Nat.le_of_ble_eq_true rfl) (fun _ => ⟨rfl, rfl⟩) (by rfl) (fun h hok => ?_)
  have hn5 := n5.gs hn5 (i := o) (t := 4) (r := (5, [(0, 0), (2, 0), (1, o + 1), (1, o + 2), (1, o + 3), (1, o + 4), (1, o + 5), (1, o + 6), (1, o + 7), (1, o + 8), (1, o + 9), (1, o + 10), (1, o + 11), (1, o + 12), (0, 0), (0, 0), (1, o + 13), (3, 0), (3, 0), (3, 0)])) (by decide)
  refine q_aload_n dX5_init_106 rfl ?_
  refine q_bipush (v := nI 40) dX5_init_107 rfl ?_
  refine c_newi dX5_init_109 rfl wAint (nI_pos (by decide)) (nI_clamp (by decide)) (by decide) (Nat.le_of_ble_eq_true rfl) (Nat.le_of_ble_eq_true rfl) hok (fun h hok => ?_)
  have hn5 := n5.gs hn5 (i := o + 14) (t := 1) (r := (40, [])) (by decide)
  refine c_put 17 (p := (1, o + 14)) kX5 (by decide) wQX5_50 (Or.inr ⟨rfl, rfl, rfl⟩) dX5_init_111 hok ((gs_ne (by omega)).trans gs_at) (by exact Nat.le_of_ble_eq_true rfl) (fun _ => ⟨rfl, rfl⟩) (by rfl) (fun h hok => ?_)
  have hn5 := n5.gs hn5 (i := o) (t := 4) (r := (5, [(0, 0), (2, 0), (1, o + 1), (1, o + 2), (1, o + 3), (1, o + 4), (1, o + 5), (1, o + 6), (1, o + 7), (1, o + 8), (1, o + 9), (1, o + 10), (1, o + 11), (1, o + 12), (0, 0), (0, 0), (1, o + 13), (1, o + 14), (3, 0), (3, 0)])) (by decide)
  refine q_aload_n dX5_init_114 rfl ?_
  refine q_bipush (v := nI 40) dX5_init_115 rfl ?_
  refine c_newi dX5_init_117 rfl wAint (nI_pos (by decide)) (nI_clamp (by decide)) (by decide) (Nat.le_of_ble_eq_true rfl) (Nat.le_of_ble_eq_true rfl) hok (fun h hok => ?_)
  have hn5 := n5.gs hn5 (i := o + 15) (t := 1) (r := (40, [])) (by decide)
  refine c_put 18 (p := (1, o + 15)) kX5 (by decide) wQX5_53 (Or.inr ⟨rfl, rfl, rfl⟩) dX5_init_119 hok ((gs_ne (by omega)).trans gs_at) (by exact Nat.le_of_ble_eq_true rfl) (fun _ => ⟨rfl, rfl⟩) (by rfl) (fun h hok => ?_)
  have hn5 := n5.gs hn5 (i := o) (t := 4) (r := (5, [(0, 0), (2, 0), (1, o + 1), (1, o + 2), (1, o + 3), (1, o + 4), (1, o + 5), (1, o + 6), (1, o + 7), (1, o + 8), (1, o + 9), (1, o + 10), (1, o + 11), (1, o + 12), (0, 0), (0, 0), (1, o + 13), (1, o + 14), (1, o + 15), (3, 0)])) (by decide)
  refine q_aload_n dX5_init_122 rfl ?_
  refine q_bipush (v := nI 40) dX5_init_123 rfl ?_
  refine c_newi dX5_init_125 rfl wAint (nI_pos (by decide)) (nI_clamp (by decide)) (by decide) (Nat.le_of_ble_eq_true rfl) (Nat.le_of_ble_eq_true rfl) hok (fun h hok => ?_)
  have hn5 := n5.gs hn5 (i := o + 16) (t := 1) (r := (40, [])) (by decide)
  refine c_put 19 (p := (1, o + 16)) kX5 (by decide) wQX5_56 (Or.inr ⟨rfl, rfl, rfl⟩) dX5_init_127 hok ((gs_ne (by omega)).trans gs_at) (by exact Nat.le_of_ble_eq_true rfl) (fun _ => ⟨rfl, rfl⟩) (by rfl) (fun h hok => ?_)
  have hn5 := n5.gs hn5 (i := o) (t := 4) (r := (5, [(0, 0), (2, 0), (1, o + 1), (1, o + 2), (1, o + 3), (1, o + 4), (1, o + 5), (1, o + 6), (1, o + 7), (1, o + 8), (1, o + 9), (1, o + 10), (1, o + 11), (1, o + 12), (0, 0), (0, 0), (1, o + 13), (1, o + 14), (1, o + 15), (1, o + 16)])) (by decide)
  obtain ⟨Γ3, hok, n3, ho, r0, r1, r2, r3, r4, r5, r6, r7, r8, r9, r10, r11, r12, r13, r14, r15, hlow⟩ : ∃ Γ3 : Nat → q_K, q_ok Γ3 h ∧ n5 Γ3 ∧ Γ3 o = (4, 5, [(0, 0), (2, 0), (1, o + 1), (1, o + 2), (1, o + 3), (1, o + 4), (1, o + 5), (1, o + 6), (1, o + 7), (1, o + 8), (1, o + 9), (1, o + 10), (1, o + 11), (1, o + 12), (0, 0), (0, 0), (1, o + 13), (1, o + 14), (1, o + 15), (1, o + 16)]) ∧ Γ3 (o + 1) = (1, 4, []) ∧ Γ3 (o + 2) = (1, 4, []) ∧ Γ3 (o + 3) = (1, 4, []) ∧ Γ3 (o + 4) = (1, 4, []) ∧ Γ3 (o + 5) = (1, 4, []) ∧ Γ3 (o + 6) = (1, 4, []) ∧ Γ3 (o + 7) = (1, 32, []) ∧ Γ3 (o + 8) = (1, 32, []) ∧ Γ3 (o + 9) = (1, 512, []) ∧ Γ3 (o + 10) = (1, 512, []) ∧ Γ3 (o + 11) = (2, 192, []) ∧ Γ3 (o + 12) = (1, 192, []) ∧ Γ3 (o + 13) = (1, 40, []) ∧ Γ3 (o + 14) = (1, 40, []) ∧ Γ3 (o + 15) = (1, 40, []) ∧ Γ3 (o + 16) = (1, 40, []) ∧ ∀ j, j < o → Γ3 j = Γ j := by
    refine ⟨_, hok, hn5, gs_at, ?_, ?_, ?_, ?_, ?_, ?_, ?_, ?_, ?_, ?_, ?_, ?_, ?_, ?_, ?_, ?_, fun j hj => ?_⟩
    · rw [gs_ne (by omega), gs_ne (by omega), gs_ne (by omega), gs_ne (by omega), gs_ne (by omega), gs_ne (by omega), gs_ne (by omega), gs_ne (by omega), gs_ne (by omega), gs_ne (by omega), gs_ne (by omega), gs_ne (by omega), gs_ne (by omega), gs_ne (by omega), gs_ne (by omega), gs_ne (by omega), gs_ne (by omega), gs_ne (by omega), gs_ne (by omega), gs_ne (by omega), gs_ne (by omega), gs_ne (by omega), gs_ne (by omega), gs_ne (by omega), gs_ne (by omega), gs_ne (by omega), gs_ne (by omega), gs_ne (by omega), gs_ne (by omega), gs_ne (by omega), gs_ne (by omega)]; exact gs_at
    · rw [gs_ne (by omega), gs_ne (by omega), gs_ne (by omega), gs_ne (by omega), gs_ne (by omega), gs_ne (by omega), gs_ne (by omega), gs_ne (by omega), gs_ne (by omega), gs_ne (by omega), gs_ne (by omega), gs_ne (by omega), gs_ne (by omega), gs_ne (by omega), gs_ne (by omega), gs_ne (by omega), gs_ne (by omega), gs_ne (by omega), gs_ne (by omega), gs_ne (by omega), gs_ne (by omega), gs_ne (by omega), gs_ne (by omega), gs_ne (by omega), gs_ne (by omega), gs_ne (by omega), gs_ne (by omega), gs_ne (by omega), gs_ne (by omega)]; exact gs_at
    · rw [gs_ne (by omega), gs_ne (by omega), gs_ne (by omega), gs_ne (by omega), gs_ne (by omega), gs_ne (by omega), gs_ne (by omega), gs_ne (by omega), gs_ne (by omega), gs_ne (by omega), gs_ne (by omega), gs_ne (by omega), gs_ne (by omega), gs_ne (by omega), gs_ne (by omega), gs_ne (by omega), gs_ne (by omega), gs_ne (by omega), gs_ne (by omega), gs_ne (by omega), gs_ne (by omega), gs_ne (by omega), gs_ne (by omega), gs_ne (by omega), gs_ne (by omega), gs_ne (by omega), gs_ne (by omega)]; exact gs_at
    · rw [gs_ne (by omega), gs_ne (by omega), gs_ne (by omega), gs_ne (by omega), gs_ne (by omega), gs_ne (by omega), gs_ne (by omega), gs_ne (by omega), gs_ne (by omega), gs_ne (by omega), gs_ne (by omega), gs_ne (by omega), gs_ne (by omega), gs_ne (by omega), gs_ne (by omega), gs_ne (by omega), gs_ne (by omega), gs_ne (by omega), gs_ne (by omega), gs_ne (by omega), gs_ne (by omega), gs_ne (by omega), gs_ne (by omega), gs_ne (by omega), gs_ne (by omega)]; exact gs_at
    · rw [gs_ne (by omega), gs_ne (by omega), gs_ne (by omega), gs_ne (by omega), gs_ne (by omega), gs_ne (by omega), gs_ne (by omega), gs_ne (by omega), gs_ne (by omega), gs_ne (by omega), gs_ne (by omega), gs_ne (by omega), gs_ne (by omega), gs_ne (by omega), gs_ne (by omega), gs_ne (by omega), gs_ne (by omega), gs_ne (by omega), gs_ne (by omega), gs_ne (by omega), gs_ne (by omega), gs_ne (by omega), gs_ne (by omega)]; exact gs_at
    · rw [gs_ne (by omega), gs_ne (by omega), gs_ne (by omega), gs_ne (by omega), gs_ne (by omega), gs_ne (by omega), gs_ne (by omega), gs_ne (by omega), gs_ne (by omega), gs_ne (by omega), gs_ne (by omega), gs_ne (by omega), gs_ne (by omega), gs_ne (by omega), gs_ne (by omega), gs_ne (by omega), gs_ne (by omega), gs_ne (by omega), gs_ne (by omega), gs_ne (by omega), gs_ne (by omega)]; exact gs_at
    · rw [gs_ne (by omega), gs_ne (by omega), gs_ne (by omega), gs_ne (by omega), gs_ne (by omega), gs_ne (by omega), gs_ne (by omega), gs_ne (by omega), gs_ne (by omega), gs_ne (by omega), gs_ne (by omega), gs_ne (by omega), gs_ne (by omega), gs_ne (by omega), gs_ne (by omega), gs_ne (by omega), gs_ne (by omega), gs_ne (by omega), gs_ne (by omega)]; exact gs_at
    · rw [gs_ne (by omega), gs_ne (by omega), gs_ne (by omega), gs_ne (by omega), gs_ne (by omega), gs_ne (by omega), gs_ne (by omega), gs_ne (by omega), gs_ne (by omega), gs_ne (by omega), gs_ne (by omega), gs_ne (by omega), gs_ne (by omega), gs_ne (by omega), gs_ne (by omega), gs_ne (by omega), gs_ne (by omega)]; exact gs_at
    · rw [gs_ne (by omega), gs_ne (by omega), gs_ne (by omega), gs_ne (by omega), gs_ne (by omega), gs_ne (by omega), gs_ne (by omega), gs_ne (by omega), gs_ne (by omega), gs_ne (by omega), gs_ne (by omega), gs_ne (by omega), gs_ne (by omega), gs_ne (by omega), gs_ne (by omega)]; exact gs_at
    · rw [gs_ne (by omega), gs_ne (by omega), gs_ne (by omega), gs_ne (by omega), gs_ne (by omega), gs_ne (by omega), gs_ne (by omega), gs_ne (by omega), gs_ne (by omega), gs_ne (by omega), gs_ne (by omega), gs_ne (by omega), gs_ne (by omega)]; exact gs_at
    · rw [gs_ne (by omega), gs_ne (by omega), gs_ne (by omega), gs_ne (by omega), gs_ne (by omega), gs_ne (by omega), gs_ne (by omega), gs_ne (by omega), gs_ne (by omega), gs_ne (by omega), gs_ne (by omega)]; exact gs_at
    · rw [gs_ne (by omega), gs_ne (by omega), gs_ne (by omega), gs_ne (by omega), gs_ne (by omega), gs_ne (by omega), gs_ne (by omega), gs_ne (by omega), gs_ne (by omega)]; exact gs_at
    · rw [gs_ne (by omega), gs_ne (by omega), gs_ne (by omega), gs_ne (by omega), gs_ne (by omega), gs_ne (by omega), gs_ne (by omega)]; exact gs_at
    · rw [gs_ne (by omega), gs_ne (by omega), gs_ne (by omega), gs_ne (by omega), gs_ne (by omega)]; exact gs_at
    · rw [gs_ne (by omega), gs_ne (by omega), gs_ne (by omega)]; exact gs_at
    · rw [gs_ne (by omega)]; exact gs_at
    · rw [gs_ne (by omega), gs_ne (by omega), gs_ne (by omega), gs_ne (by omega), gs_ne (by omega), gs_ne (by omega), gs_ne (by omega), gs_ne (by omega), gs_ne (by omega), gs_ne (by omega), gs_ne (by omega), gs_ne (by omega), gs_ne (by omega), gs_ne (by omega), gs_ne (by omega), gs_ne (by omega), gs_ne (by omega), gs_ne (by omega), gs_ne (by omega), gs_ne (by omega), gs_ne (by omega), gs_ne (by omega), gs_ne (by omega), gs_ne (by omega), gs_ne (by omega), gs_ne (by omega), gs_ne (by omega), gs_ne (by omega), gs_ne (by omega), gs_ne (by omega), gs_ne (by omega), gs_ne (by omega)]
  refine q_aload_n dX5_init_130 rfl ?_
  refine q_iload_n dX5_init_131 rfl ?_
  refine q_iconst (v := nI 1) dX5_init_132 rfl ?_
  have hJ : ∀ ml : Nat, 1 ≤ ml → ml ≤ 4 → nI ml = q_clamp lk → q_A Sc mX5_init 150 [.ref o, .int lk] [.int (nI ml), .ref o] h (o + 17) 0 0 (fun O h' n' => O = .inl none ∧ ∃ (ml : Nat) (Γ' : Nat → q_K) (V' : q_V), 1 ≤ ml ∧ ml ≤ 4 ∧ nI ml = q_clamp lk ∧ n' = o + 17 ∧ q_ok (gX Γ' V') h' ∧ n5 Γ' ∧ sM Γ' o ml ∧ CM V' o ∧ ∀ j, j < o → Γ' j = Γ j) := by
    intro ml h1 h4 hc
    refine c_put 1 (p := (2, ml)) kX5 (by decide) wQX5_59 (Or.inr ⟨rfl, rfl, rfl⟩) dX5_init_150 hok ho (by exact Nat.le_of_ble_eq_true rfl) ⟨rfl, rfl⟩ (by rfl) (fun h hok => ?_)
    refine q_aload_n dX5_init_153 rfl ?_
    have n4 : n5 (gset Γ3 o (4, 5, [(0, 0), (2, ml), (1, o + 1), (1, o + 2), (1, o + 3), (1, o + 4), (1, o + 5), (1, o + 6), (1, o + 7), (1, o + 8), (1, o + 9), (1, o + 10), (1, o + 11), (1, o + 12), (0, 0), (0, 0), (1, o + 13), (1, o + 14), (1, o + 15), (1, o + 16)])) := n3.gs (by decide)
    have hS : sM (gset Γ3 o (4, 5, [(0, 0), (2, ml), (1, o + 1), (1, o + 2), (1, o + 3), (1, o + 4), (1, o + 5), (1, o + 6), (1, o + 7), (1, o + 8), (1, o + 9), (1, o + 10), (1, o + 11), (1, o + 12), (0, 0), (0, 0), (1, o + 13), (1, o + 14), (1, o + 15), (1, o + 16)])) o ml := ⟨gs_at, (gs_ne (by omega)).trans r0, (gs_ne (by omega)).trans r1, (gs_ne (by omega)).trans r2, (gs_ne (by omega)).trans r3, (gs_ne (by omega)).trans r4, (gs_ne (by omega)).trans r5, (gs_ne (by omega)).trans r6, (gs_ne (by omega)).trans r7, (gs_ne (by omega)).trans r8, (gs_ne (by omega)).trans r9, (gs_ne (by omega)).trans r10, (gs_ne (by omega)).trans r11, (gs_ne (by omega)).trans r12, (gs_ne (by omega)).trans r13, (gs_ne (by omega)).trans r14, (gs_ne (by omega)).trans r15⟩
    have hok4 := ex_of hok n4
    generalize (fun i => vOf (h i)) = VV at hok4
    refine v_callV (M' := mX5_begin) [] [] kX5 dX5_init_154 wPX5_63v wIX5_begin wSX5_begin iX5_begin oX5_begin rfl hok4 gs_at (eX5_begin Sc _ _ VV o ml hS h1 h4) (Nat.le_of_ble_eq_true rfl) (Nat.le_of_ble_eq_true rfl) (Nat.le_of_ble_eq_true rfl) rfl (fun h hok => ?_)
    exact q_vret dX5_init_157 rfl ⟨rfl, ml, _, _, h1, h4, hc, rfl, hok, n4, hS, beg_c, fun j hj => (gs_ne (by omega)).trans (hlow j hj)⟩
  refine q_less (Nat.zero_le _) (Nat.zero_le _) ?_
  refine q_icmp_ge (tgt := 140) dX5_init_133 (by decide) (fun c1 => ?_) (fun c1 => ?_)
  · have h1 : ¬ lk < nI 1 := fun q => by
      rw [Int32.lt_iff_toInt_lt] at q
      rw [Int32.le_iff_toInt_le] at c1
      omega
    refine q_iload_n dX5_init_140 rfl ?_
    refine q_iconst (v := nI 4) dX5_init_141 rfl ?_
    refine q_icmp_le (tgt := 149) dX5_init_142 (by decide) (fun c2 => ?_) (fun c2 => ?_)
    · have h4 : ¬ nI 4 < lk := fun q => by
        rw [Int32.lt_iff_toInt_lt] at q
        rw [Int32.le_iff_toInt_le] at c2
        omega
      refine q_iload_n dX5_init_149 rfl ?_
      obtain ⟨g, hg4, rfl⟩ := q_chk2 (a := lk) (B := 4) (by decide) (fun q => h1 (by
        rw [Int32.lt_iff_toInt_lt, nI_toInt (by decide)] at q ⊢
        omega)) h4
      have hg1 : 1 ≤ g := Nat.le_of_not_lt fun q => h1 ((nI_ltI (by omega) (by decide)).mpr q)
      exact hJ g hg1 hg4 (by unfold q_clamp; rw [if_neg h1, if_neg h4])
    · have h4 : nI 4 < lk := by
        rw [Int32.le_iff_toInt_le] at c2
        rw [Int32.lt_iff_toInt_lt]
        omega
      refine q_iconst (v := nI 4) dX5_init_145 rfl ?_
      refine q_goto (tgt := 150) dX5_init_146 (by decide) ?_
      exact hJ 4 (by omega) (by omega) (by unfold q_clamp; rw [if_neg h1, if_pos h4])
  · have h1 : lk < nI 1 := by
      rw [Int32.le_iff_toInt_le] at c1
      rw [Int32.lt_iff_toInt_lt]
      omega
    refine q_iconst (v := nI 1) dX5_init_136 rfl ?_
    refine q_goto (tgt := 150) dX5_init_137 (by decide) ?_
    exact hJ 1 (by omega) (by omega) (by unfold q_clamp; rw [if_pos h1])


