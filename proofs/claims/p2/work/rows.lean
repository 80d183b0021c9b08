section
-- ===== PART A: goes FIRST, ahead of the names: the tables' words, and 'selects' of the private methods out of them =====
/-- a private method of a class that the tables say can be made, by its rows of tables_1 -/
def lw_okq (q : MethodName × Nat) : Prop := (q.1.cls ≠ "java/lang/invoke/MethodHandle" ∧ q.1.cls ≠ "java/lang/invoke/VarHandle") ∧ Cond.instantiable q.1.cls q.2 ∈ tables_1 ∧ Cond.privateMethod q.1 ∈ tables_1 ∧ Cond.instanceMethod q.1 ∈ tables_1
theorem lw_p0 : lw_okq (⟨"GroupFilters$Filter", "setTimers", "(II)V"⟩, 5) := ⟨⟨by decide +kernel, by decide +kernel⟩, List.mem_of_getElem? (i := 38) (by decide +kernel), List.mem_of_getElem? (i := 92) (by decide +kernel), List.mem_of_getElem? (i := 93) (by decide +kernel)⟩
theorem lw_p1 : lw_okq (⟨"GroupFilters$Filter", "include", "()V"⟩, 5) := ⟨⟨by decide +kernel, by decide +kernel⟩, List.mem_of_getElem? (i := 38) (by decide +kernel), List.mem_of_getElem? (i := 99) (by decide +kernel), List.mem_of_getElem? (i := 100) (by decide +kernel)⟩
theorem lw_p2 : lw_okq (⟨"java/lang/Throwable", "fillInStackTrace", "(I)Ljava/lang/Throwable;"⟩, 6) := ⟨⟨by decide +kernel, by decide +kernel⟩, List.mem_of_getElem? (i := 242) (by decide +kernel), List.mem_of_getElem? (i := 240) (by decide +kernel), List.mem_of_getElem? (i := 241) (by decide +kernel)⟩
theorem lw_p3 : lw_okq (⟨"GroupFilters$Link", "hearToIn", "(LGroupFilters$QueryLog;II)V"⟩, 8) := ⟨⟨by decide +kernel, by decide +kernel⟩, List.mem_of_getElem? (i := 29) (by decide +kernel), List.mem_of_getElem? (i := 313) (by decide +kernel), List.mem_of_getElem? (i := 314) (by decide +kernel)⟩
theorem lw_p4 : lw_okq (⟨"GroupFilters$Link", "askSources", "(LGroupFilters$QueryLog;II)V"⟩, 8) := ⟨⟨by decide +kernel, by decide +kernel⟩, List.mem_of_getElem? (i := 29) (by decide +kernel), List.mem_of_getElem? (i := 321) (by decide +kernel), List.mem_of_getElem? (i := 322) (by decide +kernel)⟩
theorem lw_p5 : lw_okq (⟨"GroupFilters$Link", "askGroup", "(LGroupFilters$QueryLog;I)V"⟩, 8) := ⟨⟨by decide +kernel, by decide +kernel⟩, List.mem_of_getElem? (i := 29) (by decide +kernel), List.mem_of_getElem? (i := 341) (by decide +kernel), List.mem_of_getElem? (i := 342) (by decide +kernel)⟩
theorem lw_p6 : lw_okq (⟨"GroupFilters$Link", "hearToEx", "(LGroupFilters$QueryLog;II)V"⟩, 8) := ⟨⟨by decide +kernel, by decide +kernel⟩, List.mem_of_getElem? (i := 29) (by decide +kernel), List.mem_of_getElem? (i := 349) (by decide +kernel), List.mem_of_getElem? (i := 350) (by decide +kernel)⟩
theorem lw_p7 : lw_okq (⟨"GroupFilters$Link", "hearBlock", "(LGroupFilters$QueryLog;II)V"⟩, 8) := ⟨⟨by decide +kernel, by decide +kernel⟩, List.mem_of_getElem? (i := 29) (by decide +kernel), List.mem_of_getElem? (i := 357) (by decide +kernel), List.mem_of_getElem? (i := 358) (by decide +kernel)⟩
theorem lw_p8 : lw_okq (⟨"GroupFilters$Filter", "ageTimers", "(I)I"⟩, 5) := ⟨⟨by decide +kernel, by decide +kernel⟩, List.mem_of_getElem? (i := 38) (by decide +kernel), List.mem_of_getElem? (i := 397) (by decide +kernel), List.mem_of_getElem? (i := 398) (by decide +kernel)⟩
theorem lw_p9 : lw_okq (⟨"GroupFilters", "runClocks", "(I)V"⟩, 2) := ⟨⟨by decide +kernel, by decide +kernel⟩, List.mem_of_getElem? (i := 14) (by decide +kernel), List.mem_of_getElem? (i := 401) (by decide +kernel), List.mem_of_getElem? (i := 402) (by decide +kernel)⟩
theorem lw_p10 : lw_okq (⟨"GroupFilters", "checkPlace", "(III)V"⟩, 2) := ⟨⟨by decide +kernel, by decide +kernel⟩, List.mem_of_getElem? (i := 14) (by decide +kernel), List.mem_of_getElem? (i := 439) (by decide +kernel), List.mem_of_getElem? (i := 440) (by decide +kernel)⟩
theorem lw_p11 : lw_okq (⟨"GroupFilters", "filterAt", "(II)LGroupFilters$Filter;"⟩, 2) := ⟨⟨by decide +kernel, by decide +kernel⟩, List.mem_of_getElem? (i := 14) (by decide +kernel), List.mem_of_getElem? (i := 470) (by decide +kernel), List.mem_of_getElem? (i := 471) (by decide +kernel)⟩
theorem lw_p12 : lw_okq (⟨"GroupFiltersModel", "begin", "()V"⟩, 20) := ⟨⟨by decide +kernel, by decide +kernel⟩, List.mem_of_getElem? (i := 523) (by decide +kernel), List.mem_of_getElem? (i := 529) (by decide +kernel), List.mem_of_getElem? (i := 530) (by decide +kernel)⟩
theorem lw_p13 : lw_okq (⟨"GroupFiltersModel", "isLink", "(I)Z"⟩, 20) := ⟨⟨by decide +kernel, by decide +kernel⟩, List.mem_of_getElem? (i := 523) (by decide +kernel), List.mem_of_getElem? (i := 602) (by decide +kernel), List.mem_of_getElem? (i := 603) (by decide +kernel)⟩
theorem lw_p14 : lw_okq (⟨"GroupFiltersModel", "grace", "(I)I"⟩, 20) := ⟨⟨by decide +kernel, by decide +kernel⟩, List.mem_of_getElem? (i := 523) (by decide +kernel), List.mem_of_getElem? (i := 609) (by decide +kernel), List.mem_of_getElem? (i := 610) (by decide +kernel)⟩
theorem lw_p15 : lw_okq (⟨"GroupFiltersModel", "reported", "(IIII)I"⟩, 20) := ⟨⟨by decide +kernel, by decide +kernel⟩, List.mem_of_getElem? (i := 523) (by decide +kernel), List.mem_of_getElem? (i := 618) (by decide +kernel), List.mem_of_getElem? (i := 619) (by decide +kernel)⟩
def lw_privs_1 : List (MethodName × Nat) := [(⟨"GroupFilters$Filter", "setTimers", "(II)V"⟩, 5), (⟨"GroupFilters$Filter", "include", "()V"⟩, 5), (⟨"java/lang/Throwable", "fillInStackTrace", "(I)Ljava/lang/Throwable;"⟩, 6), (⟨"GroupFilters$Link", "hearToIn", "(LGroupFilters$QueryLog;II)V"⟩, 8), (⟨"GroupFilters$Link", "askSources", "(LGroupFilters$QueryLog;II)V"⟩, 8), (⟨"GroupFilters$Link", "askGroup", "(LGroupFilters$QueryLog;I)V"⟩, 8), (⟨"GroupFilters$Link", "hearToEx", "(LGroupFilters$QueryLog;II)V"⟩, 8), (⟨"GroupFilters$Link", "hearBlock", "(LGroupFilters$QueryLog;II)V"⟩, 8), (⟨"GroupFilters$Filter", "ageTimers", "(I)I"⟩, 5), (⟨"GroupFilters", "runClocks", "(I)V"⟩, 2), (⟨"GroupFilters", "checkPlace", "(III)V"⟩, 2), (⟨"GroupFilters", "filterAt", "(II)LGroupFilters$Filter;"⟩, 2), (⟨"GroupFiltersModel", "begin", "()V"⟩, 20), (⟨"GroupFiltersModel", "isLink", "(I)Z"⟩, 20), (⟨"GroupFiltersModel", "grace", "(I)I"⟩, 20), (⟨"GroupFiltersModel", "reported", "(IIII)I"⟩, 20)]
theorem lw_r1 : ∀ q ∈ lw_privs_1, lw_okq q := List.forall_mem_cons.mpr ⟨lw_p0, List.forall_mem_cons.mpr ⟨lw_p1, List.forall_mem_cons.mpr ⟨lw_p2, List.forall_mem_cons.mpr ⟨lw_p3, List.forall_mem_cons.mpr ⟨lw_p4, List.forall_mem_cons.mpr ⟨lw_p5, List.forall_mem_cons.mpr ⟨lw_p6, List.forall_mem_cons.mpr ⟨lw_p7, List.forall_mem_cons.mpr ⟨lw_p8, List.forall_mem_cons.mpr ⟨lw_p9, List.forall_mem_cons.mpr ⟨lw_p10, List.forall_mem_cons.mpr ⟨lw_p11, List.forall_mem_cons.mpr ⟨lw_p12, List.forall_mem_cons.mpr ⟨lw_p13, List.forall_mem_cons.mpr ⟨lw_p14, List.forall_mem_cons.mpr ⟨lw_p15, fun _ h => absurd h List.not_mem_nil⟩⟩⟩⟩⟩⟩⟩⟩⟩⟩⟩⟩⟩⟩⟩⟩
theorem lw_p16 : lw_okq (⟨"GroupFiltersModel", "excluding", "(IIII)V"⟩, 20) := ⟨⟨by decide +kernel, by decide +kernel⟩, List.mem_of_getElem? (i := 523) (by decide +kernel), List.mem_of_getElem? (i := 622) (by decide +kernel), List.mem_of_getElem? (i := 623) (by decide +kernel)⟩
theorem lw_p17 : lw_okq (⟨"GroupFiltersModel", "setOf", "(II)I"⟩, 20) := ⟨⟨by decide +kernel, by decide +kernel⟩, List.mem_of_getElem? (i := 523) (by decide +kernel), List.mem_of_getElem? (i := 626) (by decide +kernel), List.mem_of_getElem? (i := 627) (by decide +kernel)⟩
theorem lw_p18 : lw_okq (⟨"GroupFiltersModel", "become", "(IIII)V"⟩, 20) := ⟨⟨by decide +kernel, by decide +kernel⟩, List.mem_of_getElem? (i := 523) (by decide +kernel), List.mem_of_getElem? (i := 630) (by decide +kernel), List.mem_of_getElem? (i := 631) (by decide +kernel)⟩
theorem lw_p19 : lw_okq (⟨"GroupFiltersModel", "setTimers", "(III)V"⟩, 20) := ⟨⟨by decide +kernel, by decide +kernel⟩, List.mem_of_getElem? (i := 523) (by decide +kernel), List.mem_of_getElem? (i := 634) (by decide +kernel), List.mem_of_getElem? (i := 635) (by decide +kernel)⟩
theorem lw_p20 : lw_okq (⟨"GroupFiltersModel", "ask", "(III)V"⟩, 20) := ⟨⟨by decide +kernel, by decide +kernel⟩, List.mem_of_getElem? (i := 523) (by decide +kernel), List.mem_of_getElem? (i := 638) (by decide +kernel), List.mem_of_getElem? (i := 639) (by decide +kernel)⟩
theorem lw_p21 : lw_okq (⟨"GroupFiltersModel", "asks", "(I)Z"⟩, 20) := ⟨⟨by decide +kernel, by decide +kernel⟩, List.mem_of_getElem? (i := 523) (by decide +kernel), List.mem_of_getElem? (i := 642) (by decide +kernel), List.mem_of_getElem? (i := 643) (by decide +kernel)⟩
theorem lw_p22 : lw_okq (⟨"GroupFiltersModel", "send", "(III)V"⟩, 20) := ⟨⟨by decide +kernel, by decide +kernel⟩, List.mem_of_getElem? (i := 523) (by decide +kernel), List.mem_of_getElem? (i := 646) (by decide +kernel), List.mem_of_getElem? (i := 647) (by decide +kernel)⟩
theorem lw_p23 : lw_okq (⟨"GroupFiltersModel", "lower", "(III)V"⟩, 20) := ⟨⟨by decide +kernel, by decide +kernel⟩, List.mem_of_getElem? (i := 523) (by decide +kernel), List.mem_of_getElem? (i := 650) (by decide +kernel), List.mem_of_getElem? (i := 651) (by decide +kernel)⟩
theorem lw_p24 : lw_okq (⟨"GroupFiltersModel", "askGroup", "(II)V"⟩, 20) := ⟨⟨by decide +kernel, by decide +kernel⟩, List.mem_of_getElem? (i := 523) (by decide +kernel), List.mem_of_getElem? (i := 654) (by decide +kernel), List.mem_of_getElem? (i := 655) (by decide +kernel)⟩
theorem lw_p25 : lw_okq (⟨"GroupFiltersModel", "lowerGroup", "(II)V"⟩, 20) := ⟨⟨by decide +kernel, by decide +kernel⟩, List.mem_of_getElem? (i := 523) (by decide +kernel), List.mem_of_getElem? (i := 658) (by decide +kernel), List.mem_of_getElem? (i := 659) (by decide +kernel)⟩
theorem lw_p26 : lw_okq (⟨"GroupFiltersModel", "including", "(IIII)V"⟩, 20) := ⟨⟨by decide +kernel, by decide +kernel⟩, List.mem_of_getElem? (i := 523) (by decide +kernel), List.mem_of_getElem? (i := 662) (by decide +kernel), List.mem_of_getElem? (i := 663) (by decide +kernel)⟩
theorem lw_p27 : lw_okq (⟨"GroupFiltersModel", "tickRecord", "(I)V"⟩, 20) := ⟨⟨by decide +kernel, by decide +kernel⟩, List.mem_of_getElem? (i := 523) (by decide +kernel), List.mem_of_getElem? (i := 674) (by decide +kernel), List.mem_of_getElem? (i := 675) (by decide +kernel)⟩
theorem lw_p28 : lw_okq (⟨"GroupFiltersModel", "tickLink", "(I)Z"⟩, 20) := ⟨⟨by decide +kernel, by decide +kernel⟩, List.mem_of_getElem? (i := 523) (by decide +kernel), List.mem_of_getElem? (i := 678) (by decide +kernel), List.mem_of_getElem? (i := 679) (by decide +kernel)⟩
theorem lw_p29 : lw_okq (⟨"GroupFiltersModel", "knows", "(II)Z"⟩, 20) := ⟨⟨by decide +kernel, by decide +kernel⟩, List.mem_of_getElem? (i := 523) (by decide +kernel), List.mem_of_getElem? (i := 702) (by decide +kernel), List.mem_of_getElem? (i := 703) (by decide +kernel)⟩
def lw_privs_2 : List (MethodName × Nat) := [(⟨"GroupFiltersModel", "excluding", "(IIII)V"⟩, 20), (⟨"GroupFiltersModel", "setOf", "(II)I"⟩, 20), (⟨"GroupFiltersModel", "become", "(IIII)V"⟩, 20), (⟨"GroupFiltersModel", "setTimers", "(III)V"⟩, 20), (⟨"GroupFiltersModel", "ask", "(III)V"⟩, 20), (⟨"GroupFiltersModel", "asks", "(I)Z"⟩, 20), (⟨"GroupFiltersModel", "send", "(III)V"⟩, 20), (⟨"GroupFiltersModel", "lower", "(III)V"⟩, 20), (⟨"GroupFiltersModel", "askGroup", "(II)V"⟩, 20), (⟨"GroupFiltersModel", "lowerGroup", "(II)V"⟩, 20), (⟨"GroupFiltersModel", "including", "(IIII)V"⟩, 20), (⟨"GroupFiltersModel", "tickRecord", "(I)V"⟩, 20), (⟨"GroupFiltersModel", "tickLink", "(I)Z"⟩, 20), (⟨"GroupFiltersModel", "knows", "(II)Z"⟩, 20)]
theorem lw_r2 : ∀ q ∈ lw_privs_2, lw_okq q := List.forall_mem_cons.mpr ⟨lw_p16, List.forall_mem_cons.mpr ⟨lw_p17, List.forall_mem_cons.mpr ⟨lw_p18, List.forall_mem_cons.mpr ⟨lw_p19, List.forall_mem_cons.mpr ⟨lw_p20, List.forall_mem_cons.mpr ⟨lw_p21, List.forall_mem_cons.mpr ⟨lw_p22, List.forall_mem_cons.mpr ⟨lw_p23, List.forall_mem_cons.mpr ⟨lw_p24, List.forall_mem_cons.mpr ⟨lw_p25, List.forall_mem_cons.mpr ⟨lw_p26, List.forall_mem_cons.mpr ⟨lw_p27, List.forall_mem_cons.mpr ⟨lw_p28, List.forall_mem_cons.mpr ⟨lw_p29, fun _ h => absurd h List.not_mem_nil⟩⟩⟩⟩⟩⟩⟩⟩⟩⟩⟩⟩⟩⟩
def lw_privs : List (MethodName × Nat) := lw_privs_1 ++ (lw_privs_2)
def lw_tbl : List Cond := k2_sels lw_privs ++ tables_1
theorem lw_privs_ok : ∀ q ∈ lw_privs, lw_okq q := by
  show ∀ q ∈ lw_privs_1 ++ (lw_privs_2), lw_okq q
  exact List.forall_mem_append.mpr ⟨lw_r1, lw_r2⟩
-- ===== end of PART A; then your names; then what follows =====
end
section
theorem goodIn_r {big : List Cond} (ws : List Cond) (ps : List Nat) (hp : ws = ps.filterMap (fun i => big[i]?)) (h : ws.all goodWord = true) : GoodIn big ws := by
  intro w hw
  have h1 := List.all_eq_true.mp h w hw
  rw [hp] at hw
  obtain ⟨i, -, hi⟩ := List.mem_filterMap.mp hw
  have hm : w ∈ big := by first | exact List.mem_of_getElem? hi | exact List.getElem?_mem hi
  exact ⟨hm, good_of_word h1⟩
theorem goodIn_app {big a b : List Cond} (ha : GoodIn big a) (hb : GoodIn big b) : GoodIn big (a ++ b) := fun w h => (List.mem_append.mp h).elim (ha w) (hb w)
section VXA
def vx_T (XC : String → State → State → Prop) (st : State) (q : Addr) (t : State) (mc ms : Nat) (free : Addr → Prop) : Prop :=
  ∃ (E : String) (ce : Cell) (L : List Loc), XC E st t ∧ t.heap[q]? = some ce ∧ ce.vm = .none ∧ st.vm.findClass E = some ce.cls ∧ st.WarmedH t.vm ∧ st.sameButNew ({ t with vm := st.vm } : State) L mc ms ∧ ∀ z ∈ L, free z.base
def vx_Q (Qc : Array Value → State → Outcome → State → Prop) (XC : String → State → State → Prop) (mc ms : Nat) (free : Addr → Prop) : Array Value → State → Outcome → State → Prop := fun a st o t =>
  (Qc a st o t ∧ ∃ L, FrameEnd st o t L mc ms ∧ ∀ q ∈ L, free q.base) ∨ ∃ q, o = .threw q ∧ vx_T XC st q t mc ms free
section Payer
variable {l : Launch} {R : Room} {p : Program} {e : Env} {below : List Frame} {s : State} {sargs : Array Value} {y : MethodName} {len W9 : Nat}
end Payer
section Calls
variable {p : Program} {l : Launch} {e : Env} {R : Room} {s : State} {m : MethodId} {args : Array Value} {below : List Frame} {meth : Method} {c : Code} {T : State} {locs : List Loc} {cells slots : Nat}
end Calls
theorem vx_cls {s : State} {T : State} {vm₁ : Vm} {E : String} {k : ClassId} (hW : s.WarmedH vm₁) (h : (T.setVm vm₁).vm.findClass E = some k) : s.vm.findClass E = some k := by
  have h1 : vm₁.findClass E = some k := h
  rw [hW.alike.findClass] at h1
  exact h1
def vx_W (p : Program) (l : Launch) (e : Env) (R : Room) (s : State) (m : MethodId) (args : Array Value) (below : List Frame) (meth : Method) (c : Code) (H : Heap) (locs : List Loc) (cells slots : Nat) (Q : State → Prop) (g : JFrame) (q : Addr) : Prop :=
  ∀ T : State, T.heap = H → Stand p l e R s m args below meth c T locs cells slots → ∃ t, Steps p.tables e below ((T.setTop g).pushFrame (.throwing q)) t ∧ Q t
section Runs
variable {p : Program} {l : Launch} {e : Env} {R : Room} {s : State} {m : MethodId} {args : Array Value} {below : List Frame} {meth : Method} {c : Code} {H : Heap} {locs : List Loc} {cells slots : Nat}
variable {y : MethodName} {bytes cc : ByteArray} {maxL nL mc ms n index : Nat} {ret : Option FieldType} {ws : List Cond} {rm : Room} {Pc : Array Value → State → Prop} {Qc : Array Value → State → Outcome → State → Prop} {XC : String → State → State → Prop} {free : Addr → Prop} {Ts : List Cond} {own C : String} {b : Addr} {As rest : List Value} {g : JFrame}
end Runs
section Rows
variable {p : Program} {l : Launch} {e : Env} {R : Room} {s : State} {m : MethodId} {args : Array Value} {below : List Frame} {meth : Method} {c : Code} {H : Heap} {locs : List Loc} {cells slots : Nat} {Q : State → Prop}
variable {mc ms : Nat} {free : Addr → Prop} {A0 A1 : Nat → Prop} {H0 : Heap} {a : Array Value} {pc : Nat} {ls : Array Slot} {st0 rest : List Value}
end Rows
section Ends
variable {p : Program} {l : Launch} {e : Env} {R : Room} {s : State} {m : MethodId} {args : Array Value} {below : List Frame} {meth : Method} {c : Code} {H : Heap} {locs : List Loc} {cells slots : Nat} {Q : State → Prop}
variable {mc ms : Nat} {free : Addr → Prop} {A0 A1 : Nat → Prop} {H0 : Heap} {a : Array Value} {ls : Array Slot} {st0 rest : List Value}
variable {Qc : Array Value → State → Outcome → State → Prop} {XC : String → State → State → Prop}
def vx_MQ (below : List Frame) (Qc : Array Value → State → Outcome → State → Prop) (XC : String → State → State → Prop) (a : Array Value) (s : State) (mc ms : Nat) (free : Addr → Prop) : State → Prop := fun t =>
  ∃ o, t.status = .running ∧ Ended t below o ∧ vx_Q Qc XC mc ms free a s o t
theorem vx_widen {g : JFrame} {q : Addr} {k n : Nat} (h1 : cells ≤ k) (h2 : slots ≤ n) (kk : vx_W p l e R s m args below meth c H locs k n Q g q) : vx_W p l e R s m args below meth c H locs cells slots Q g q := fun T hT X => kk T hT (stand_widen X h1 h2)
theorem vx_frame {U : State} {k n : Nat} (h : s.sameButNew ({ U with vm := s.vm } : State) locs k n) : s.heap.size ≤ U.heap.size ∧ ∀ q : Nat, q < s.heap.size → (∀ z ∈ locs, z.base ≠ q) → U.heap[q]? = s.heap[q]? := by
  obtain ⟨-, h2, -, -, -, h6⟩ := h
  refine ⟨h2, fun q hq hz => ?_⟩
  obtain ⟨c9, e1, e2, e3, e4⟩ := h6 q _ (Array.getElem?_eq_getElem hq)
  have hs : c9.slots = (s.heap[q]).slots := Array.ext_getElem? fun i => e4 i fun hm => hz _ hm rfl
  have h9 : c9 = s.heap[q] := by
    rw [hs] at e2
    exact e2
  have e5 : U.heap[q]? = some c9 := e1
  rw [e5, h9, Array.getElem?_eq_getElem hq]
def vx_no (w : Cond) : Bool := decide (w ≠ .isRef (.static Bundle.tN "UNASSIGNED_STACK" Bundle.steD)) && decide (w ≠ .isRef (.static Bundle.tN "SUPPRESSED_SENTINEL" Bundle.listD)) && decide (w ≠ .laysStatic Bundle.tN "UNASSIGNED_STACK" Bundle.steD) && decide (w ≠ .laysStatic Bundle.tN "SUPPRESSED_SENTINEL" Bundle.listD)
def vx_atS (own : String) (ic : Nat) (X : String) (names : List String) : List Cond := (Bundle.ownAtoms own ic X names).filter vx_no
def vx_ot (w : Cond) : Bool := w.onTables || goodWord w
theorem vx_ot_at {args a' : Array Value} {s U : State} {w : Cond} (hW : s.WarmedH U.vm) (hvm : s.vm = U.vm) (hg : vx_ot w = true) (h : w.before args s = true) : w.before a' U = true := by
  simp only [vx_ot, Bool.or_eq_true] at hg
  rcases hg with hg | hg
  · exact va_tabs hg hvm h
  · exact word_at hW (good_of_word hg) h
theorem vx_own {args : Array Value} {s : State} {L : List Cond} (h1 : ∀ w ∈ L.filter vx_no, w.before args s = true)
    (hU : (Cond.isRef (.static Bundle.tN "UNASSIGNED_STACK" Bundle.steD)).before args s = true) (hN : (Cond.isRef (.static Bundle.tN "SUPPRESSED_SENTINEL" Bundle.listD)).before args s = true)
    (lU : (Cond.laysStatic Bundle.tN "UNASSIGNED_STACK" Bundle.steD).before args s = true) (lN : (Cond.laysStatic Bundle.tN "SUPPRESSED_SENTINEL" Bundle.listD).before args s = true) : ∀ w ∈ L, w.before args s = true := by
  intro w hw
  by_cases e1 : w = .isRef (.static Bundle.tN "UNASSIGNED_STACK" Bundle.steD)
  · rw [e1]; exact hU
  · by_cases e2 : w = .isRef (.static Bundle.tN "SUPPRESSED_SENTINEL" Bundle.listD)
    · rw [e2]; exact hN
    · by_cases e3 : w = .laysStatic Bundle.tN "UNASSIGNED_STACK" Bundle.steD
      · rw [e3]; exact lU
      · by_cases e4 : w = .laysStatic Bundle.tN "SUPPRESSED_SENTINEL" Bundle.listD
        · rw [e4]; exact lN
        · exact h1 w (List.mem_filter.mpr ⟨hw, by unfold vx_no; rw [decide_eq_true e1, decide_eq_true e2, decide_eq_true e3, decide_eq_true e4]; rfl⟩)
def vx_L (C n d : String) (A : Nat → Prop) (U : State) (H : Heap) : Prop := ∃ (c : ClassId) (k : Class) (i : Nat) (f : Field) (a : Nat) (cell : Cell), U.vm.findClass C = some c ∧ U.fieldFound? C n d = some (c, k, i, f) ∧ f.isStatic = true ∧ k.statics = some a ∧ H[a]? = some cell ∧ cell.vm.isStatics = true ∧ cell.cls = c ∧ f.slot < cell.slots.size ∧ k.staticTypes[f.slot]? = some f.type ∧ ¬ A a
theorem vx_L.moved {C n d : String} {A : Nat → Prop} {u U : State} {H : Heap} (hvm : u.vm.Alike U.vm) (h : vx_L C n d A u H) : vx_L C n d A U H := by
  obtain ⟨c, k, i, f, a, cell, h1, h2, h3, h4, h5, h6, h7, h8, h9, h10⟩ := h
  obtain ⟨k', hi', he⟩ := State.fieldFound?_setVm hvm h2
  exact ⟨c, k', i, f, a, cell, by rw [hvm.findClass]; exact h1, hi', h3, by rw [he]; exact h4, h5, h6, h7, h8, by rw [he]; exact h9, h10⟩
theorem vx_L.kept {C n d : String} {A : Nat → Prop} {U : State} {H H1 : Heap} (h : vx_L C n d A U H) (hq : ∀ a : Nat, a < H.size → ¬ A a → H1[a]? = H[a]?) : vx_L C n d A U H1 := by
  obtain ⟨c, k, i, f, a, cell, h1, h2, h3, h4, h5, h6, h7, h8, h9, h10⟩ := h
  exact ⟨c, k, i, f, a, cell, h1, h2, h3, h4, by rw [hq a (Array.getElem?_eq_some_iff.mp h5).1 h10]; exact h5, h6, h7, h8, h9, h10⟩
theorem vx_L.narrow {C n d : String} {A B : Nat → Prop} {U : State} {H : Heap} (h : vx_L C n d A U H) (hAB : ∀ q, B q → A q) : vx_L C n d B U H := by
  obtain ⟨c, k, i, f, a, cell, h1, h2, h3, h4, h5, h6, h7, h8, h9, h10⟩ := h
  exact ⟨c, k, i, f, a, cell, h1, h2, h3, h4, h5, h6, h7, h8, h9, fun z => h10 (hAB _ z)⟩
theorem vx_L.word {C n d : String} {A : Nat → Prop} {s : State} {args : Array Value} (h : vx_L C n d A s s.heap) : (Cond.laysStatic C n d).before args s = true := by
  obtain ⟨c, k, i, f, a, cell, h1, h2, h3, h4, h5, h6, h7, h8, h9, -⟩ := h
  show (Cond.laysStatic C n d).holds args s none s [] = true
  exact Cond.laysStatic_of h1 h2 h3 h4 h5 h6 h7 h8 h9
def vx_Zq (C n d : String) (A : Nat → Prop) (U : State) (H : Heap) : Prop := va_Zq C n d A U H ∧ vx_L C n d A U H
theorem vx_Zq.moved {C n d : String} {A : Nat → Prop} {u U : State} {H : Heap} (hvm : u.vm.Alike U.vm) (h : vx_Zq C n d A u H) : vx_Zq C n d A U H := ⟨va_Zq.moved hvm h.1, vx_L.moved hvm h.2⟩
theorem vx_Zq.kept {C n d : String} {A : Nat → Prop} {U : State} {H H1 : Heap} (h : vx_Zq C n d A U H) (hq : ∀ a : Nat, a < H.size → ¬ A a → H1[a]? = H[a]?) : vx_Zq C n d A U H1 := ⟨va_Zq.kept h.1 hq, vx_L.kept h.2 hq⟩
theorem vx_Zq.narrow {C n d : String} {A B : Nat → Prop} {U : State} {H : Heap} (h : vx_Zq C n d A U H) (hAB : ∀ q, B q → A q) : vx_Zq C n d B U H := ⟨va_Zq.narrow h.1 hAB, vx_L.narrow h.2 hAB⟩
theorem vx_Zqof {args : Array Value} {s : State} {C n d : String} {A : Nat → Prop} (hl : (Cond.laysStatic C n d).before args s = true) (hini : (Cond.initialized C).before args s = true) (h : (Cond.isRef (.static C n d)).before args s = true) (hA : ∀ a : Nat, a < s.heap.size → ¬ A a) : vx_Zq C n d A s s.heap := by
  refine ⟨va_Zqof hl hini h hA, ?_⟩
  obtain ⟨c, k, i, f, a, cell, h1, h2, h3, h4, h5, h6, h7, h8, h9⟩ := Cond.laysStatic_spec hl
  exact ⟨c, k, i, f, a, cell, h1, h2, h3, h4, h5, h6, h7, h8, h9, hA a (Array.getElem?_eq_some_iff.mp h5).1⟩
theorem vx_isRef {C n d : String} {v : Value} {A : Nat → Prop} {s : State} {args : Array Value} (h : va_Z C n d v A s s.heap) (hv : v.isRef = true) : (Cond.isRef (.static C n d)).before args s = true := by
  obtain ⟨cf, kf, fi, f, a, cell, h1, h2, h3, h4, h5, h6, h7, -⟩ := h
  have he : (Term.static C n d).eval args s none [] s = some v := by
    simp [Term.eval, State.fieldNamed?, h1, h2, h4, h5, h6, h7]
  simp only [Cond.before, Cond.holds, Cond.value, he]
  cases v <;> simp_all [Value.isRef]
theorem vx_isRefq {C n d : String} {A : Nat → Prop} {s : State} {args : Array Value} (h : va_Zq C n d A s s.heap) : (Cond.isRef (.static C n d)).before args s = true := by
  rcases h with h | ⟨t, h⟩
  · exact vx_isRef h rfl
  · exact vx_isRef h rfl
theorem vx_rebase {T : State} (X : Stand p l e R s m args below meth c T locs cells slots) {R' : Room} (hf : R'.frames ≤ R.frames) (hl : R'.locals ≤ R.locals) (hc : cells + R'.cells ≤ R.cells) (hs : slots + R'.slots ≤ R.slots) :
    Stand p l e R' ((T.setVm s.vm).setFrames (.invoking m args :: below)) m args below meth c T [] 0 0 := by
  have htop : (T.setVm s.vm).topJava?.isSome := X.here.top
  have hF : ((T.setVm s.vm).setFrames (.invoking m args :: below)).frames = .invoking m args :: below := State.frames_setFrames _ (State.cur_lt_of_top htop)
  obtain ⟨g₀, hg0⟩ := Option.isSome_iff_exists.mp htop
  obtain ⟨r, hr⟩ := State.topJava?_eq_some.mp hg0
  have hl9 : e.platform.stackLimits (T.setVm s.vm).me = e.platform.stackLimits s.me := X.limits
  have hb9 : (T.setVm s.vm).me.stackBytes = s.me.stackBytes := X.bytes
  refine ⟨X.admits, X.cas, X.clock, hF, ?_, X.hears, X.method, X.code, X.here, X.tail, X.warmed, ?_, ?_, ?_⟩
  · have h := X.room
    have hU : ((T.setVm s.vm).setFrames (.invoking m args :: below)).localsInUse = s.localsInUse := by
      rw [State.localsInUse_invoking hF (meth := meth) (c := c) X.method X.code, State.localsInUse_invoking X.frames X.method X.code]
    simp only [State.hasRoom, Bool.and_eq_true, decide_eq_true_eq] at h ⊢
    obtain ⟨⟨⟨⟨h1, h2, h3, h4, h5, h6⟩, h7⟩, h8⟩, h9⟩ := h
    rw [X.frames, List.length_cons] at h2 h3
    have q1 := X.heapSize
    have q2 := X.used
    simp only [hF, hU, List.length_cons, State.stackLimits_setFrames, State.stackBytes_setFrames, hl9, hb9]
    refine ⟨⟨⟨⟨by omega, by omega, by omega, by omega, by omega, h6⟩, ?_⟩, ?_⟩, X.book⟩
    · show T.heap.size + R'.cells ≤ e.platform.maxCells
      omega
    · show T.slotsUsed + R'.slots ≤ e.platform.maxSlots
      omega
  · rw [State.stackLimits_setFrames]; rfl
  · rw [State.stackBytes_setFrames]; rfl
  · refine ⟨?_, Nat.le_refl _, Nat.le_refl _, ?_, ?_, fun a c9 h9 => ⟨c9, h9, rfl, rfl, fun _ _ => rfl⟩⟩
    · obtain ⟨t, ht, -⟩ := State.frames_cons hr
      show T.setVm s.vm = { ((T.setVm s.vm).setFrames (.invoking m args :: below)).setFrames (T.setVm s.vm).frames with heap := T.heap, slotsUsed := T.slotsUsed }
      rw [State.setFrames_setFrames, State.setFrames_self ht]
      rfl
    · show T.slotsUsed = T.slotsUsed + ((T.heap.toList.drop T.heap.size).map (·.slots.size)).sum
      rw [List.drop_eq_nil_of_le (Nat.le_of_eq Array.length_toList)]
      rfl
    · show ((T.heap.toList.drop T.heap.size).map (·.slots.size)).sum ≤ 0
      rw [List.drop_eq_nil_of_le (Nat.le_of_eq Array.length_toList)]
      exact Nat.le_refl _
theorem vx_throwS {cc : ByteArray} {pc : Nat} (hexec : p.tables.exec = Jvm.exec) (hb : c.code = cc) (hl : l.stackTraces = false) {own cls text : String} {names : List String} {ik is ic mc ms sa : Nat} {A : Nat → Prop}
    (hown : s.vm.findClass own = some m.cls) (hcls : Bundle.fit cls = true) (hnames : ∀ n ∈ names, Bundle.fit n = true)
    (hk : (Cond.classLink own ik cls).before args s = true) (hini : (Cond.initialized cls).before args s = true) (hstr : vk_R own is text sa s) (hat : ∀ w ∈ vx_atS own ic cls names, w.before args s = true)
    (hgood : ∀ w ∈ Cond.classLink own ik cls :: Cond.initialized cls :: vx_atS own ic cls names, vx_ot w = true)
    (hU : vx_Zq Bundle.tN "UNASSIGNED_STACK" Bundle.steD A s s.heap) (hN : vx_Zq Bundle.tN "SUPPRESSED_SENTINEL" Bundle.listD A s s.heap) (hS : va_S A s.heap H locs) (hsize : ls.size = c.maxLocals)
    (d0 : decode cc pc = .ok (.new ik, 3)) (d3 : decode cc (pc + 3) = .ok (.dup, 1)) (d4 : decode cc (pc + 4) = .ok (.ldc is, 2)) (d6 : decode cc (pc + 6) = .ok (.invokespecial ic, 3)) (d9 : decode cc (pc + 9) = .ok (.athrow, 1))
    (hout : ∀ x ∈ c.exceptionTable.toList, covers x (pc + 9) = false)
    (hRframes : names.length + 3 < R.frames) (hRlocals : (rest.map fun v => v.category).sum + (13 * (names.length + 1) + 43) ≤ R.locals) (hRcells : cells + 1 ≤ R.cells) (hRslots : slots + 6 ≤ R.slots) (hlocks : meth.locks = false)
    (hx : ∀ t : State, s.vm.Alike t.vm → H.size ≤ t.heap.size → (∀ q : Nat, q < H.size → t.heap[q]? = H[q]?) → XC cls s t)
    (hf : ∀ z ∈ locs, free z.base) (hc : cells + 1 ≤ mc) (hs : slots + 6 ≤ ms) :
    W p l e R s m args below meth c H locs cells slots (vx_MQ below Qc XC args s mc ms free) (F0 m pc ls rest) := by
  intro T hT X
  have htr : e.platform.stackTraces = false := (show e.platform.stackTraces = l.stackTraces by rw [X.admits.platform]).trans hl
  have Y := vx_rebase X (R' := { frames := R.frames, locals := R.locals, cells := 1, slots := 6 }) (Nat.le_refl _) (Nat.le_refl _) hRcells hRslots
  obtain ⟨s', hA⟩ : ∃ z, z = (T.setVm s.vm).setFrames (.invoking m args :: below) := ⟨_, rfl⟩
  rw [← hA] at Y
  have hvm : s'.vm = s.vm := by rw [hA]; rfl
  have hhp : s'.heap = H := by rw [hA]; exact hT
  have hW0 : s.WarmedH s'.vm := by rw [hvm]; exact State.WarmedH.refl s
  have hat' : ∀ w ∈ vx_atS own ic cls names, w.before args s' = true := fun w hw => vx_ot_at hW0 hvm.symm (hgood w (List.mem_cons_of_mem _ (List.mem_cons_of_mem _ hw))) (hat w hw)
  have hk' : (Cond.classLink own ik cls).before args s' = true := vx_ot_at hW0 hvm.symm (hgood _ List.mem_cons_self) hk
  have hini' : (Cond.initialized cls).before args s' = true := vx_ot_at hW0 hvm.symm (hgood _ (List.mem_cons_of_mem _ List.mem_cons_self)) hini
  have hU' : vx_Zq Bundle.tN "UNASSIGNED_STACK" Bundle.steD A s' s'.heap := by rw [hhp]; exact vx_Zq.moved hW0.alike (hU.kept hS.2.1)
  have hN' : vx_Zq Bundle.tN "SUPPRESSED_SENTINEL" Bundle.listD A s' s'.heap := by rw [hhp]; exact vx_Zq.moved hW0.alike (hN.kept hS.2.1)
  have h : ∀ w ∈ Bundle.ownAtoms own ic cls names, w.before args s' = true := vx_own hat' (vx_isRefq hU'.1) (vx_isRefq hN'.1) hU'.2.word hN'.2.word
  have hown' : s'.vm.findClass own = some m.cls := by rw [hvm]; exact hown
  have hins : (Cond.instantiable cls 6).before args s' = true := h _ (by simp [Bundle.ownAtoms])
  obtain ⟨vm₁, cX, kX, hfX, hkX, -, -, X₁, st1⟩ := Y.newCold hexec (own := own) (C := cls) (index := ik) (n := 6) hown' hk' hins hini'
    (g := F0 m pc ls rest) rfl (by rw [hb]; exact d0) (Nat.le_refl _) (Nat.le_refl _)
  generalize hT1 : (T.setVm vm₁).pushCell { cls := cX, slots := kX.instanceTypes.map defaultValue, vm := .none } = T1 at X₁ st1
  have hcat : (Value.ref T.heap.size).category = 1 := rfl
  have hcellA : T1.heap[T.heap.size]? = some (freshCell cX kX) := by rw [← hT1]; exact State.heap_pushCell_size _ _
  have d3' : decode c.code (pc + 3) = .ok (.dup, 1) := by rw [hb]; exact d3
  have d4' : decode c.code (pc + 4) = .ok (.ldc is, 2) := by rw [hb]; exact d4
  have hstr' : vk_R own is text sa s' := vk_R.warm hW0 hstr
  obtain ⟨U, hsteps, hrun, hend, hW, hsame, ce, hce, hO⟩ := X₁.ctorThrowS hexec htr (own := own) (cls := cls) (names := names) (ic := ic) hown' hcls hnames h (fun x hx => nomatch hx) hfX hkX hcellA (by rw [hhp, hT]; exact Nat.le_refl _) (msg := .ref sa) rfl
    (g := { method := m, pc := pc + 6, locals := ls, stack := .ref sa :: .ref T.heap.size :: .ref T.heap.size :: rest, locked := none }) rfl hsize rfl rfl (rest := rest) rfl
    (by rw [hb]; exact d6) (by rw [hb]; exact d9) hout hRframes (by simp only [List.map_cons, List.sum_cons, hcat]; omega) hlocks
  obtain ⟨f1, f2⟩ := vx_frame hsame
  rw [hhp] at f1 f2
  have hWs : s.WarmedH U.vm := State.WarmedH.trans hW0 hW
  have hcl : s.vm.findClass cls = some ce.cls := by
    have h9 := hO.cls
    rw [hvm] at h9
    exact h9
  have hall : s.sameButNew ({ U with vm := s.vm } : State) locs mc ms := by
    subst hA
    obtain ⟨e1, e2⟩ := hsame
    rw [State.setFrames_setFrames] at e1
    have h2 : (T.setVm s.vm).sameButNew ({ U with vm := s.vm } : State) [] (0 + 1) (0 + 6) := ⟨e1, e2⟩
    have h3 := X.same.trans h2
    rw [List.append_nil] at h3
    exact h3.mono hc hs
  refine ⟨U, ?_, .threw T.heap.size, hrun, hend, Or.inr ⟨T.heap.size, rfl, cls, ce, locs, hx U hWs.alike f1 (fun q hq => f2 q hq (fun z hz => nomatch hz)), hce, hO.vm, hcl, hWs, hall, hf⟩⟩
  refine st1 _ ?_
  show Steps p.tables e below (T1.setTop { method := m, pc := pc + 3, locals := ls, stack := .ref T.heap.size :: rest, locked := none }) _
  jvm_step X₁.here [X₁.here.top, hexec, d3', Value.category]
  exact X₁.ldcString hexec (own := own) (text := text) (index := is) (a := sa) hown' hstr'.1 hstr'.2
    (g := { method := m, pc := pc + 4, locals := ls, stack := .ref T.heap.size :: .ref T.heap.size :: rest, locked := none }) rfl d4' _ hsteps
end Ends
section Bodies
variable {l : Launch}
end Bodies
end VXA
end
section
def RX0 : String := "GroupFilters$Filter"
def TX0 : u_T := fun k => match k with
  | 0 => ("GroupFilters$Filter", "timers", "[I", true)
  | 1 => ("GroupFilters$Filter", "excludes", "Z", false)
  | 2 => ("GroupFilters$Filter", "running", "I", false)
  | 3 => ("GroupFilters$Filter", "stopped", "I", false)
  | _ => ("GroupFilters$Filter", "ownTimer", "I", false)
def tyX0 : Nat → FieldType := fun k => match k with
  | 0 => .array .int
  | 1 => .boolean
  | 2 => .int
  | 3 => .int
  | _ => .int
abbrev wsX00 : List Cond := u_ws RX0 TX0 5
theorem nmX0 : ∀ a, a < 5 → ∀ b, b < 5 → a ≠ b → (TX0 a).2.1 ≠ (TX0 b).2.1 := by decide +kernel
theorem tyX0_ok : ∀ k, k < 5 → parseFieldDescriptor (TX0 k).2.2.1 = some (tyX0 k) := by decide +kernel
abbrev cX0_init : ByteArray := prog_2_method_1_code
def yX0_init : MethodName := ⟨RX0, "<init>", "()V"⟩
abbrev cX0_reset : ByteArray := prog_2_method_2_code
def yX0_reset : MethodName := ⟨RX0, "reset", "()V"⟩
abbrev cX0_state : ByteArray := prog_2_method_3_code
def yX0_state : MethodName := ⟨RX0, "state", "()I"⟩
abbrev cX0_lets : ByteArray := prog_2_method_4_code
def yX0_lets : MethodName := ⟨RX0, "lets", "(I)Z"⟩
abbrev cX0_doubted : ByteArray := prog_2_method_5_code
def yX0_doubted : MethodName := ⟨RX0, "doubted", "(I)I"⟩
abbrev cX0_allow : ByteArray := prog_2_method_6_code
def yX0_allow : MethodName := ⟨RX0, "allow", "(II)V"⟩
abbrev cX0_exclude : ByteArray := prog_2_method_7_code
def yX0_exclude : MethodName := ⟨RX0, "exclude", "(III)V"⟩
abbrev cX0_block : ByteArray := prog_2_method_8_code
def yX0_block : MethodName := ⟨RX0, "block", "(I)V"⟩
abbrev cX0_age : ByteArray := prog_2_method_9_code
def yX0_age : MethodName := ⟨RX0, "age", "(I)V"⟩
abbrev cX0_ageTimers : ByteArray := prog_2_method_10_code
def yX0_ageTimers : MethodName := ⟨RX0, "ageTimers", "(I)I"⟩
abbrev cX0_include : ByteArray := prog_2_method_11_code
def yX0_include : MethodName := ⟨RX0, "include", "()V"⟩
abbrev cX0_setTimers : ByteArray := prog_2_method_12_code
def yX0_setTimers : MethodName := ⟨RX0, "setTimers", "(II)V"⟩
abbrev cX0_lowerTimers : ByteArray := prog_2_method_13_code
def yX0_lowerTimers : MethodName := ⟨RX0, "lowerTimers", "(II)V"⟩
abbrev cX0_lowerOwnTimer : ByteArray := prog_2_method_14_code
def yX0_lowerOwnTimer : MethodName := ⟨RX0, "lowerOwnTimer", "(I)V"⟩
def RX1 : String := "GroupFilters$Link"
def TX1 : u_T := fun k => match k with
  | 0 => ("GroupFilters$Link", "number", "I", true)
  | 1 => ("GroupFilters$Link", "filters", "[LGroupFilters$Filter;", true)
  | 2 => ("GroupFilters$Link", "members", "[LGroupFilters$Member;", true)
  | 3 => ("GroupFilters$Link", "often", "I", false)
  | 4 => ("GroupFilters$Link", "interval", "I", false)
  | 5 => ("GroupFilters$Link", "delay", "I", false)
  | 6 => ("GroupFilters$Link", "asker", "I", false)
  | _ => ("GroupFilters$Link", "countdown", "I", false)
def tyX1 : Nat → FieldType := fun k => match k with
  | 0 => .int
  | 1 => .array (.object "GroupFilters$Filter")
  | 2 => .array (.object "GroupFilters$Member")
  | 3 => .int
  | 4 => .int
  | 5 => .int
  | 6 => .int
  | _ => .int
abbrev wsX10 : List Cond := u_ws RX1 TX1 8
theorem nmX1 : ∀ a, a < 8 → ∀ b, b < 8 → a ≠ b → (TX1 a).2.1 ≠ (TX1 b).2.1 := by decide +kernel
theorem tyX1_ok : ∀ k, k < 8 → parseFieldDescriptor (TX1 k).2.2.1 = some (tyX1 k) := by decide +kernel
abbrev cX1_init : ByteArray := prog_3_method_1_code
def yX1_init : MethodName := ⟨RX1, "<init>", "(I)V"⟩
abbrev cX1_reset : ByteArray := prog_3_method_2_code
def yX1_reset : MethodName := ⟨RX1, "reset", "()V"⟩
abbrev cX1_set : ByteArray := prog_3_method_3_code
def yX1_set : MethodName := ⟨RX1, "set", "(III)V"⟩
abbrev cX1_grace : ByteArray := prog_3_method_4_code
def yX1_grace : MethodName := ⟨RX1, "grace", "()I"⟩
abbrev cX1_last : ByteArray := prog_3_method_5_code
def yX1_last : MethodName := ⟨RX1, "last", "()I"⟩
abbrev cX1_asks : ByteArray := prog_3_method_6_code
def yX1_asks : MethodName := ⟨RX1, "asks", "()Z"⟩
abbrev cX1_records : ByteArray := prog_3_method_7_code
def yX1_records : MethodName := ⟨RX1, "records", "()I"⟩
abbrev cX1_yieldTo : ByteArray := prog_3_method_8_code
def yX1_yieldTo : MethodName := ⟨RX1, "yieldTo", "(I)V"⟩
abbrev cX1_ageFilters : ByteArray := prog_3_method_9_code
def yX1_ageFilters : MethodName := ⟨RX1, "ageFilters", "(I)V"⟩
abbrev cX1_runClock : ByteArray := prog_3_method_10_code
def yX1_runClock : MethodName := ⟨RX1, "runClock", "(LGroupFilters$QueryLog;I)V"⟩
abbrev cX1_hearReport : ByteArray := prog_3_method_11_code
def yX1_hearReport : MethodName := ⟨RX1, "hearReport", "(LGroupFilters$QueryLog;III)V"⟩
abbrev cX1_hearToIn : ByteArray := prog_3_method_12_code
def yX1_hearToIn : MethodName := ⟨RX1, "hearToIn", "(LGroupFilters$QueryLog;II)V"⟩
abbrev cX1_hearToEx : ByteArray := prog_3_method_13_code
def yX1_hearToEx : MethodName := ⟨RX1, "hearToEx", "(LGroupFilters$QueryLog;II)V"⟩
abbrev cX1_hearBlock : ByteArray := prog_3_method_14_code
def yX1_hearBlock : MethodName := ⟨RX1, "hearBlock", "(LGroupFilters$QueryLog;II)V"⟩
abbrev cX1_askSources : ByteArray := prog_3_method_15_code
def yX1_askSources : MethodName := ⟨RX1, "askSources", "(LGroupFilters$QueryLog;II)V"⟩
abbrev cX1_askGroup : ByteArray := prog_3_method_16_code
def yX1_askGroup : MethodName := ⟨RX1, "askGroup", "(LGroupFilters$QueryLog;I)V"⟩
abbrev cX1_hearQuery : ByteArray := prog_3_method_17_code
def yX1_hearQuery : MethodName := ⟨RX1, "hearQuery", "(II)V"⟩
abbrev cX1_changeWish : ByteArray := prog_3_method_18_code
def yX1_changeWish : MethodName := ⟨RX1, "changeWish", "(LGroupFilters$QueryLog;IIZI)V"⟩
abbrev cX1_letAnswer : ByteArray := prog_3_method_19_code
def yX1_letAnswer : MethodName := ⟨RX1, "letAnswer", "(LGroupFilters$QueryLog;I)I"⟩
abbrev cX1_hasMemberFor : ByteArray := prog_3_method_20_code
def yX1_hasMemberFor : MethodName := ⟨RX1, "hasMemberFor", "(II)Z"⟩
def RX2 : String := "GroupFilters$Member"
def TX2 : u_T := fun k => match k with
  | 0 => ("GroupFilters$Member", "sets", "[I", true)
  | _ => ("GroupFilters$Member", "excludes", "[Z", true)
def tyX2 : Nat → FieldType := fun k => match k with
  | 0 => .array .int
  | _ => .array .boolean
abbrev wsX20 : List Cond := u_ws RX2 TX2 2
theorem nmX2 : ∀ a, a < 2 → ∀ b, b < 2 → a ≠ b → (TX2 a).2.1 ≠ (TX2 b).2.1 := by decide +kernel
theorem tyX2_ok : ∀ k, k < 2 → parseFieldDescriptor (TX2 k).2.2.1 = some (tyX2 k) := by decide +kernel
abbrev cX2_init : ByteArray := prog_4_method_1_code
def yX2_init : MethodName := ⟨RX2, "<init>", "()V"⟩
abbrev cX2_reset : ByteArray := prog_4_method_2_code
def yX2_reset : MethodName := ⟨RX2, "reset", "()V"⟩
abbrev cX2_wants : ByteArray := prog_4_method_3_code
def yX2_wants : MethodName := ⟨RX2, "wants", "(II)Z"⟩
def RX3 : String := "GroupFilters$QueryLog"
def TX3 : u_T := fun k => match k with
  | 0 => ("GroupFilters$QueryLog", "links", "[I", true)
  | 1 => ("GroupFilters$QueryLog", "groups", "[I", true)
  | 2 => ("GroupFilters$QueryLog", "sets", "[I", true)
  | 3 => ("GroupFilters$QueryLog", "ticks", "[I", true)
  | 4 => ("GroupFilters$QueryLog", "count", "I", false)
  | _ => ("GroupFilters$QueryLog", "now", "I", false)
def tyX3 : Nat → FieldType := fun k => match k with
  | 0 => .array .int
  | 1 => .array .int
  | 2 => .array .int
  | 3 => .array .int
  | 4 => .int
  | _ => .int
abbrev wsX30 : List Cond := u_ws RX3 TX3 6
theorem nmX3 : ∀ a, a < 6 → ∀ b, b < 6 → a ≠ b → (TX3 a).2.1 ≠ (TX3 b).2.1 := by decide +kernel
theorem tyX3_ok : ∀ k, k < 6 → parseFieldDescriptor (TX3 k).2.2.1 = some (tyX3 k) := by decide +kernel
abbrev cX3_init : ByteArray := prog_5_method_1_code
def yX3_init : MethodName := ⟨RX3, "<init>", "()V"⟩
abbrev cX3_reset : ByteArray := prog_5_method_2_code
def yX3_reset : MethodName := ⟨RX3, "reset", "()V"⟩
abbrev cX3_add : ByteArray := prog_5_method_3_code
def yX3_add : MethodName := ⟨RX3, "add", "(III)V"⟩
abbrev cX3_look : ByteArray := prog_5_method_4_code
def yX3_look : MethodName := ⟨RX3, "look", "(II)I"⟩
def RX4 : String := "GroupFilters"
def TX4 : u_T := fun k => match k with
  | 0 => ("GroupFilters", "links", "[LGroupFilters$Link;", true)
  | _ => ("GroupFilters", "log", "LGroupFilters$QueryLog;", true)
def tyX4 : Nat → FieldType := fun k => match k with
  | 0 => .array (.object "GroupFilters$Link")
  | _ => .object "GroupFilters$QueryLog"
abbrev wsX40 : List Cond := u_ws RX4 TX4 2
theorem nmX4 : ∀ a, a < 2 → ∀ b, b < 2 → a ≠ b → (TX4 a).2.1 ≠ (TX4 b).2.1 := by decide +kernel
theorem tyX4_ok : ∀ k, k < 2 → parseFieldDescriptor (TX4 k).2.2.1 = some (tyX4 k) := by decide +kernel
abbrev cX4_init : ByteArray := prog_1_method_1_code
def yX4_init : MethodName := ⟨RX4, "<init>", "(I)V"⟩
abbrev cX4_settings : ByteArray := prog_1_method_2_code
def yX4_settings : MethodName := ⟨RX4, "settings", "(IIII)I"⟩
abbrev cX4_report : ByteArray := prog_1_method_3_code
def yX4_report : MethodName := ⟨RX4, "report", "(IIII)I"⟩
abbrev cX4_query : ByteArray := prog_1_method_4_code
def yX4_query : MethodName := ⟨RX4, "query", "(IIIIZ)Z"⟩
abbrev cX4_tick : ByteArray := prog_1_method_5_code
def yX4_tick : MethodName := ⟨RX4, "tick", "(I)I"⟩
abbrev cX4_member : ByteArray := prog_1_method_6_code
def yX4_member : MethodName := ⟨RX4, "member", "(IIIZI)I"⟩
abbrev cX4_answer : ByteArray := prog_1_method_7_code
def yX4_answer : MethodName := ⟨RX4, "answer", "(II)I"⟩
abbrev cX4_wanted : ByteArray := prog_1_method_8_code
def yX4_wanted : MethodName := ⟨RX4, "wanted", "(III)Z"⟩
abbrev cX4_passed : ByteArray := prog_1_method_9_code
def yX4_passed : MethodName := ⟨RX4, "passed", "(III)I"⟩
abbrev cX4_mode : ByteArray := prog_1_method_10_code
def yX4_mode : MethodName := ⟨RX4, "mode", "(II)I"⟩
abbrev cX4_sources : ByteArray := prog_1_method_11_code
def yX4_sources : MethodName := ⟨RX4, "sources", "(IIZ)I"⟩
abbrev cX4_timer : ByteArray := prog_1_method_12_code
def yX4_timer : MethodName := ⟨RX4, "timer", "(III)I"⟩
abbrev cX4_groupTimer : ByteArray := prog_1_method_13_code
def yX4_groupTimer : MethodName := ⟨RX4, "groupTimer", "(II)I"⟩
abbrev cX4_sent : ByteArray := prog_1_method_14_code
def yX4_sent : MethodName := ⟨RX4, "sent", "()I"⟩
abbrev cX4_asked : ByteArray := prog_1_method_15_code
def yX4_asked : MethodName := ⟨RX4, "asked", "(II)I"⟩
abbrev cX4_told : ByteArray := prog_1_method_16_code
def yX4_told : MethodName := ⟨RX4, "told", "(II)I"⟩
abbrev cX4_clear : ByteArray := prog_1_method_17_code
def yX4_clear : MethodName := ⟨RX4, "clear", "()V"⟩
abbrev cX4_runClocks : ByteArray := prog_1_method_18_code
def yX4_runClocks : MethodName := ⟨RX4, "runClocks", "(I)V"⟩
abbrev cX4_filterAt : ByteArray := prog_1_method_19_code
def yX4_filterAt : MethodName := ⟨RX4, "filterAt", "(II)LGroupFilters$Filter;"⟩
abbrev cX4_checkPlace : ByteArray := prog_1_method_20_code
def yX4_checkPlace : MethodName := ⟨RX4, "checkPlace", "(III)V"⟩
abbrev cX4_checkIndex : ByteArray := prog_1_method_21_code
def yX4_checkIndex : MethodName := ⟨RX4, "checkIndex", "(II)V"⟩
abbrev cX4_checkNumber : ByteArray := prog_1_method_22_code
def yX4_checkNumber : MethodName := ⟨RX4, "checkNumber", "(III)V"⟩
abbrev cX4_holds : ByteArray := prog_1_method_23_code
def yX4_holds : MethodName := ⟨RX4, "holds", "(II)Z"⟩
def RX5 : String := "GroupFiltersModel"
def TX5 : u_T := fun k => match k with
  | 0 => ("GroupFiltersModel", "thrown", "I", false)
  | 1 => ("GroupFiltersModel", "links", "I", true)
  | 2 => ("GroupFiltersModel", "often", "[I", true)
  | 3 => ("GroupFiltersModel", "interval", "[I", true)
  | 4 => ("GroupFiltersModel", "delay", "[I", true)
  | 5 => ("GroupFiltersModel", "asker", "[I", true)
  | 6 => ("GroupFiltersModel", "away", "[I", true)
  | 7 => ("GroupFiltersModel", "clock", "[I", true)
  | 8 => ("GroupFiltersModel", "mode", "[I", true)
  | 9 => ("GroupFiltersModel", "groupTimer", "[I", true)
  | 10 => ("GroupFiltersModel", "place", "[I", true)
  | 11 => ("GroupFiltersModel", "timer", "[I", true)
  | 12 => ("GroupFiltersModel", "excludes", "[Z", true)
  | 13 => ("GroupFiltersModel", "wants", "[I", true)
  | 14 => ("GroupFiltersModel", "ticks", "I", false)
  | 15 => ("GroupFiltersModel", "sent", "I", false)
  | 16 => ("GroupFiltersModel", "askedLink", "[I", true)
  | 17 => ("GroupFiltersModel", "askedGroup", "[I", true)
  | 18 => ("GroupFiltersModel", "askedSet", "[I", true)
  | _ => ("GroupFiltersModel", "askedAt", "[I", true)
def tyX5 : Nat → FieldType := fun k => match k with
  | 0 => .int
  | 1 => .int
  | 2 => .array .int
  | 3 => .array .int
  | 4 => .array .int
  | 5 => .array .int
  | 6 => .array .int
  | 7 => .array .int
  | 8 => .array .int
  | 9 => .array .int
  | 10 => .array .int
  | 11 => .array .int
  | 12 => .array .boolean
  | 13 => .array .int
  | 14 => .int
  | 15 => .int
  | 16 => .array .int
  | 17 => .array .int
  | 18 => .array .int
  | _ => .array .int
abbrev wsX50 : List Cond := u_ws RX5 TX5 20
theorem nmX5 : ∀ a, a < 20 → ∀ b, b < 20 → a ≠ b → (TX5 a).2.1 ≠ (TX5 b).2.1 := by decide +kernel
theorem tyX5_ok : ∀ k, k < 20 → parseFieldDescriptor (TX5 k).2.2.1 = some (tyX5 k) := by decide +kernel
abbrev cX5_init : ByteArray := prog_7_method_1_code
def yX5_init : MethodName := ⟨RX5, "<init>", "(I)V"⟩
abbrev cX5_thrown : ByteArray := prog_7_method_2_code
def yX5_thrown : MethodName := ⟨RX5, "thrown", "()I"⟩
abbrev cX5_begin : ByteArray := prog_7_method_3_code
def yX5_begin : MethodName := ⟨RX5, "begin", "()V"⟩
abbrev cX5_isLink : ByteArray := prog_7_method_4_code
def yX5_isLink : MethodName := ⟨RX5, "isLink", "(I)Z"⟩
abbrev cX5_in : ByteArray := prog_7_method_5_code
def yX5_in : MethodName := ⟨RX5, "in", "(III)Z"⟩
abbrev cX5_grace : ByteArray := prog_7_method_6_code
def yX5_grace : MethodName := ⟨RX5, "grace", "(I)I"⟩
abbrev cX5_setOf : ByteArray := prog_7_method_7_code
def yX5_setOf : MethodName := ⟨RX5, "setOf", "(II)I"⟩
abbrev cX5_become : ByteArray := prog_7_method_8_code
def yX5_become : MethodName := ⟨RX5, "become", "(IIII)V"⟩
abbrev cX5_setTimers : ByteArray := prog_7_method_9_code
def yX5_setTimers : MethodName := ⟨RX5, "setTimers", "(III)V"⟩
abbrev cX5_lower : ByteArray := prog_7_method_10_code
def yX5_lower : MethodName := ⟨RX5, "lower", "(III)V"⟩
abbrev cX5_lowerGroup : ByteArray := prog_7_method_11_code
def yX5_lowerGroup : MethodName := ⟨RX5, "lowerGroup", "(II)V"⟩
abbrev cX5_send : ByteArray := prog_7_method_12_code
def yX5_send : MethodName := ⟨RX5, "send", "(III)V"⟩
abbrev cX5_asks : ByteArray := prog_7_method_13_code
def yX5_asks : MethodName := ⟨RX5, "asks", "(I)Z"⟩
abbrev cX5_ask : ByteArray := prog_7_method_14_code
def yX5_ask : MethodName := ⟨RX5, "ask", "(III)V"⟩
abbrev cX5_askGroup : ByteArray := prog_7_method_15_code
def yX5_askGroup : MethodName := ⟨RX5, "askGroup", "(II)V"⟩
abbrev cX5_including : ByteArray := prog_7_method_16_code
def yX5_including : MethodName := ⟨RX5, "including", "(IIII)V"⟩
abbrev cX5_excluding : ByteArray := prog_7_method_17_code
def yX5_excluding : MethodName := ⟨RX5, "excluding", "(IIII)V"⟩
abbrev cX5_reported : ByteArray := prog_7_method_18_code
def yX5_reported : MethodName := ⟨RX5, "reported", "(IIII)I"⟩
abbrev cX5_settings : ByteArray := prog_7_method_19_code
def yX5_settings : MethodName := ⟨RX5, "settings", "(IIII)I"⟩
abbrev cX5_report : ByteArray := prog_7_method_20_code
def yX5_report : MethodName := ⟨RX5, "report", "(IIII)I"⟩
abbrev cX5_query : ByteArray := prog_7_method_21_code
def yX5_query : MethodName := ⟨RX5, "query", "(IIIIZ)Z"⟩
abbrev cX5_tickRecord : ByteArray := prog_7_method_22_code
def yX5_tickRecord : MethodName := ⟨RX5, "tickRecord", "(I)V"⟩
abbrev cX5_tickLink : ByteArray := prog_7_method_23_code
def yX5_tickLink : MethodName := ⟨RX5, "tickLink", "(I)Z"⟩
abbrev cX5_tick : ByteArray := prog_7_method_24_code
def yX5_tick : MethodName := ⟨RX5, "tick", "(I)I"⟩
abbrev cX5_member : ByteArray := prog_7_method_25_code
def yX5_member : MethodName := ⟨RX5, "member", "(IIIZI)I"⟩
abbrev cX5_answer : ByteArray := prog_7_method_26_code
def yX5_answer : MethodName := ⟨RX5, "answer", "(II)I"⟩
abbrev cX5_wanted : ByteArray := prog_7_method_27_code
def yX5_wanted : MethodName := ⟨RX5, "wanted", "(III)Z"⟩
abbrev cX5_passed : ByteArray := prog_7_method_28_code
def yX5_passed : MethodName := ⟨RX5, "passed", "(III)I"⟩
abbrev cX5_knows : ByteArray := prog_7_method_29_code
def yX5_knows : MethodName := ⟨RX5, "knows", "(II)Z"⟩
abbrev cX5_mode : ByteArray := prog_7_method_30_code
def yX5_mode : MethodName := ⟨RX5, "mode", "(II)I"⟩
abbrev cX5_sources : ByteArray := prog_7_method_31_code
def yX5_sources : MethodName := ⟨RX5, "sources", "(IIZ)I"⟩
abbrev cX5_timer : ByteArray := prog_7_method_32_code
def yX5_timer : MethodName := ⟨RX5, "timer", "(III)I"⟩
abbrev cX5_groupTimer : ByteArray := prog_7_method_33_code
def yX5_groupTimer : MethodName := ⟨RX5, "groupTimer", "(II)I"⟩
abbrev cX5_sent : ByteArray := prog_7_method_34_code
def yX5_sent : MethodName := ⟨RX5, "sent", "()I"⟩
abbrev cX5_asked : ByteArray := prog_7_method_35_code
def yX5_asked : MethodName := ⟨RX5, "asked", "(II)I"⟩
abbrev cX5_told : ByteArray := prog_7_method_36_code
def yX5_told : MethodName := ⟨RX5, "told", "(II)I"⟩
abbrev cX5_clear : ByteArray := prog_7_method_37_code
def yX5_clear : MethodName := ⟨RX5, "clear", "()V"⟩
def RJ9 : String := "java/lang/Math"
abbrev cJ9_floorMod_7cf53 : ByteArray := prog_11_method_50_code
def yJ9_floorMod_7cf53 : MethodName := ⟨RJ9, "floorMod", "(II)I"⟩
abbrev cJ9_max_7cf53 : ByteArray := prog_11_method_65_code
def yJ9_max_7cf53 : MethodName := ⟨RJ9, "max", "(II)I"⟩
abbrev cJ9_min_7cf53 : ByteArray := prog_11_method_69_code
def yJ9_min_7cf53 : MethodName := ⟨RJ9, "min", "(II)I"⟩
def RJ0 : String := "java/lang/String"
def RL : String := "GroupFiltersLaw"
abbrev cL_cell : ByteArray := method_2_code
def yL_cell : MethodName := ⟨RL, "cell", "([II)I"⟩
abbrev cL_settings : ByteArray := method_3_code
def yL_settings : MethodName := ⟨RL, "settings", "(LGroupFilters;IIII[J)I"⟩
abbrev cL_report : ByteArray := method_4_code
def yL_report : MethodName := ⟨RL, "report", "(LGroupFilters;IIII[J)I"⟩
abbrev cL_query : ByteArray := method_5_code
def yL_query : MethodName := ⟨RL, "query", "(LGroupFilters;IIIIZ[J)I"⟩
abbrev cL_tick : ByteArray := method_6_code
def yL_tick : MethodName := ⟨RL, "tick", "(LGroupFilters;I[J)I"⟩
abbrev cL_member : ByteArray := method_7_code
def yL_member : MethodName := ⟨RL, "member", "(LGroupFilters;IIIZI[J)I"⟩
abbrev cL_answer : ByteArray := method_8_code
def yL_answer : MethodName := ⟨RL, "answer", "(LGroupFilters;II[J)I"⟩
abbrev cL_wanted : ByteArray := method_9_code
def yL_wanted : MethodName := ⟨RL, "wanted", "(LGroupFilters;III[J)I"⟩
abbrev cL_passed : ByteArray := method_10_code
def yL_passed : MethodName := ⟨RL, "passed", "(LGroupFilters;III[J)I"⟩
abbrev cL_mode : ByteArray := method_11_code
def yL_mode : MethodName := ⟨RL, "mode", "(LGroupFilters;II[J)I"⟩
abbrev cL_sources : ByteArray := method_12_code
def yL_sources : MethodName := ⟨RL, "sources", "(LGroupFilters;IIZ[J)I"⟩
abbrev cL_timer : ByteArray := method_13_code
def yL_timer : MethodName := ⟨RL, "timer", "(LGroupFilters;III[J)I"⟩
abbrev cL_groupTimer : ByteArray := method_14_code
def yL_groupTimer : MethodName := ⟨RL, "groupTimer", "(LGroupFilters;II[J)I"⟩
abbrev cL_asked : ByteArray := method_15_code
def yL_asked : MethodName := ⟨RL, "asked", "(LGroupFilters;II[J)I"⟩
abbrev cL_told : ByteArray := method_16_code
def yL_told : MethodName := ⟨RL, "told", "(LGroupFilters;II[J)I"⟩
abbrev cL_law : ByteArray := code
def yL_law : MethodName := ⟨RL, "law", "([I)Z"⟩
abbrev vwCl : List vw_C := [(RX0, TX0, 5), (RX1, TX1, 8), (RX2, TX2, 2), (RX3, TX3, 6), (RX4, TX4, 2), (RX5, TX5, 20)]
end
section
/-! ===== THE ENGINE: an abstract heap (cells by numbers), and a judgement q_A over W whose rules are one an instruction ===== -/
abbrev q_C : Type := (Nat × List Value) ⊕ ((Nat × List Int32) ⊕ ((Nat × List (Option Nat)) ⊕ (Nat × List Int64)))
abbrev q_H : Type := Nat → q_C
/-- the script: its length, its ints -/
abbrev q_S : Type := Nat × (Nat → Int32)
abbrev q_O : Type := Option Value ⊕ Nat
/-- own class, name, bytes, locals, result, frames, words, handlers -/
abbrev q_M : Type := String × MethodName × ByteArray × Nat × Option FieldType × Nat × Nat × List (Nat × Nat × Nat × Nat)
abbrev q_own (M : q_M) : String := M.1
abbrev q_nm (M : q_M) : MethodName := M.2.1
abbrev q_cc (M : q_M) : ByteArray := M.2.2.1
abbrev q_nL (M : q_M) : Nat := M.2.2.2.1
abbrev q_rt (M : q_M) : Option FieldType := M.2.2.2.2.1
abbrev q_fr (M : q_M) : Nat := M.2.2.2.2.2.1
abbrev q_lo (M : q_M) : Nat := M.2.2.2.2.2.2.1
abbrev q_hs (M : q_M) : List (Nat × Nat × Nat × Nat) := M.2.2.2.2.2.2.2
/-- a value by its abstract one: references are numbers of cells; a float stands for a reference of which nothing is known -/
def q_v (ads : List Nat) (v w : Value) : Prop := match v with
  | .int x => w = .int x
  | .null => w = .null
  | .ref i => ∃ a, ads[i + 1]? = some a ∧ w = .ref a
  | .float x => ∃ a, w = .ref a ∧ (x = 1 → ads[0]? = some a)
  | .long x => w = .long x
  | _ => False
def q_vs (ads : List Nat) : List Value → List Value → Prop
  | [], ws => ws = []
  | v :: vs, ws => ∃ w r, ws = w :: r ∧ q_v ads v w ∧ q_vs ads vs r
def q_le (ads ads' : List Nat) : Prop := ∀ (i a : Nat), ads[i]? = some a → ads'[i]? = some a
theorem q_le.rf {ads : List Nat} : q_le ads ads := fun _ _ h => h
theorem q_le.tr {a b c : List Nat} (h : q_le a b) (k : q_le b c) : q_le a c := fun i x q => k i x (h i x q)
theorem q_v.mono {ads ads' : List Nat} (hp : q_le ads ads') {v w : Value} (h : q_v ads v w) : q_v ads' v w := by
  cases v with
  | ref i =>
    obtain ⟨a, h1, h2⟩ := h
    exact ⟨a, hp _ _ h1, h2⟩
  | float x =>
    obtain ⟨a, h1, h2⟩ := h
    exact ⟨a, h1, fun q => hp _ _ (h2 q)⟩
  | _ => exact h
theorem q_vs.mono {ads ads' : List Nat} (hp : q_le ads ads') : ∀ {vs ws : List Value}, q_vs ads vs ws → q_vs ads' vs ws
  | [], _, h => h
  | _ :: _, _, ⟨w, r, e, h1, h2⟩ => ⟨w, r, e, h1.mono hp, q_vs.mono hp h2⟩
theorem q_v.cat {ads : List Nat} {v w : Value} (h : q_v ads v w) : w.category = v.category := by
  cases v with
  | int x => rw [show w = .int x from h]
  | long x => rw [show w = .long x from h]
  | null => rw [show w = .null from h]
  | ref i => obtain ⟨a, -, h2⟩ := h; rw [h2]; rfl
  | float b => obtain ⟨a, h2, -⟩ := h; rw [h2]; rfl
  | _ => exact h.elim
theorem q_vs.sum {ads : List Nat} : ∀ {vs ws : List Value}, q_vs ads vs ws → (ws.map fun v => v.category).sum = (vs.map fun v => v.category).sum
  | [], _, h => by rw [show _ = [] from h]
  | _ :: _, _, ⟨w, r, e, h1, h2⟩ => by
    subst e
    have h3 := q_vs.sum h2
    simp only [List.map_cons, List.sum_cons, h1.cat, h3]
theorem q_vs.len {ads : List Nat} : ∀ {vs ws : List Value}, q_vs ads vs ws → ws.length = vs.length
  | [], _, h => by rw [show _ = [] from h]
  | _ :: _, _, ⟨w, r, e, h1, h2⟩ => by
    subst e
    rw [List.length_cons, List.length_cons, q_vs.len h2]
theorem q_vs.app {ads : List Nat} : ∀ {vs vt ws wt : List Value}, q_vs ads vs ws → q_vs ads vt wt → q_vs ads (vs ++ vt) (ws ++ wt)
  | [], _, _, _, h, k => by rw [show _ = [] from h]; exact k
  | _ :: _, _, _, _, ⟨w, r, e, h1, h2⟩, k => by
    subst e
    exact ⟨w, _, rfl, h1, q_vs.app h2 k⟩
theorem q_vs.split {ads : List Nat} : ∀ {vs vt us : List Value}, q_vs ads (vs ++ vt) us → ∃ ws wt, us = ws ++ wt ∧ q_vs ads vs ws ∧ q_vs ads vt wt
  | [], _, us, h => ⟨[], us, rfl, rfl, h⟩
  | _ :: _, _, _, ⟨w, r, e, h1, h2⟩ => by
    obtain ⟨ws, wt, e2, k1, k2⟩ := q_vs.split h2
    exact ⟨w :: ws, wt, by rw [e, e2]; rfl, ⟨w, ws, rfl, h1, k1⟩, k2⟩
theorem q_vs.rev {ads : List Nat} : ∀ {vs ws : List Value}, q_vs ads vs ws → q_vs ads vs.reverse ws.reverse
  | [], _, h => by rw [show _ = [] from h]; rfl
  | _ :: _, _, ⟨w, r, e, h1, h2⟩ => by
    subst e
    rw [List.reverse_cons, List.reverse_cons]
    exact (q_vs.rev h2).app ⟨w, [], rfl, h1, rfl⟩
theorem q_vs.at {ads : List Nat} : ∀ {vs ws : List Value}, q_vs ads vs ws → ∀ {k : Nat} {v : Value}, vs[k]? = some v → ∃ w, ws[k]? = some w ∧ q_v ads v w
  | [], _, _, k, v, hk => by simp at hk
  | _ :: _, _, ⟨w, r, e, h1, h2⟩, k, v, hk => by
    subst e
    cases k with
    | zero =>
      rw [List.getElem?_cons_zero] at hk
      cases hk
      exact ⟨w, rfl, h1⟩
    | succ k =>
      rw [List.getElem?_cons_succ] at hk
      obtain ⟨w2, q1, q2⟩ := q_vs.at h2 hk
      exact ⟨w2, by rw [List.getElem?_cons_succ]; exact q1, q2⟩
theorem q_vs.set {ads : List Nat} : ∀ {vs ws : List Value}, q_vs ads vs ws → ∀ {k : Nat} {v w : Value}, q_v ads v w → q_vs ads (vs.set k v) (ws.set k w)
  | [], _, h, k, v, w, hv => by rw [show _ = [] from h]; rfl
  | _ :: _, _, ⟨w, r, e, h1, h2⟩, k, v, w2, hv => by
    subst e
    cases k with
    | zero => exact ⟨w2, r, rfl, hv, h2⟩
    | succ k => exact ⟨w, _, rfl, h1, q_vs.set h2 hv⟩
/-- the locals: .retAddr stands for 'nothing known' -/
def q_L (ads : List Nat) (nL : Nat) (L : List Value) (ls : Array Slot) : Prop := ls.size = nL ∧ lv_wf ls ∧ ∀ (i : Nat) (v : Value), L[i]? = some v → (∃ k, v = .retAddr k) ∨ ∃ w, q_v ads v w ∧ w.category = 1 ∧ ls[i]? = some (.val w)
theorem q_L.mono {ads ads' : List Nat} (hp : q_le ads ads') {nL : Nat} {L : List Value} {ls : Array Slot} (h : q_L ads nL L ls) : q_L ads' nL L ls :=
  ⟨h.1, h.2.1, fun i v hv => (h.2.2 i v hv).imp id (fun ⟨w, h1, hc, h2⟩ => ⟨w, h1.mono hp, hc, h2⟩)⟩
theorem q_L.int {ads : List Nat} {nL : Nat} {L : List Value} {ls : Array Slot} (h : q_L ads nL L ls) {i : Nat} {x : Int32} (hi : L[i]? = some (.int x)) : ls[i]? = some (.val (.int x)) := by
  rcases h.2.2 i _ hi with ⟨k, e⟩ | ⟨w, h1, -, h2⟩
  · cases e
  · rw [h2, show w = .int x from h1]
theorem q_L.ref {ads : List Nat} {nL : Nat} {L : List Value} {ls : Array Slot} (h : q_L ads nL L ls) {i j : Nat} (hi : L[i]? = some (.ref j)) : ∃ a, ads[j + 1]? = some a ∧ ls[i]? = some (.val (.ref a)) := by
  rcases h.2.2 i _ hi with ⟨k, e⟩ | ⟨w, h1, -, h2⟩
  · cases e
  · obtain ⟨a, q1, q2⟩ := h1
    exact ⟨a, q1, by rw [h2, q2]⟩
def q_all (ls : Array Slot) : List (Nat × Value) := (List.range ls.size).filterMap (fun (i : Nat) => match (ls[i]? : Option Slot) with | some (Slot.val v) => some (i, v) | _ => none)
theorem q_all_has {ls : Array Slot} {nL : Nat} (h1 : ls.size = nL) (h2 : lv_wf ls) : lv_has ls nL (q_all ls) := by
  refine ⟨h1, h2, fun q hq => ?_⟩
  obtain ⟨i, -, hi⟩ := List.mem_filterMap.mp hq
  split at hi
  next v hv => cases hi; exact hv
  next => cases hi
theorem q_all_mem {ls : Array Slot} {i : Nat} {v : Value} (h : ls[i]? = some (.val v)) : (i, v) ∈ q_all ls := by
  refine List.mem_filterMap.mpr ⟨i, List.mem_range.mpr (Array.getElem?_eq_some_iff.mp h).1, ?_⟩
  rw [h]
theorem q_L.put {ads : List Nat} {nL : Nat} {L : List Value} {ls ls' : Array Slot} (h : q_L ads nL L ls) {i : Nat} {v w : Value} (hv : q_v ads v w) (hc1 : w.category = 1)
    (h' : lv_has ls' nL ((i, w) :: (q_all ls).filter (fun q => !(q.1 == i) && !(q.1 + 1 == i && q.2.category == 2)))) : q_L ads nL (L.set i v) ls' := by
  refine ⟨h'.1, h'.2.1, fun j u hu => ?_⟩
  by_cases hj : i = j
  · subst hj
    have hl : i < L.length := by
      have := (List.getElem?_eq_some_iff.mp hu).1
      rw [List.length_set] at this
      exact this
    rw [List.getElem?_set_self hl] at hu
    cases hu
    exact Or.inr ⟨w, hv, hc1, h'.2.2 (i, w) List.mem_cons_self⟩
  · rw [List.getElem?_set_ne hj] at hu
    rcases h.2.2 j u hu with h3 | ⟨w2, h3, hc, h4⟩
    · exact Or.inl h3
    · refine Or.inr ⟨w2, h3, hc, h'.2.2 (j, w2) (List.mem_cons_of_mem _ (List.mem_filter.mpr ⟨q_all_mem h4, ?_⟩))⟩
      have hne : ¬ j = i := fun q => hj q.symm
      simp [hne, hc]
def q_E (dT : Nat → ClassId) (ads : List Nat) (c : q_C) (e : va_E) : Prop := match c with
  | .inl o => ∃ gs, e = .inr (o.1, gs) ∧ q_vs ads o.2 gs
  | .inr (.inl x) => e = .inl (dT x.1, x.2.length, .inl (fun j => x.2.getD j 0))
  | .inr (.inr (.inr x)) => e = .inl (dT x.1, x.2.length, .inr (.inl (fun j => x.2.getD j 0)))
  | .inr (.inr (.inl x)) => ∃ f : Nat → Option Nat, e = .inl (dT x.1, x.2.length, .inr (.inr (.inr (.inr f)))) ∧ ∀ (j : Nat) (r : Option Nat), x.2[j]? = some r → (r = none ∧ f j = none) ∨ ∃ i a, r = some i ∧ ads[i + 1]? = some a ∧ f j = some a
theorem q_E.mono {dT : Nat → ClassId} {ads ads' : List Nat} (hp : q_le ads ads') {c : q_C} {e : va_E} (h : q_E dT ads c e) : q_E dT ads' c e := by
  rcases c with o | x | x | x
  · obtain ⟨gs, h1, h2⟩ := h
    exact ⟨gs, h1, h2.mono hp⟩
  · exact h
  · obtain ⟨f, h1, h2⟩ := h
    exact ⟨f, h1, fun j r hr => (h2 j r hr).imp id (fun ⟨i, a, q1, q2, q3⟩ => ⟨i, a, q1, hp _ _ q2, q3⟩)⟩
  · exact h
abbrev q_ads (sb : Nat) (ws : va_W) : List Nat := sb :: ws.map Prod.fst
theorem q_ads_at {sb : Nat} {ws : va_W} {i a : Nat} {e : va_E} (h : ws[i]? = some (a, e)) : (q_ads sb ws)[i + 1]? = some a := by
  rw [List.getElem?_cons_succ, List.getElem?_map, h]; rfl
theorem q_ads_set {sb : Nat} {ws : va_W} {i a : Nat} {e e' : va_E} (h : ws[i]? = some (a, e)) : q_ads sb (ws.set i (a, e')) = q_ads sb ws := by
  refine congrArg (fun z => sb :: z) (List.ext_getElem? fun j => ?_)
  by_cases hj : i = j
  · subst hj
    rw [List.getElem?_map, List.getElem?_map, List.getElem?_set_self (List.getElem?_eq_some_iff.mp h).1, h]
    rfl
  · rw [List.getElem?_map, List.getElem?_map, List.getElem?_set_ne hj]
theorem q_ads_push {sb : Nat} {ws : va_W} {x : Nat × va_E} : q_le (q_ads sb ws) (q_ads sb (ws ++ [x])) := by
  intro i a h
  have hl := (List.getElem?_eq_some_iff.mp h).1
  show (sb :: (ws ++ [x]).map Prod.fst)[i]? = some a
  rw [List.map_append, ← List.cons_append, List.getElem?_append_left hl]
  exact h
def q_up (h : q_H) (i : Nat) (c : q_C) : q_H := fun j => if j = i then c else h j
end
section
/-! ===== THE ENGINE, second: the words, the world, the judgement ===== -/
def q_okw (w : Cond) : Bool := match w with
  | .fieldLinkNest .. => true
  | .methodLinkNest .. => true
  | .castable .. => true
  | .declares .. => true
  | .arrayOver (.object _) => true
  | w => goodWord w
def q_in (w : Cond) : Prop := w ∈ lw_tbl ∧ q_okw w = true
theorem q_in_at {w : Cond} (i : Nat) (h : lw_tbl[i]? = some w) (h2 : q_okw w = true) : q_in w := ⟨List.mem_of_getElem? h, h2⟩
def q_T (s : State) : Prop := ∀ w, q_in w → va_Nw w s
theorem q_okw_moved {w : Cond} (h : q_okw w = true) {s U : State} (hW : s.WarmedH U.vm) (hn : va_Nw w s) : va_Nw w U := by
  by_cases hg : goodWord w = true
  · exact word_at hW (good_of_word hg) hn
  · unfold q_okw at h
    split at h
    · exact va_Nw.warmF hW hn
    · exact va_Nw.warmM hW hn
    · exact va_Nw.warmC hW hn
    · exact va_Nw.warmD hW hn
    · exact va_AO.moved hW.alike hn
    · exact absurd h hg
theorem q_T.moved {s U : State} (hW : s.WarmedH U.vm) (h : q_T s) : q_T U := fun w hw => q_okw_moved hw.2 hW (h w hw)
theorem q_use {w : Cond} (hw : q_okw w = true) {args : Array Value} {s : State} (h : va_Nw w s) : w.before args s = true := by
  by_cases hg : goodWord w = true
  · exact word_at (State.WarmedH.refl s) (good_of_word hg) h
  · unfold q_okw at hw
    split at hw
    · exact va_Nw.use rfl h
    · exact va_Nw.use rfl h
    · exact va_Nw.use rfl h
    · exact va_Nw.use rfl h
    · exact h
    · exact absurd hw hg
theorem q_T.at {s : State} (h : q_T s) {w : Cond} (hw : q_in w) (args : Array Value) : w.before args s = true := q_use hw.2 (h w hw)
def q_ty : List FieldType := [.int, .boolean, .object "GroupFilters$Link", .object "GroupFilters$Filter", .object "GroupFilters$Member", .long]
def q_ex : List String := ["java/lang/IndexOutOfBoundsException", "java/lang/IllegalArgumentException"]
abbrev q_tx0 : String := "there is no such link, group, source, member or query"
abbrev q_tx1 : String := "a number is none that is told"
def q_X (H0 : Heap) (l : Launch) (s : State) : Prop := l.stackTraces = false ∧ vx_Zq Bundle.tN "UNASSIGNED_STACK" Bundle.steD (fun q => H0.size ≤ q) s H0 ∧ vx_Zq Bundle.tN "SUPPRESSED_SENTINEL" Bundle.listD (fun q => H0.size ≤ q) s H0 ∧
  (∃ sa, vk_R "GroupFilters" 147 q_tx0 sa s) ∧ (∃ sa, vk_R "GroupFilters" 154 q_tx1 sa s) ∧ va_Nc "java/lang/IllegalArgumentException" "java/lang/IndexOutOfBoundsException" s ∧ va_Nc "java/lang/IndexOutOfBoundsException" "java/lang/IllegalArgumentException" s
theorem q_Nc_moved {C T : String} {u U : State} (hvm : u.vm.Alike U.vm) (h : va_Nc C T u) : va_Nc C T U := by
  obtain ⟨c, t, h1, h2, h3⟩ := h
  exact ⟨c, t, by rw [hvm.findClass]; exact h1, by rw [hvm.findClass]; exact h2, by rw [hvm.assignable]; exact h3⟩
theorem q_X.moved {H0 : Heap} {l : Launch} {s U : State} (hW : s.WarmedH U.vm) (h : q_X H0 l s) : q_X H0 l U := by
  obtain ⟨h1, h2, h3, ⟨a, h4⟩, ⟨b, h5⟩, h6, h7⟩ := h
  exact ⟨h1, vx_Zq.moved hW.alike h2, vx_Zq.moved hW.alike h3, ⟨a, vk_R.warm hW h4⟩, ⟨b, vk_R.warm hW h5⟩, q_Nc_moved hW.alike h6, q_Nc_moved hW.alike h7⟩
abbrev q_tys (dT : Nat → ClassId) : List (ClassId × FieldType) := (List.range q_ty.length).map (fun t => (dT t, q_ty.getD t .int))
theorem q_tys_at {dT : Nat → ClassId} {t : Nat} {ty : FieldType} (h : q_ty[t]? = some ty) : (q_tys dT)[t]? = some (dT t, ty) := by
  have hl := (List.getElem?_eq_some_iff.mp h).1
  rw [List.getElem?_map, List.getElem?_range hl]
  simp [List.getD_eq_getElem?_getD, h]
/-- what may be touched: cells of this run -/
def q_Z (H0 : Heap) (s : State) : Nat → Prop := fun q => H0.size ≤ q
def q_W (D : va_G) (dT : Nat → ClassId) (H0 : Heap) (s : State) (h : q_H) (n sb : Nat) (ws : va_W) (H : Heap) (locs : List Loc) : Prop :=
  ws.length = n ∧ (∀ i, i < n → ∃ a e, ws[i]? = some (a, e) ∧ q_E dT (q_ads sb ws) (h i) e) ∧ va_P D vwCl ws H ∧ va_D (q_Z H0 s) ws ∧ va_S (q_Z H0 s) s.heap H locs
def q_F (Sc : q_S) (M : q_M) (D : va_G) (dT : Nat → ClassId) (H0 : Heap) (sb : Nat) (p : Program) (l : Launch) (R : Room) (s : State) (m : MethodId) (meth : Method) (c : Code) : Prop :=
  p.tables.exec = Jvm.exec ∧ c.code = q_cc M ∧ c.maxLocals = q_nL M ∧ meth.sig.returnType = q_rt M ∧ meth.locks = false ∧ s.vm.findClass (q_own M) = some m.cls ∧ q_T s ∧ va_K D vwCl (q_tys dT) s ∧ q_fr M ≤ R.frames ∧ q_lo M ≤ R.locals ∧
  c.exceptionTable.toList.map (fun x => (x.startPc, x.endPc, x.handlerPc, x.catchType)) = q_hs M ∧ meth.name = (q_nm M).name ∧ H0.size ≤ s.heap.size ∧ (∀ q : Nat, q < H0.size → s.heap[q]? = H0[q]?) ∧ q_X H0 l s ∧ sb < H0.size ∧ va_X sb Sc.1 Sc.2 s H0
def q_R (ads : List Nat) (O : q_O) (o : Outcome) (t : State) : Prop := match O with
  | .inl none => o = .returned none
  | .inl (some v) => ∃ w, o = .returned (some w) ∧ q_v ads v w
  | .inr k => ∃ (x : Addr) (cell : Cell) (X : String), q_ex[k]? = some X ∧ o = .threw x ∧ t.heap[x]? = some cell ∧ t.vm.findClass X = some cell.cls ∧ cell.vm = .none
def q_End (D : va_G) (dT : Nat → ClassId) (H0 : Heap) (s : State) (below : List Frame) (sb : Nat) (ads0 : List Nat) (kc ks : Nat) (Q : q_O → q_H → Nat → Prop) : State → Prop := fun t =>
  ∃ (o : Outcome) (L : List Loc) (h : q_H) (n : Nat) (ws : va_W) (O : q_O), t.status = .running ∧ Ended t below o ∧ s.WarmedH t.vm ∧ s.sameButNew ({ t with vm := s.vm } : State) L kc ks ∧ Q O h n ∧ q_W D dT H0 s h n sb ws t.heap L ∧ q_le ads0 (q_ads sb ws) ∧ q_R (q_ads sb ws) O o t
def q_G (Sc : q_S) (M : q_M) (L st : List Value) (h : q_H) (n kc ks : Nat) (D : va_G) (dT : Nat → ClassId) (H0 : Heap) (p : Program) (l : Launch) (R : Room) (s : State) (m : MethodId) (meth : Method) (c : Code) (H : Heap) (locs : List Loc) (cells slots : Nat) (ls : Array Slot) (st' : List Value) (sb : Nat) (ws : va_W) (ads0 : List Nat) (kc' ks' : Nat) : Prop :=
  q_F Sc M D dT H0 sb p l R s m meth c ∧ q_W D dT H0 s h n sb ws H locs ∧ q_L (q_ads sb ws) (q_nL M) L ls ∧ q_vs (q_ads sb ws) st st' ∧ q_le ads0 (q_ads sb ws) ∧ cells + kc ≤ kc' ∧ slots + ks ≤ ks' ∧ kc' ≤ R.cells ∧ ks' ≤ R.slots
def q_A (Sc : q_S) (M : q_M) (pc : Nat) (L st : List Value) (h : q_H) (n kc ks : Nat) (Q : q_O → q_H → Nat → Prop) : Prop :=
  ∀ (D : va_G) (dT : Nat → ClassId) (H0 : Heap) (p : Program) (l : Launch) (e : Env) (R : Room) (s : State) (m : MethodId) (args : Array Value) (below : List Frame) (meth : Method) (c : Code) (H : Heap) (locs : List Loc) (cells slots : Nat) (ls : Array Slot) (st' : List Value) (sb : Nat) (ws : va_W) (ads0 : List Nat) (kc' ks' : Nat),
    q_G Sc M L st h n kc ks D dT H0 p l R s m meth c H locs cells slots ls st' sb ws ads0 kc' ks' →
    W p l e R s m args below meth c H locs cells slots (q_End D dT H0 s below sb ads0 kc' ks' Q) (F0 m pc ls st')
theorem q_mono {Sc : q_S} {M : q_M} {pc : Nat} {L st : List Value} {h : q_H} {n kc ks : Nat} {Q Q' : q_O → q_H → Nat → Prop} (hq : ∀ O h n, Q O h n → Q' O h n) (k : q_A Sc M pc L st h n kc ks Q) : q_A Sc M pc L st h n kc ks Q' := by
  intro D dT H0 p l e R s m args below meth c H locs cells slots ls st' sb ws ads0 kc' ks' g T hT X
  obtain ⟨t, a, o, L', h', n', ws', O, b1, b2, b3, b4, b5, b6⟩ := k D dT H0 p l e R s m args below meth c H locs cells slots ls st' sb ws ads0 kc' ks' g T hT X
  exact ⟨t, a, o, L', h', n', ws', O, b1, b2, b3, b4, hq _ _ _ b5, b6⟩
theorem q_less {Sc : q_S} {M : q_M} {pc : Nat} {L st : List Value} {h : q_H} {n kc ks kc1 ks1 : Nat} {Q : q_O → q_H → Nat → Prop} (h1 : kc1 ≤ kc) (h2 : ks1 ≤ ks) (k : q_A Sc M pc L st h n kc1 ks1 Q) : q_A Sc M pc L st h n kc ks Q := by
  intro D dT H0 p l e R s m args below meth c H locs cells slots ls st' sb ws ads0 kc' ks' g
  obtain ⟨g1, g2, g3, g4, g5, g6, g7, g8, g9⟩ := g
  exact k D dT H0 p l e R s m args below meth c H locs cells slots ls st' sb ws ads0 kc' ks' ⟨g1, g2, g3, g4, g5, by omega, by omega, g8, g9⟩
section QR
variable {Sc : q_S} {M : q_M} {pc : Nat} {L st : List Value} {h : q_H} {n kc ks : Nat} {Q : q_O → q_H → Nat → Prop}

theorem q_iadd {x y : Int32} (hd : decode (q_cc M) pc = .ok (.iadd, 1)) (k : q_A Sc M (pc + 1) L (.int (x + y) :: st) h n kc ks Q) : q_A Sc M pc L (.int y :: .int x :: st) h n kc ks Q := by
  intro D dT H0 p l e R s m args below meth c H locs cells slots ls st' sb ws ads0 kc' ks' g
  obtain ⟨hF, hW, hL, ⟨_, _, rfl, rfl, _, _, rfl, rfl, hS⟩, hr⟩ := g
  exact lv_iadd hF.1 hF.2.1 hd (k D dT H0 p l e R s m args below meth c H locs cells slots ls _ sb ws ads0 kc' ks' ⟨hF, hW, hL, ⟨_, _, rfl, rfl, hS⟩, hr⟩)
theorem q_isub {x y : Int32} (hd : decode (q_cc M) pc = .ok (.isub, 1)) (k : q_A Sc M (pc + 1) L (.int (x - y) :: st) h n kc ks Q) : q_A Sc M pc L (.int y :: .int x :: st) h n kc ks Q := by
  intro D dT H0 p l e R s m args below meth c H locs cells slots ls st' sb ws ads0 kc' ks' g
  obtain ⟨hF, hW, hL, ⟨_, _, rfl, rfl, _, _, rfl, rfl, hS⟩, hr⟩ := g
  exact lv_isub hF.1 hF.2.1 hd (k D dT H0 p l e R s m args below meth c H locs cells slots ls _ sb ws ads0 kc' ks' ⟨hF, hW, hL, ⟨_, _, rfl, rfl, hS⟩, hr⟩)
theorem q_imul {x y : Int32} (hd : decode (q_cc M) pc = .ok (.imul, 1)) (k : q_A Sc M (pc + 1) L (.int (x * y) :: st) h n kc ks Q) : q_A Sc M pc L (.int y :: .int x :: st) h n kc ks Q := by
  intro D dT H0 p l e R s m args below meth c H locs cells slots ls st' sb ws ads0 kc' ks' g
  obtain ⟨hF, hW, hL, ⟨_, _, rfl, rfl, _, _, rfl, rfl, hS⟩, hr⟩ := g
  exact lv_imul hF.1 hF.2.1 hd (k D dT H0 p l e R s m args below meth c H locs cells slots ls _ sb ws ads0 kc' ks' ⟨hF, hW, hL, ⟨_, _, rfl, rfl, hS⟩, hr⟩)
theorem q_iand {x y : Int32} (hd : decode (q_cc M) pc = .ok (.iand, 1)) (k : q_A Sc M (pc + 1) L (.int (x &&& y) :: st) h n kc ks Q) : q_A Sc M pc L (.int y :: .int x :: st) h n kc ks Q := by
  intro D dT H0 p l e R s m args below meth c H locs cells slots ls st' sb ws ads0 kc' ks' g
  obtain ⟨hF, hW, hL, ⟨_, _, rfl, rfl, _, _, rfl, rfl, hS⟩, hr⟩ := g
  exact lv_iand hF.1 hF.2.1 hd (k D dT H0 p l e R s m args below meth c H locs cells slots ls _ sb ws ads0 kc' ks' ⟨hF, hW, hL, ⟨_, _, rfl, rfl, hS⟩, hr⟩)
theorem q_ior {x y : Int32} (hd : decode (q_cc M) pc = .ok (.ior, 1)) (k : q_A Sc M (pc + 1) L (.int (x ||| y) :: st) h n kc ks Q) : q_A Sc M pc L (.int y :: .int x :: st) h n kc ks Q := by
  intro D dT H0 p l e R s m args below meth c H locs cells slots ls st' sb ws ads0 kc' ks' g
  obtain ⟨hF, hW, hL, ⟨_, _, rfl, rfl, _, _, rfl, rfl, hS⟩, hr⟩ := g
  exact lv_ior hF.1 hF.2.1 hd (k D dT H0 p l e R s m args below meth c H locs cells slots ls _ sb ws ads0 kc' ks' ⟨hF, hW, hL, ⟨_, _, rfl, rfl, hS⟩, hr⟩)
theorem q_ixor {x y : Int32} (hd : decode (q_cc M) pc = .ok (.ixor, 1)) (k : q_A Sc M (pc + 1) L (.int (x ^^^ y) :: st) h n kc ks Q) : q_A Sc M pc L (.int y :: .int x :: st) h n kc ks Q := by
  intro D dT H0 p l e R s m args below meth c H locs cells slots ls st' sb ws ads0 kc' ks' g
  obtain ⟨hF, hW, hL, ⟨_, _, rfl, rfl, _, _, rfl, rfl, hS⟩, hr⟩ := g
  exact lv_ixor hF.1 hF.2.1 hd (k D dT H0 p l e R s m args below meth c H locs cells slots ls _ sb ws ads0 kc' ks' ⟨hF, hW, hL, ⟨_, _, rfl, rfl, hS⟩, hr⟩)
theorem q_ishl {x y : Int32} (hd : decode (q_cc M) pc = .ok (.ishl, 1)) (k : q_A Sc M (pc + 1) L (.int (x <<< (y &&& 31)) :: st) h n kc ks Q) : q_A Sc M pc L (.int y :: .int x :: st) h n kc ks Q := by
  intro D dT H0 p l e R s m args below meth c H locs cells slots ls st' sb ws ads0 kc' ks' g
  obtain ⟨hF, hW, hL, ⟨_, _, rfl, rfl, _, _, rfl, rfl, hS⟩, hr⟩ := g
  exact lv_ishl hF.1 hF.2.1 hd (k D dT H0 p l e R s m args below meth c H locs cells slots ls _ sb ws ads0 kc' ks' ⟨hF, hW, hL, ⟨_, _, rfl, rfl, hS⟩, hr⟩)
theorem q_ishr {x y : Int32} (hd : decode (q_cc M) pc = .ok (.ishr, 1)) (k : q_A Sc M (pc + 1) L (.int (x >>> (y &&& 31)) :: st) h n kc ks Q) : q_A Sc M pc L (.int y :: .int x :: st) h n kc ks Q := by
  intro D dT H0 p l e R s m args below meth c H locs cells slots ls st' sb ws ads0 kc' ks' g
  obtain ⟨hF, hW, hL, ⟨_, _, rfl, rfl, _, _, rfl, rfl, hS⟩, hr⟩ := g
  exact lv_ishr hF.1 hF.2.1 hd (k D dT H0 p l e R s m args below meth c H locs cells slots ls _ sb ws ads0 kc' ks' ⟨hF, hW, hL, ⟨_, _, rfl, rfl, hS⟩, hr⟩)
theorem q_idiv {x y : Int32} (hd : decode (q_cc M) pc = .ok (.idiv, 1)) (hy : ¬ y = 0) (k : q_A Sc M (pc + 1) L (.int (x / y) :: st) h n kc ks Q) : q_A Sc M pc L (.int y :: .int x :: st) h n kc ks Q := by
  intro D dT H0 p l e R s m args below meth c H locs cells slots ls st' sb ws ads0 kc' ks' g
  obtain ⟨hF, hW, hL, ⟨_, _, rfl, rfl, _, _, rfl, rfl, hS⟩, hr⟩ := g
  exact lv_idiv hF.1 hF.2.1 hd hy (k D dT H0 p l e R s m args below meth c H locs cells slots ls _ sb ws ads0 kc' ks' ⟨hF, hW, hL, ⟨_, _, rfl, rfl, hS⟩, hr⟩)
theorem q_irem {x y : Int32} (hd : decode (q_cc M) pc = .ok (.irem, 1)) (hy : ¬ y = 0) (k : q_A Sc M (pc + 1) L (.int (x - x / y * y) :: st) h n kc ks Q) : q_A Sc M pc L (.int y :: .int x :: st) h n kc ks Q := by
  intro D dT H0 p l e R s m args below meth c H locs cells slots ls st' sb ws ads0 kc' ks' g
  obtain ⟨hF, hW, hL, ⟨_, _, rfl, rfl, _, _, rfl, rfl, hS⟩, hr⟩ := g
  exact lv_irem hF.1 hF.2.1 hd hy (k D dT H0 p l e R s m args below meth c H locs cells slots ls _ sb ws ads0 kc' ks' ⟨hF, hW, hL, ⟨_, _, rfl, rfl, hS⟩, hr⟩)
theorem q_ineg {x : Int32} (hd : decode (q_cc M) pc = .ok (.ineg, 1)) (k : q_A Sc M (pc + 1) L (.int (-x) :: st) h n kc ks Q) : q_A Sc M pc L (.int x :: st) h n kc ks Q := by
  intro D dT H0 p l e R s m args below meth c H locs cells slots ls st' sb ws ads0 kc' ks' g
  obtain ⟨hF, hW, hL, ⟨_, _, rfl, rfl, hS⟩, hr⟩ := g
  exact lv_ineg hF.1 hF.2.1 hd (k D dT H0 p l e R s m args below meth c H locs cells slots ls _ sb ws ads0 kc' ks' ⟨hF, hW, hL, ⟨_, _, rfl, rfl, hS⟩, hr⟩)
theorem q_iconst {z : Int} {v : Int32} (hd : decode (q_cc M) pc = .ok (.iconst z, 1)) (hv : Int32.ofInt z = v) (k : q_A Sc M (pc + 1) L (.int v :: st) h n kc ks Q) : q_A Sc M pc L (st) h n kc ks Q := by
  intro D dT H0 p l e R s m args below meth c H locs cells slots ls st' sb ws ads0 kc' ks' g
  obtain ⟨hF, hW, hL, hS, hr⟩ := g
  exact lv_iconst hF.1 hF.2.1 hd hv (k D dT H0 p l e R s m args below meth c H locs cells slots ls _ sb ws ads0 kc' ks' ⟨hF, hW, hL, ⟨_, _, rfl, rfl, hS⟩, hr⟩)
theorem q_bipush {z : Int} {v : Int32} (hd : decode (q_cc M) pc = .ok (.bipush z, 2)) (hv : (Int8.ofInt z).toInt32 = v) (k : q_A Sc M (pc + 2) L (.int v :: st) h n kc ks Q) : q_A Sc M pc L (st) h n kc ks Q := by
  intro D dT H0 p l e R s m args below meth c H locs cells slots ls st' sb ws ads0 kc' ks' g
  obtain ⟨hF, hW, hL, hS, hr⟩ := g
  exact lv_bipush hF.1 hF.2.1 hd hv (k D dT H0 p l e R s m args below meth c H locs cells slots ls _ sb ws ads0 kc' ks' ⟨hF, hW, hL, ⟨_, _, rfl, rfl, hS⟩, hr⟩)
theorem q_sipush {z : Int} {v : Int32} (hd : decode (q_cc M) pc = .ok (.sipush z, 3)) (hv : (Int16.ofInt z).toInt32 = v) (k : q_A Sc M (pc + 3) L (.int v :: st) h n kc ks Q) : q_A Sc M pc L (st) h n kc ks Q := by
  intro D dT H0 p l e R s m args below meth c H locs cells slots ls st' sb ws ads0 kc' ks' g
  obtain ⟨hF, hW, hL, hS, hr⟩ := g
  exact lv_sipush hF.1 hF.2.1 hd hv (k D dT H0 p l e R s m args below meth c H locs cells slots ls _ sb ws ads0 kc' ks' ⟨hF, hW, hL, ⟨_, _, rfl, rfl, hS⟩, hr⟩)
theorem q_ldc {ix : Nat} {v : Int32} (hd : decode (q_cc M) pc = .ok (.ldc ix, 2)) (hw : q_in (Cond.constant (q_own M) ix v)) (k : q_A Sc M (pc + 2) L (.int v :: st) h n kc ks Q) : q_A Sc M pc L (st) h n kc ks Q := by
  intro D dT H0 p l e R s m args below meth c H locs cells slots ls st' sb ws ads0 kc' ks' g
  obtain ⟨hF, hW, hL, hS, hr⟩ := g
  exact lv_ldc hF.1 hF.2.1 hF.2.2.2.2.2.1 (hF.2.2.2.2.2.2.1.at hw args) hd (k D dT H0 p l e R s m args below meth c H locs cells slots ls _ sb ws ads0 kc' ks' ⟨hF, hW, hL, ⟨_, _, rfl, rfl, hS⟩, hr⟩)
theorem q_iload_n {j : Fin 4} {x : Int32} (hd : decode (q_cc M) pc = .ok (.iload_n j, 1)) (hl : L[(j : Nat)]? = some (.int x)) (k : q_A Sc M (pc + 1) L (.int x :: st) h n kc ks Q) : q_A Sc M pc L (st) h n kc ks Q := by
  intro D dT H0 p l e R s m args below meth c H locs cells slots ls st' sb ws ads0 kc' ks' g
  obtain ⟨hF, hW, hL, hS, hr⟩ := g
  exact lv_iload_n hF.1 hF.2.1 hd rfl (hL.int hl) (k D dT H0 p l e R s m args below meth c H locs cells slots ls _ sb ws ads0 kc' ks' ⟨hF, hW, hL, ⟨_, _, rfl, rfl, hS⟩, hr⟩)
theorem q_iload {j : Nat} {x : Int32} (hd : decode (q_cc M) pc = .ok (.iload j, 2)) (hl : L[j]? = some (.int x)) (k : q_A Sc M (pc + 2) L (.int x :: st) h n kc ks Q) : q_A Sc M pc L (st) h n kc ks Q := by
  intro D dT H0 p l e R s m args below meth c H locs cells slots ls st' sb ws ads0 kc' ks' g
  obtain ⟨hF, hW, hL, hS, hr⟩ := g
  exact lv_iload hF.1 hF.2.1 hd (hL.int hl) (k D dT H0 p l e R s m args below meth c H locs cells slots ls _ sb ws ads0 kc' ks' ⟨hF, hW, hL, ⟨_, _, rfl, rfl, hS⟩, hr⟩)
theorem q_aload_n {j : Fin 4} {i : Nat} (hd : decode (q_cc M) pc = .ok (.aload_n j, 1)) (hl : L[(j : Nat)]? = some (.ref i)) (k : q_A Sc M (pc + 1) L (.ref i :: st) h n kc ks Q) : q_A Sc M pc L st h n kc ks Q := by
  intro D dT H0 p l e R s m args below meth c H locs cells slots ls st' sb ws ads0 kc' ks' g
  obtain ⟨hF, hW, hL, hS, hr⟩ := g
  obtain ⟨a, h1, h2⟩ := hL.ref hl
  exact lv_aload_n hF.1 hF.2.1 hd rfl h2 (k D dT H0 p l e R s m args below meth c H locs cells slots ls _ sb ws ads0 kc' ks' ⟨hF, hW, hL, ⟨_, _, rfl, ⟨a, h1, rfl⟩, hS⟩, hr⟩)
theorem q_aload {j : Nat} {i : Nat} (hd : decode (q_cc M) pc = .ok (.aload j, 2)) (hl : L[j]? = some (.ref i)) (k : q_A Sc M (pc + 2) L (.ref i :: st) h n kc ks Q) : q_A Sc M pc L st h n kc ks Q := by
  intro D dT H0 p l e R s m args below meth c H locs cells slots ls st' sb ws ads0 kc' ks' g
  obtain ⟨hF, hW, hL, hS, hr⟩ := g
  obtain ⟨a, h1, h2⟩ := hL.ref hl
  exact lv_aload hF.1 hF.2.1 hd h2 (k D dT H0 p l e R s m args below meth c H locs cells slots ls _ sb ws ads0 kc' ks' ⟨hF, hW, hL, ⟨_, _, rfl, ⟨a, h1, rfl⟩, hS⟩, hr⟩)
theorem q_istore_n {j : Fin 4} {x : Int32} (hd : decode (q_cc M) pc = .ok (.istore_n j, 1)) (hn : (j : Nat) < q_nL M) (k : q_A Sc M (pc + 1) (L.set (j : Nat) (.int x)) st h n kc ks Q) : q_A Sc M pc L (.int x :: st) h n kc ks Q := by
  intro D dT H0 p l e R s m args below meth c H locs cells slots ls st' sb ws ads0 kc' ks' g
  obtain ⟨hF, hW, hL, ⟨_, _, rfl, rfl, hS⟩, hr⟩ := g
  exact lv_istore_n hF.1 hF.2.1 hd rfl (q_all_has hL.1 hL.2.1) hn rfl (fun ls' h' => k D dT H0 p l e R s m args below meth c H locs cells slots ls' _ sb ws ads0 kc' ks' ⟨hF, hW, hL.put (v := .int _) rfl rfl h', hS, hr⟩)
theorem q_istore {j : Nat} {x : Int32} (hd : decode (q_cc M) pc = .ok (.istore j, 2)) (hn : j < q_nL M) (k : q_A Sc M (pc + 2) (L.set j (.int x)) st h n kc ks Q) : q_A Sc M pc L (.int x :: st) h n kc ks Q := by
  intro D dT H0 p l e R s m args below meth c H locs cells slots ls st' sb ws ads0 kc' ks' g
  obtain ⟨hF, hW, hL, ⟨_, _, rfl, rfl, hS⟩, hr⟩ := g
  exact lv_istore hF.1 hF.2.1 hd (q_all_has hL.1 hL.2.1) hn rfl (fun ls' h' => k D dT H0 p l e R s m args below meth c H locs cells slots ls' _ sb ws ads0 kc' ks' ⟨hF, hW, hL.put (v := .int _) rfl rfl h', hS, hr⟩)
theorem q_astore_n {j : Fin 4} {i : Nat} (hd : decode (q_cc M) pc = .ok (.astore_n j, 1)) (hn : (j : Nat) < q_nL M) (k : q_A Sc M (pc + 1) (L.set (j : Nat) (.ref i)) st h n kc ks Q) : q_A Sc M pc L (.ref i :: st) h n kc ks Q := by
  intro D dT H0 p l e R s m args below meth c H locs cells slots ls st' sb ws ads0 kc' ks' g
  obtain ⟨hF, hW, hL, ⟨_, _, rfl, ⟨a, h1, rfl⟩, hS⟩, hr⟩ := g
  exact lv_astore_n hF.1 hF.2.1 hd rfl (q_all_has hL.1 hL.2.1) hn rfl (fun ls' h' => k D dT H0 p l e R s m args below meth c H locs cells slots ls' _ sb ws ads0 kc' ks' ⟨hF, hW, hL.put (v := .ref i) ⟨a, h1, rfl⟩ rfl h', hS, hr⟩)
theorem q_astore_n_x {j : Fin 4} {b : UInt32} (hd : decode (q_cc M) pc = .ok (.astore_n j, 1)) (hn : (j : Nat) < q_nL M) (k : q_A Sc M (pc + 1) (L.set (j : Nat) (.float b)) st h n kc ks Q) : q_A Sc M pc L (.float b :: st) h n kc ks Q := by
  intro D dT H0 p l e R s m args below meth c H locs cells slots ls st' sb ws ads0 kc' ks' g
  obtain ⟨hF, hW, hL, ⟨_, _, rfl, ⟨a, rfl, hx9⟩, hS⟩, hr⟩ := g
  exact lv_astore_n hF.1 hF.2.1 hd rfl (q_all_has hL.1 hL.2.1) hn rfl (fun ls' h' => k D dT H0 p l e R s m args below meth c H locs cells slots ls' _ sb ws ads0 kc' ks' ⟨hF, hW, hL.put (v := .float b) ⟨a, rfl, hx9⟩ rfl h', hS, hr⟩)
theorem q_astore {j : Nat} {i : Nat} (hd : decode (q_cc M) pc = .ok (.astore j, 2)) (hn : j < q_nL M) (k : q_A Sc M (pc + 2) (L.set j (.ref i)) st h n kc ks Q) : q_A Sc M pc L (.ref i :: st) h n kc ks Q := by
  intro D dT H0 p l e R s m args below meth c H locs cells slots ls st' sb ws ads0 kc' ks' g
  obtain ⟨hF, hW, hL, ⟨_, _, rfl, ⟨a, h1, rfl⟩, hS⟩, hr⟩ := g
  exact lv_astore hF.1 hF.2.1 hd (q_all_has hL.1 hL.2.1) hn rfl (fun ls' h' => k D dT H0 p l e R s m args below meth c H locs cells slots ls' _ sb ws ads0 kc' ks' ⟨hF, hW, hL.put (v := .ref i) ⟨a, h1, rfl⟩ rfl h', hS, hr⟩)
theorem q_astore_x {j : Nat} {b : UInt32} (hd : decode (q_cc M) pc = .ok (.astore j, 2)) (hn : j < q_nL M) (k : q_A Sc M (pc + 2) (L.set j (.float b)) st h n kc ks Q) : q_A Sc M pc L (.float b :: st) h n kc ks Q := by
  intro D dT H0 p l e R s m args below meth c H locs cells slots ls st' sb ws ads0 kc' ks' g
  obtain ⟨hF, hW, hL, ⟨_, _, rfl, ⟨a, rfl, hx9⟩, hS⟩, hr⟩ := g
  exact lv_astore hF.1 hF.2.1 hd (q_all_has hL.1 hL.2.1) hn rfl (fun ls' h' => k D dT H0 p l e R s m args below meth c H locs cells slots ls' _ sb ws ads0 kc' ks' ⟨hF, hW, hL.put (v := .float b) ⟨a, rfl, hx9⟩ rfl h', hS, hr⟩)
theorem q_iinc {j : Nat} {z : Int} {x : Int32} (hd : decode (q_cc M) pc = .ok (.iinc j z, 3)) (hl : L[j]? = some (.int x)) (hn : j < q_nL M) (k : q_A Sc M (pc + 3) (L.set j (.int (x + Int32.ofInt z))) st h n kc ks Q) : q_A Sc M pc L st h n kc ks Q := by
  intro D dT H0 p l e R s m args below meth c H locs cells slots ls st' sb ws ads0 kc' ks' g
  obtain ⟨hF, hW, hL, hS, hr⟩ := g
  obtain ⟨kk, hk⟩ := List.getElem?_of_mem (q_all_mem (hL.int hl))
  exact lv_iinc hF.1 hF.2.1 hd (q_all_has hL.1 hL.2.1) hk rfl hn rfl (fun ls' h' => k D dT H0 p l e R s m args below meth c H locs cells slots ls' _ sb ws ads0 kc' ks' ⟨hF, hW, hL.put (v := .int _) rfl rfl h', hS, hr⟩)
theorem q_dup {v : Value} (hd : decode (q_cc M) pc = .ok (.dup, 1)) (hv : v.category = 1) (k : q_A Sc M (pc + 1) L (v :: v :: st) h n kc ks Q) : q_A Sc M pc L (v :: st) h n kc ks Q := by
  intro D dT H0 p l e R s m args below meth c H locs cells slots ls st' sb ws ads0 kc' ks' g
  obtain ⟨hF, hW, hL, ⟨u, _, rfl, hu, hS⟩, hr⟩ := g
  exact lv_dup hF.1 hF.2.1 hd (hu.cat.trans hv) (k D dT H0 p l e R s m args below meth c H locs cells slots ls _ sb ws ads0 kc' ks' ⟨hF, hW, hL, ⟨_, _, rfl, hu, _, _, rfl, hu, hS⟩, hr⟩)
theorem q_dup2 {v v2 : Value} (hd : decode (q_cc M) pc = .ok (.dup2, 1)) (hv : v.category = 1) (hv2 : v2.category = 1) (k : q_A Sc M (pc + 1) L (v :: v2 :: v :: v2 :: st) h n kc ks Q) : q_A Sc M pc L (v :: v2 :: st) h n kc ks Q := by
  intro D dT H0 p l e R s m args below meth c H locs cells slots ls st' sb ws ads0 kc' ks' g
  obtain ⟨hF, hW, hL, ⟨u, _, rfl, hu, u2, _, rfl, hu2, hS⟩, hr⟩ := g
  exact lv_dup2_11 hF.1 hF.2.1 hd (hu.cat.trans hv) (hu2.cat.trans hv2) (k D dT H0 p l e R s m args below meth c H locs cells slots ls _ sb ws ads0 kc' ks' ⟨hF, hW, hL, ⟨_, _, rfl, hu, _, _, rfl, hu2, _, _, rfl, hu, _, _, rfl, hu2, hS⟩, hr⟩)
theorem q_dup_x1 {v v2 : Value} (hd : decode (q_cc M) pc = .ok (.dup_x1, 1)) (hv : v.category = 1) (hv2 : v2.category = 1) (k : q_A Sc M (pc + 1) L (v :: v2 :: v :: st) h n kc ks Q) : q_A Sc M pc L (v :: v2 :: st) h n kc ks Q := by
  intro D dT H0 p l e R s m args below meth c H locs cells slots ls st' sb ws ads0 kc' ks' g
  obtain ⟨hF, hW, hL, ⟨u, _, rfl, hu, u2, _, rfl, hu2, hS⟩, hr⟩ := g
  exact lv_dup_x1 hF.1 hF.2.1 hd (hu.cat.trans hv) (hu2.cat.trans hv2) (k D dT H0 p l e R s m args below meth c H locs cells slots ls _ sb ws ads0 kc' ks' ⟨hF, hW, hL, ⟨_, _, rfl, hu, _, _, rfl, hu2, _, _, rfl, hu, hS⟩, hr⟩)
theorem q_pop {v : Value} (hd : decode (q_cc M) pc = .ok (.pop, 1)) (hv : v.category = 1) (k : q_A Sc M (pc + 1) L st h n kc ks Q) : q_A Sc M pc L (v :: st) h n kc ks Q := by
  intro D dT H0 p l e R s m args below meth c H locs cells slots ls st' sb ws ads0 kc' ks' g
  obtain ⟨hF, hW, hL, ⟨u, _, rfl, hu, hS⟩, hr⟩ := g
  exact lv_pop hF.1 hF.2.1 hd (hu.cat.trans hv) (k D dT H0 p l e R s m args below meth c H locs cells slots ls _ sb ws ads0 kc' ks' ⟨hF, hW, hL, hS, hr⟩)
theorem q_goto {off : Int} {tgt : Nat} (hd : decode (q_cc M) pc = .ok (.goto off, 3)) (ht : (pc : Int) + off = (tgt : Int)) (k : q_A Sc M tgt L st h n kc ks Q) : q_A Sc M pc L st h n kc ks Q := by
  intro D dT H0 p l e R s m args below meth c H locs cells slots ls st' sb ws ads0 kc' ks' g
  exact lv_goto g.1.1 g.1.2.1 hd ht (k D dT H0 p l e R s m args below meth c H locs cells slots ls _ sb ws ads0 kc' ks' g)
theorem q_if_eq {x : Int32} {off : Int} {tgt : Nat} (hd : decode (q_cc M) pc = .ok (.ifCond .eq off, 3)) (ht : (pc : Int) + off = (tgt : Int)) (kt : x = 0 → q_A Sc M tgt L st h n kc ks Q) (kf : ¬ (x = 0) → q_A Sc M (pc + 3) L st h n kc ks Q) : q_A Sc M pc L (.int x :: st) h n kc ks Q := by
  intro D dT H0 p l e R s m args below meth c H locs cells slots ls st' sb ws ads0 kc' ks' g
  obtain ⟨hF, hW, hL, ⟨_, _, rfl, rfl, hS⟩, hr⟩ := g
  exact lv_if_eq hF.1 hF.2.1 hd ht (fun q => (kt q) D dT H0 p l e R s m args below meth c H locs cells slots ls _ sb ws ads0 kc' ks' ⟨hF, hW, hL, hS, hr⟩) (fun q => (kf q) D dT H0 p l e R s m args below meth c H locs cells slots ls _ sb ws ads0 kc' ks' ⟨hF, hW, hL, hS, hr⟩)
theorem q_icmp_eq {x y : Int32} {off : Int} {tgt : Nat} (hd : decode (q_cc M) pc = .ok (.if_icmp .eq off, 3)) (ht : (pc : Int) + off = (tgt : Int)) (kt : x = y → q_A Sc M tgt L st h n kc ks Q) (kf : ¬ (x = y) → q_A Sc M (pc + 3) L st h n kc ks Q) : q_A Sc M pc L (.int y :: .int x :: st) h n kc ks Q := by
  intro D dT H0 p l e R s m args below meth c H locs cells slots ls st' sb ws ads0 kc' ks' g
  obtain ⟨hF, hW, hL, ⟨_, _, rfl, rfl, _, _, rfl, rfl, hS⟩, hr⟩ := g
  exact lv_icmp_eq hF.1 hF.2.1 hd ht (fun q => (kt q) D dT H0 p l e R s m args below meth c H locs cells slots ls _ sb ws ads0 kc' ks' ⟨hF, hW, hL, hS, hr⟩) (fun q => (kf q) D dT H0 p l e R s m args below meth c H locs cells slots ls _ sb ws ads0 kc' ks' ⟨hF, hW, hL, hS, hr⟩)
theorem q_if_ne {x : Int32} {off : Int} {tgt : Nat} (hd : decode (q_cc M) pc = .ok (.ifCond .ne off, 3)) (ht : (pc : Int) + off = (tgt : Int)) (kt : ¬ x = 0 → q_A Sc M tgt L st h n kc ks Q) (kf : x = 0 → q_A Sc M (pc + 3) L st h n kc ks Q) : q_A Sc M pc L (.int x :: st) h n kc ks Q := by
  intro D dT H0 p l e R s m args below meth c H locs cells slots ls st' sb ws ads0 kc' ks' g
  obtain ⟨hF, hW, hL, ⟨_, _, rfl, rfl, hS⟩, hr⟩ := g
  exact lv_if_ne hF.1 hF.2.1 hd ht (fun q => (kt q) D dT H0 p l e R s m args below meth c H locs cells slots ls _ sb ws ads0 kc' ks' ⟨hF, hW, hL, hS, hr⟩) (fun q => (kf q) D dT H0 p l e R s m args below meth c H locs cells slots ls _ sb ws ads0 kc' ks' ⟨hF, hW, hL, hS, hr⟩)
theorem q_icmp_ne {x y : Int32} {off : Int} {tgt : Nat} (hd : decode (q_cc M) pc = .ok (.if_icmp .ne off, 3)) (ht : (pc : Int) + off = (tgt : Int)) (kt : ¬ x = y → q_A Sc M tgt L st h n kc ks Q) (kf : x = y → q_A Sc M (pc + 3) L st h n kc ks Q) : q_A Sc M pc L (.int y :: .int x :: st) h n kc ks Q := by
  intro D dT H0 p l e R s m args below meth c H locs cells slots ls st' sb ws ads0 kc' ks' g
  obtain ⟨hF, hW, hL, ⟨_, _, rfl, rfl, _, _, rfl, rfl, hS⟩, hr⟩ := g
  exact lv_icmp_ne hF.1 hF.2.1 hd ht (fun q => (kt q) D dT H0 p l e R s m args below meth c H locs cells slots ls _ sb ws ads0 kc' ks' ⟨hF, hW, hL, hS, hr⟩) (fun q => (kf q) D dT H0 p l e R s m args below meth c H locs cells slots ls _ sb ws ads0 kc' ks' ⟨hF, hW, hL, hS, hr⟩)
theorem q_if_lt {x : Int32} {off : Int} {tgt : Nat} (hd : decode (q_cc M) pc = .ok (.ifCond .lt off, 3)) (ht : (pc : Int) + off = (tgt : Int)) (kt : x < 0 → q_A Sc M tgt L st h n kc ks Q) (kf : ¬ (x < 0) → q_A Sc M (pc + 3) L st h n kc ks Q) : q_A Sc M pc L (.int x :: st) h n kc ks Q := by
  intro D dT H0 p l e R s m args below meth c H locs cells slots ls st' sb ws ads0 kc' ks' g
  obtain ⟨hF, hW, hL, ⟨_, _, rfl, rfl, hS⟩, hr⟩ := g
  exact lv_if_lt hF.1 hF.2.1 hd ht (fun q => (kt q) D dT H0 p l e R s m args below meth c H locs cells slots ls _ sb ws ads0 kc' ks' ⟨hF, hW, hL, hS, hr⟩) (fun q => (kf q) D dT H0 p l e R s m args below meth c H locs cells slots ls _ sb ws ads0 kc' ks' ⟨hF, hW, hL, hS, hr⟩)
theorem q_icmp_lt {x y : Int32} {off : Int} {tgt : Nat} (hd : decode (q_cc M) pc = .ok (.if_icmp .lt off, 3)) (ht : (pc : Int) + off = (tgt : Int)) (kt : x < y → q_A Sc M tgt L st h n kc ks Q) (kf : ¬ (x < y) → q_A Sc M (pc + 3) L st h n kc ks Q) : q_A Sc M pc L (.int y :: .int x :: st) h n kc ks Q := by
  intro D dT H0 p l e R s m args below meth c H locs cells slots ls st' sb ws ads0 kc' ks' g
  obtain ⟨hF, hW, hL, ⟨_, _, rfl, rfl, _, _, rfl, rfl, hS⟩, hr⟩ := g
  exact lv_icmp_lt hF.1 hF.2.1 hd ht (fun q => (kt q) D dT H0 p l e R s m args below meth c H locs cells slots ls _ sb ws ads0 kc' ks' ⟨hF, hW, hL, hS, hr⟩) (fun q => (kf q) D dT H0 p l e R s m args below meth c H locs cells slots ls _ sb ws ads0 kc' ks' ⟨hF, hW, hL, hS, hr⟩)
theorem q_if_ge {x : Int32} {off : Int} {tgt : Nat} (hd : decode (q_cc M) pc = .ok (.ifCond .ge off, 3)) (ht : (pc : Int) + off = (tgt : Int)) (kt : 0 ≤ x → q_A Sc M tgt L st h n kc ks Q) (kf : ¬ (0 ≤ x) → q_A Sc M (pc + 3) L st h n kc ks Q) : q_A Sc M pc L (.int x :: st) h n kc ks Q := by
  intro D dT H0 p l e R s m args below meth c H locs cells slots ls st' sb ws ads0 kc' ks' g
  obtain ⟨hF, hW, hL, ⟨_, _, rfl, rfl, hS⟩, hr⟩ := g
  exact lv_if_ge hF.1 hF.2.1 hd ht (fun q => (kt q) D dT H0 p l e R s m args below meth c H locs cells slots ls _ sb ws ads0 kc' ks' ⟨hF, hW, hL, hS, hr⟩) (fun q => (kf q) D dT H0 p l e R s m args below meth c H locs cells slots ls _ sb ws ads0 kc' ks' ⟨hF, hW, hL, hS, hr⟩)
theorem q_icmp_ge {x y : Int32} {off : Int} {tgt : Nat} (hd : decode (q_cc M) pc = .ok (.if_icmp .ge off, 3)) (ht : (pc : Int) + off = (tgt : Int)) (kt : y ≤ x → q_A Sc M tgt L st h n kc ks Q) (kf : ¬ (y ≤ x) → q_A Sc M (pc + 3) L st h n kc ks Q) : q_A Sc M pc L (.int y :: .int x :: st) h n kc ks Q := by
  intro D dT H0 p l e R s m args below meth c H locs cells slots ls st' sb ws ads0 kc' ks' g
  obtain ⟨hF, hW, hL, ⟨_, _, rfl, rfl, _, _, rfl, rfl, hS⟩, hr⟩ := g
  exact lv_icmp_ge hF.1 hF.2.1 hd ht (fun q => (kt q) D dT H0 p l e R s m args below meth c H locs cells slots ls _ sb ws ads0 kc' ks' ⟨hF, hW, hL, hS, hr⟩) (fun q => (kf q) D dT H0 p l e R s m args below meth c H locs cells slots ls _ sb ws ads0 kc' ks' ⟨hF, hW, hL, hS, hr⟩)
theorem q_if_gt {x : Int32} {off : Int} {tgt : Nat} (hd : decode (q_cc M) pc = .ok (.ifCond .gt off, 3)) (ht : (pc : Int) + off = (tgt : Int)) (kt : 0 < x → q_A Sc M tgt L st h n kc ks Q) (kf : ¬ (0 < x) → q_A Sc M (pc + 3) L st h n kc ks Q) : q_A Sc M pc L (.int x :: st) h n kc ks Q := by
  intro D dT H0 p l e R s m args below meth c H locs cells slots ls st' sb ws ads0 kc' ks' g
  obtain ⟨hF, hW, hL, ⟨_, _, rfl, rfl, hS⟩, hr⟩ := g
  exact lv_if_gt hF.1 hF.2.1 hd ht (fun q => (kt q) D dT H0 p l e R s m args below meth c H locs cells slots ls _ sb ws ads0 kc' ks' ⟨hF, hW, hL, hS, hr⟩) (fun q => (kf q) D dT H0 p l e R s m args below meth c H locs cells slots ls _ sb ws ads0 kc' ks' ⟨hF, hW, hL, hS, hr⟩)
theorem q_icmp_gt {x y : Int32} {off : Int} {tgt : Nat} (hd : decode (q_cc M) pc = .ok (.if_icmp .gt off, 3)) (ht : (pc : Int) + off = (tgt : Int)) (kt : y < x → q_A Sc M tgt L st h n kc ks Q) (kf : ¬ (y < x) → q_A Sc M (pc + 3) L st h n kc ks Q) : q_A Sc M pc L (.int y :: .int x :: st) h n kc ks Q := by
  intro D dT H0 p l e R s m args below meth c H locs cells slots ls st' sb ws ads0 kc' ks' g
  obtain ⟨hF, hW, hL, ⟨_, _, rfl, rfl, _, _, rfl, rfl, hS⟩, hr⟩ := g
  exact lv_icmp_gt hF.1 hF.2.1 hd ht (fun q => (kt q) D dT H0 p l e R s m args below meth c H locs cells slots ls _ sb ws ads0 kc' ks' ⟨hF, hW, hL, hS, hr⟩) (fun q => (kf q) D dT H0 p l e R s m args below meth c H locs cells slots ls _ sb ws ads0 kc' ks' ⟨hF, hW, hL, hS, hr⟩)
theorem q_if_le {x : Int32} {off : Int} {tgt : Nat} (hd : decode (q_cc M) pc = .ok (.ifCond .le off, 3)) (ht : (pc : Int) + off = (tgt : Int)) (kt : x ≤ 0 → q_A Sc M tgt L st h n kc ks Q) (kf : ¬ (x ≤ 0) → q_A Sc M (pc + 3) L st h n kc ks Q) : q_A Sc M pc L (.int x :: st) h n kc ks Q := by
  intro D dT H0 p l e R s m args below meth c H locs cells slots ls st' sb ws ads0 kc' ks' g
  obtain ⟨hF, hW, hL, ⟨_, _, rfl, rfl, hS⟩, hr⟩ := g
  exact lv_if_le hF.1 hF.2.1 hd ht (fun q => (kt q) D dT H0 p l e R s m args below meth c H locs cells slots ls _ sb ws ads0 kc' ks' ⟨hF, hW, hL, hS, hr⟩) (fun q => (kf q) D dT H0 p l e R s m args below meth c H locs cells slots ls _ sb ws ads0 kc' ks' ⟨hF, hW, hL, hS, hr⟩)
theorem q_icmp_le {x y : Int32} {off : Int} {tgt : Nat} (hd : decode (q_cc M) pc = .ok (.if_icmp .le off, 3)) (ht : (pc : Int) + off = (tgt : Int)) (kt : x ≤ y → q_A Sc M tgt L st h n kc ks Q) (kf : ¬ (x ≤ y) → q_A Sc M (pc + 3) L st h n kc ks Q) : q_A Sc M pc L (.int y :: .int x :: st) h n kc ks Q := by
  intro D dT H0 p l e R s m args below meth c H locs cells slots ls st' sb ws ads0 kc' ks' g
  obtain ⟨hF, hW, hL, ⟨_, _, rfl, rfl, _, _, rfl, rfl, hS⟩, hr⟩ := g
  exact lv_icmp_le hF.1 hF.2.1 hd ht (fun q => (kt q) D dT H0 p l e R s m args below meth c H locs cells slots ls _ sb ws ads0 kc' ks' ⟨hF, hW, hL, hS, hr⟩) (fun q => (kf q) D dT H0 p l e R s m args below meth c H locs cells slots ls _ sb ws ads0 kc' ks' ⟨hF, hW, hL, hS, hr⟩)
theorem q_lookup {dflt : Int} {ps : Array (Int × Int)} {len : Nat} {x : Int32} {off : Int} {tgt : Nat} (hd : decode (q_cc M) pc = .ok (.lookupswitch dflt ps, len)) (hp : (ps.toList.zip (ps.toList.drop 1)).all (fun (a, next) => a.1 < next.1) = true) (ho : Op.lookupswitch.offset ps.toList dflt x.toInt = off) (ht : (pc : Int) + off = (tgt : Int)) (k : q_A Sc M tgt L st h n kc ks Q) : q_A Sc M pc L (.int x :: st) h n kc ks Q := by
  intro D dT H0 p l e R s m args below meth c H locs cells slots ls st' sb ws ads0 kc' ks' g
  obtain ⟨hF, hW, hL, ⟨_, _, rfl, rfl, hS⟩, hr⟩ := g
  exact lv_lookup hF.1 hF.2.1 hd hp ho ht (k D dT H0 p l e R s m args below meth c H locs cells slots ls _ sb ws ads0 kc' ks' ⟨hF, hW, hL, hS, hr⟩)
theorem q_tableOut {dflt lo hi : Int} {offs : Array Int} {len : Nat} {x : Int32} {tgt : Nat} (hd : decode (q_cc M) pc = .ok (.tableswitch dflt lo hi offs, len)) (hx : x.toInt < lo ∨ hi < x.toInt) (ht : (pc : Int) + dflt = (tgt : Int)) (k : q_A Sc M tgt L st h n kc ks Q) : q_A Sc M pc L (.int x :: st) h n kc ks Q := by
  intro D dT H0 p l e R s m args below meth c H locs cells slots ls st' sb ws ads0 kc' ks' g
  obtain ⟨hF, hW, hL, ⟨_, _, rfl, rfl, hS⟩, hr⟩ := g
  exact lv_tableOut hF.1 hF.2.1 hd hx ht (k D dT H0 p l e R s m args below meth c H locs cells slots ls _ sb ws ads0 kc' ks' ⟨hF, hW, hL, hS, hr⟩)
theorem q_tableIn {dflt lo hi : Int} {offs : Array Int} {len : Nat} {x : Int32} {off : Int} {tgt : Nat} (hd : decode (q_cc M) pc = .ok (.tableswitch dflt lo hi offs, len)) (h1 : ¬ x.toInt < lo) (h2 : ¬ hi < x.toInt) (ho : offs[(x.toInt - lo).toNat]? = some off) (ht : (pc : Int) + off = (tgt : Int)) (k : q_A Sc M tgt L st h n kc ks Q) : q_A Sc M pc L (.int x :: st) h n kc ks Q := by
  intro D dT H0 p l e R s m args below meth c H locs cells slots ls st' sb ws ads0 kc' ks' g
  obtain ⟨hF, hW, hL, ⟨_, _, rfl, rfl, hS⟩, hr⟩ := g
  exact lv_tableIn hF.1 hF.2.1 hd h1 h2 ho ht (k D dT H0 p l e R s m args below meth c H locs cells slots ls _ sb ws ads0 kc' ks' ⟨hF, hW, hL, hS, hr⟩)
theorem q_i2l {x : Int32} (hd : decode (q_cc M) pc = .ok (.i2l, 1)) (k : q_A Sc M (pc + 1) L (.long x.toInt64 :: st) h n kc ks Q) : q_A Sc M pc L (.int x :: st) h n kc ks Q := by
  intro D dT H0 p l e R s m args below meth c H locs cells slots ls st' sb ws ads0 kc' ks' g
  obtain ⟨hF, hW, hL, ⟨_, _, rfl, rfl, hS⟩, hr⟩ := g
  exact lv_i2l hF.1 hF.2.1 hd rfl (k D dT H0 p l e R s m args below meth c H locs cells slots ls _ sb ws ads0 kc' ks' ⟨hF, hW, hL, ⟨_, _, rfl, rfl, hS⟩, hr⟩)
end QR
end
section
/-- a class of the worlds: its number, its name, its fields, their types -/
def q_cls (ci : Nat) (C : String) (T : u_T) (N : Nat) (ty : Nat → FieldType) : Prop := vwCl[ci]? = some (C, T, N) ∧ (∀ w ∈ u_ws C T N, q_in w) ∧ (∀ k, k < N → parseFieldDescriptor (T k).2.2.1 = some (ty k)) ∧ ∀ a, a < N → ∀ b, b < N → a ≠ b → (T a).2.1 ≠ (T b).2.1
theorem q_cls.hts {ci : Nat} {C : String} {T : u_T} {N : Nat} {ty : Nat → FieldType} (hC : q_cls ci C T N ty) {s : State} (h : q_T s) (args : Array Value) : ∀ w ∈ u_ws C T N, w.before args s = true := fun w hw => h.at (hC.2.1 w hw) args
theorem q_W.look {D : va_G} {dT : Nat → ClassId} {H0 : Heap} {s : State} {h : q_H} {n sb : Nat} {ws : va_W} {H : Heap} {locs : List Loc} (hW : q_W D dT H0 s h n sb ws H locs) {i a : Nat} (ha : (q_ads sb ws)[i + 1]? = some a) : i < n ∧ ∃ e, ws[i]? = some (a, e) ∧ q_E dT (q_ads sb ws) (h i) e := by
  rw [List.getElem?_cons_succ, List.getElem?_map] at ha
  cases hi : ws[i]? with
  | none => rw [hi] at ha; cases ha
  | some x =>
    rw [hi] at ha
    obtain ⟨a', e⟩ := x
    cases ha
    have hl : i < n := by rw [← hW.1]; exact (List.getElem?_eq_some_iff.mp hi).1
    obtain ⟨a2, e2, h1, h2⟩ := hW.2.1 i hl
    rw [hi] at h1
    cases h1
    exact ⟨hl, e, rfl, h2⟩
theorem q_W.upd {D : va_G} {dT : Nat → ClassId} {H0 : Heap} {s : State} {h : q_H} {n sb : Nat} {ws : va_W} {H : Heap} {locs : List Loc} (hW : q_W D dT H0 s h n sb ws H locs) {i a : Nat} {e e' : va_E} (hi : ws[i]? = some (a, e)) {c : q_C} (he : q_E dT (q_ads sb ws) c e') {H1 : Heap} {locs1 : List Loc} (h1 : va_P D vwCl (ws.set i (a, e')) H1) (h2 : va_D (q_Z H0 s) (ws.set i (a, e'))) (h3 : va_S (q_Z H0 s) s.heap H1 locs1) : q_W D dT H0 s (q_up h i c) n sb (ws.set i (a, e')) H1 locs1 := by
  refine ⟨by rw [List.length_set]; exact hW.1, fun j hj => ?_, h1, h2, h3⟩
  rw [q_ads_set hi]
  by_cases hji : j = i
  · subst hji
    refine ⟨a, e', List.getElem?_set_self (List.getElem?_eq_some_iff.mp hi).1, ?_⟩
    rw [show q_up h j c j = c from if_pos rfl]
    exact he
  · obtain ⟨a2, e2, k1, k2⟩ := hW.2.1 j hj
    refine ⟨a2, e2, by rw [List.getElem?_set_ne (Ne.symm hji)]; exact k1, ?_⟩
    rw [show q_up h i c j = h j from if_neg hji]
    exact k2
theorem q_W.push {D : va_G} {dT : Nat → ClassId} {H0 : Heap} {s : State} {h : q_H} {n sb : Nat} {ws : va_W} {H : Heap} {locs : List Loc} (hW : q_W D dT H0 s h n sb ws H locs) {a : Nat} {e' : va_E} {c : q_C} (he : q_E dT (q_ads sb ws) c e') {H1 : Heap} {locs1 : List Loc} (h1 : va_P D vwCl (ws ++ [(a, e')]) H1) (h2 : va_D (q_Z H0 s) (ws ++ [(a, e')])) (h3 : va_S (q_Z H0 s) s.heap H1 locs1) : q_W D dT H0 s (q_up h n c) (n + 1) sb (ws ++ [(a, e')]) H1 locs1 := by
  refine ⟨by rw [List.length_append, hW.1]; rfl, fun j hj => ?_, h1, h2, h3⟩
  by_cases hji : j = n
  · rw [hji]
    refine ⟨a, e', by rw [List.getElem?_append_right (by rw [hW.1]; exact Nat.le_refl _), hW.1, Nat.sub_self]; rfl, ?_⟩
    rw [show q_up h n c n = c from if_pos rfl]
    exact he.mono q_ads_push
  · obtain ⟨a2, e2, k1, k2⟩ := hW.2.1 j (by omega)
    refine ⟨a2, e2, by rw [List.getElem?_append_left (List.getElem?_eq_some_iff.mp k1).1]; exact k1, ?_⟩
    rw [show q_up h n c j = h j from if_neg hji]
    exact k2.mono q_ads_push
theorem q_Z_new {H0 : Heap} {s : State} (h : H0.size ≤ s.heap.size) : ∀ q : Nat, s.heap.size ≤ q → q_Z H0 s q := fun q hq => Nat.le_trans h hq
/-- a value fits a field or an array's element -/
def q_fit (ty : FieldType) (v : Value) : Prop := match v with
  | .int x => narrow ty (.int x) = .int x ∧ fits ty (.int x) = true
  | .ref _ => ∀ a, narrow ty (.ref a) = .ref a ∧ fits ty (.ref a) = true
  | .null => narrow ty .null = .null ∧ fits ty .null = true
  | _ => False
theorem q_fit.use {ty : FieldType} {v w : Value} {ads : List Nat} (h : q_fit ty v) (hv : q_v ads v w) : narrow ty w = w ∧ fits ty w = true := by
  cases v with
  | int x => rw [show w = .int x from hv]; exact h
  | null => rw [show w = .null from hv]; exact h
  | ref i =>
    obtain ⟨a, -, h2⟩ := hv
    rw [h2]
    exact h a
  | _ => exact h.elim
section QH
variable {Sc : q_S} {M : q_M} {pc : Nat} {L st : List Value} {h : q_H} {n kc ks : Nat} {Q : q_O → q_H → Nat → Prop}
theorem q_get {C : String} {T : u_T} {N ci i k ix : Nat} {ty : Nat → FieldType} {fs : List Value} {v : Value} (hC : q_cls ci C T N ty) (k0 : Nat) (hk0 : k0 = k) (hk : k < N) (hw : q_in (Cond.fieldLink (q_own M) ix (T k).1 (T k).2.1 (T k).2.2.1)) (hd : decode (q_cc M) pc = .ok (.getfield ix, 3)) (hh : h i = .inl (ci, fs)) (hv : fs[k]? = some v) (kk : q_A Sc M (pc + 3) L (v :: st) h n kc ks Q) : q_A Sc M pc L (.ref i :: st) h n kc ks Q := by
  intro D dT H0 p l e R s m args below meth c H locs cells slots ls st' sb ws ads0 kc' ks' g
  obtain ⟨hF, hW, hL, ⟨_, _, rfl, ⟨a, ha, rfl⟩, hS⟩, hr⟩ := g
  obtain ⟨hi, e0, h1, h2⟩ := hW.look ha
  rw [hh] at h2
  obtain ⟨gs, rfl, h3⟩ := h2
  obtain ⟨w, h4, h5⟩ := h3.at hv
  have hT := hF.2.2.2.2.2.2.1
  exact va_get hF.1 hF.2.1 (hC.hts hT args) (fun _ q => q) hF.2.2.2.2.2.1 hF.2.2.2.2.2.2.2.1 hW.2.2.1 i h1 hC.1 k hk (hT.at hw args) (fun _ q => q) h4 hd
    (kk D dT H0 p l e R s m args below meth c H locs cells slots ls _ sb ws ads0 kc' ks' ⟨hF, hW, hL, ⟨_, _, rfl, h5, hS⟩, hr⟩)
theorem q_getN {C host : String} {T : u_T} {N ci i k ix : Nat} {ty : Nat → FieldType} {fs : List Value} {v : Value} (hC : q_cls ci C T N ty) (k0 : Nat) (hk0 : k0 = k) (hk : k < N) (hw : q_in (Cond.fieldLinkNest (q_own M) ix (T k).1 (T k).2.1 (T k).2.2.1 host)) (hd : decode (q_cc M) pc = .ok (.getfield ix, 3)) (hh : h i = .inl (ci, fs)) (hv : fs[k]? = some v) (kk : q_A Sc M (pc + 3) L (v :: st) h n kc ks Q) : q_A Sc M pc L (.ref i :: st) h n kc ks Q := by
  intro D dT H0 p l e R s m args below meth c H locs cells slots ls st' sb ws ads0 kc' ks' g
  obtain ⟨hF, hW, hL, ⟨_, _, rfl, ⟨a, ha, rfl⟩, hS⟩, hr⟩ := g
  obtain ⟨hi, e0, h1, h2⟩ := hW.look ha
  rw [hh] at h2
  obtain ⟨gs, rfl, h3⟩ := h2
  obtain ⟨w, h4, h5⟩ := h3.at hv
  have hT := hF.2.2.2.2.2.2.1
  exact va_getN hF.1 hF.2.1 (hC.hts hT args) (fun _ q => q) hF.2.2.2.2.2.1 hF.2.2.2.2.2.2.2.1 hW.2.2.1 i h1 hC.1 k hk (hT.at hw args) (fun _ q => q) h4 hd
    (kk D dT H0 p l e R s m args below meth c H locs cells slots ls _ sb ws ads0 kc' ks' ⟨hF, hW, hL, ⟨_, _, rfl, h5, hS⟩, hr⟩)
theorem q_put {C : String} {T : u_T} {N ci i k ix : Nat} {ty : Nat → FieldType} {fs : List Value} {v : Value} (hC : q_cls ci C T N ty) (k0 : Nat) (hk0 : k0 = k) (hk : k < N) (hw : q_in (Cond.fieldLink (q_own M) ix (T k).1 (T k).2.1 (T k).2.2.1)) (hfin : (T k).2.2.2 = false) (hd : decode (q_cc M) pc = .ok (.putfield ix, 3)) (hh : h i = .inl (ci, fs)) (hl : k < fs.length) (hv : q_fit (ty k) v) (kk : q_A Sc M (pc + 3) L st (q_up h i (.inl (ci, fs.set k v))) n kc ks Q) : q_A Sc M pc L (v :: .ref i :: st) h n kc ks Q := by
  intro D dT H0 p l e R s m args below meth c H locs cells slots ls st' sb ws ads0 kc' ks' g
  obtain ⟨hF, hW, hL, ⟨w, _, rfl, hvw, _, _, rfl, ⟨a, ha, rfl⟩, hS⟩, hr⟩ := g
  obtain ⟨hi, e0, h1, h2⟩ := hW.look ha
  rw [hh] at h2
  obtain ⟨gs, rfl, h3⟩ := h2
  have hT := hF.2.2.2.2.2.2.1
  have hf := hv.use hvw
  refine va_put hF.1 hF.2.1 (hC.hts hT args) (fun _ q => q) ty hC.2.2.1 hC.2.2.2 hF.2.2.2.2.2.1 hF.2.2.2.2.2.2.2.1 hW.2.2.1 hW.2.2.2.1 hW.2.2.2.2 i h1 hC.1 k hk (hT.at hw args) (fun _ q => q) hfin (hC.2.2.1 k hk) hf.1 hf.2 (by rw [h3.len]; exact hl) hd (fun H1 locs1 p1 p2 p3 => ?_)
  have hW1 := hW.upd h1 (c := .inl (ci, fs.set k v)) ⟨_, rfl, h3.set hvw⟩ p1 p2 p3
  have he : q_ads sb (ws.set i (a, .inr (ci, gs.set k w))) = q_ads sb ws := q_ads_set h1
  exact kk D dT H0 p l e R s m args below meth c H1 locs1 cells slots ls _ sb _ ads0 kc' ks' ⟨hF, hW1, by rw [he]; exact hL, by rw [he]; exact hS, by rw [he]; exact hr⟩
theorem q_putN {C host : String} {T : u_T} {N ci i k ix : Nat} {ty : Nat → FieldType} {fs : List Value} {v : Value} (hC : q_cls ci C T N ty) (k0 : Nat) (hk0 : k0 = k) (hk : k < N) (hw : q_in (Cond.fieldLinkNest (q_own M) ix (T k).1 (T k).2.1 (T k).2.2.1 host)) (hfin : (T k).2.2.2 = false) (hd : decode (q_cc M) pc = .ok (.putfield ix, 3)) (hh : h i = .inl (ci, fs)) (hl : k < fs.length) (hv : q_fit (ty k) v) (kk : q_A Sc M (pc + 3) L st (q_up h i (.inl (ci, fs.set k v))) n kc ks Q) : q_A Sc M pc L (v :: .ref i :: st) h n kc ks Q := by
  intro D dT H0 p l e R s m args below meth c H locs cells slots ls st' sb ws ads0 kc' ks' g
  obtain ⟨hF, hW, hL, ⟨w, _, rfl, hvw, _, _, rfl, ⟨a, ha, rfl⟩, hS⟩, hr⟩ := g
  obtain ⟨hi, e0, h1, h2⟩ := hW.look ha
  rw [hh] at h2
  obtain ⟨gs, rfl, h3⟩ := h2
  have hT := hF.2.2.2.2.2.2.1
  have hf := hv.use hvw
  refine va_putN hF.1 hF.2.1 (hC.hts hT args) (fun _ q => q) ty hC.2.2.1 hC.2.2.2 hF.2.2.2.2.2.1 hF.2.2.2.2.2.2.2.1 hW.2.2.1 hW.2.2.2.1 hW.2.2.2.2 i h1 hC.1 k hk (hT.at hw args) (fun _ q => q) hfin (hC.2.2.1 k hk) hf.1 hf.2 (by rw [h3.len]; exact hl) hd (fun H1 locs1 p1 p2 p3 => ?_)
  have hW1 := hW.upd h1 (c := .inl (ci, fs.set k v)) ⟨_, rfl, h3.set hvw⟩ p1 p2 p3
  have he : q_ads sb (ws.set i (a, .inr (ci, gs.set k w))) = q_ads sb ws := q_ads_set h1
  exact kk D dT H0 p l e R s m args below meth c H1 locs1 cells slots ls _ sb _ ads0 kc' ks' ⟨hF, hW1, by rw [he]; exact hL, by rw [he]; exact hS, by rw [he]; exact hr⟩
theorem q_putF {C : String} {T : u_T} {N ci i k ix : Nat} {ty : Nat → FieldType} {fs : List Value} {v : Value} (hC : q_cls ci C T N ty) (k0 : Nat) (hk0 : k0 = k) (hk : k < N) (hw : q_in (Cond.fieldLink (q_own M) ix (T k).1 (T k).2.1 (T k).2.2.1)) (hfin : (T k).2.2.2 = true) (hin : (q_nm M).name = "<init>") (hdc : (T k).1 = q_own M) (hd : decode (q_cc M) pc = .ok (.putfield ix, 3)) (hh : h i = .inl (ci, fs)) (hl : k < fs.length) (hv : q_fit (ty k) v) (kk : q_A Sc M (pc + 3) L st (q_up h i (.inl (ci, fs.set k v))) n kc ks Q) : q_A Sc M pc L (v :: .ref i :: st) h n kc ks Q := by
  intro D dT H0 p l e R s m args below meth c H locs cells slots ls st' sb ws ads0 kc' ks' g
  obtain ⟨hF, hW, hL, ⟨w, _, rfl, hvw, _, _, rfl, ⟨a, ha, rfl⟩, hS⟩, hr⟩ := g
  obtain ⟨hi, e0, h1, h2⟩ := hW.look ha
  rw [hh] at h2
  obtain ⟨gs, rfl, h3⟩ := h2
  have hT := hF.2.2.2.2.2.2.1
  have hf := hv.use hvw
  refine va_putF hF.1 hF.2.1 (hC.hts hT args) (fun _ q => q) ty hC.2.2.1 hC.2.2.2 hF.2.2.2.2.2.1 hF.2.2.2.2.2.2.2.1 hW.2.2.1 hW.2.2.2.1 hW.2.2.2.2 i h1 hC.1 k hk (hT.at hw args) (fun _ q => q) hfin (hF.2.2.2.2.2.2.2.2.2.2.2.1.trans hin) hdc (hC.2.2.1 k hk) hf.1 hf.2 (by rw [h3.len]; exact hl) hd (fun H1 locs1 p1 p2 p3 => ?_)
  have hW1 := hW.upd h1 (c := .inl (ci, fs.set k v)) ⟨_, rfl, h3.set hvw⟩ p1 p2 p3
  have he : q_ads sb (ws.set i (a, .inr (ci, gs.set k w))) = q_ads sb ws := q_ads_set h1
  exact kk D dT H0 p l e R s m args below meth c H1 locs1 cells slots ls _ sb _ ads0 kc' ks' ⟨hF, hW1, by rw [he]; exact hL, by rw [he]; exact hS, by rw [he]; exact hr⟩
theorem q_iald {i t : Nat} {j : Int32} {a : List Int32} (hd : decode (q_cc M) pc = .ok (.iaload, 1)) (hh : h i = .inr (.inl (t, a))) (ht : q_ty[t]? = some .int) (hj : vp_in j a.length) (kk : q_A Sc M (pc + 1) L (.int (a.getD j.toNatClampNeg 0) :: st) h n kc ks Q) : q_A Sc M pc L (.int j :: .ref i :: st) h n kc ks Q := by
  intro D dT H0 p l e R s m args below meth c H locs cells slots ls st' sb ws ads0 kc' ks' g
  obtain ⟨hF, hW, hL, ⟨_, _, rfl, rfl, _, _, rfl, ⟨b, ha, rfl⟩, hS⟩, hr⟩ := g
  obtain ⟨hi, e0, h1, h2⟩ := hW.look ha
  rw [hh] at h2
  subst h2
  exact va_iald hF.1 hF.2.1 hF.2.2.2.2.2.2.2.1 hW.2.2.1 i t h1 (q_tys_at ht) hj hd (kk D dT H0 p l e R s m args below meth c H locs cells slots ls _ sb ws ads0 kc' ks' ⟨hF, hW, hL, ⟨_, _, rfl, rfl, hS⟩, hr⟩)
theorem q_zald {i t : Nat} {j : Int32} {a : List Int32} (hd : decode (q_cc M) pc = .ok (.baload, 1)) (hh : h i = .inr (.inl (t, a))) (ht : q_ty[t]? = some .boolean) (hj : vp_in j a.length) (kk : q_A Sc M (pc + 1) L (.int (a.getD j.toNatClampNeg 0) :: st) h n kc ks Q) : q_A Sc M pc L (.int j :: .ref i :: st) h n kc ks Q := by
  intro D dT H0 p l e R s m args below meth c H locs cells slots ls st' sb ws ads0 kc' ks' g
  obtain ⟨hF, hW, hL, ⟨_, _, rfl, rfl, _, _, rfl, ⟨b, ha, rfl⟩, hS⟩, hr⟩ := g
  obtain ⟨hi, e0, h1, h2⟩ := hW.look ha
  rw [hh] at h2
  subst h2
  exact va_zald hF.1 hF.2.1 hF.2.2.2.2.2.2.2.1 hW.2.2.1 i t h1 (q_tys_at ht) hj hd (kk D dT H0 p l e R s m args below meth c H locs cells slots ls _ sb ws ads0 kc' ks' ⟨hF, hW, hL, ⟨_, _, rfl, rfl, hS⟩, hr⟩)
theorem q_upd_list {a : List Int32} {j : Nat} (hj : j < a.length) (x : Int32) : upd (fun q => a.getD q 0) j x = fun q => (a.set j x).getD q 0 := by
  funext q
  unfold upd
  by_cases hq : q = j
  · subst hq
    rw [if_pos rfl, List.getD_eq_getElem?_getD, List.getElem?_set_self hj]
    rfl
  · rw [if_neg hq]
    show a.getD q 0 = (a.set j x).getD q 0
    rw [List.getD_eq_getElem?_getD, List.getD_eq_getElem?_getD, List.getElem?_set_ne (Ne.symm hq)]
theorem q_iast {i t : Nat} {j x : Int32} {a : List Int32} (hd : decode (q_cc M) pc = .ok (.iastore, 1)) (hh : h i = .inr (.inl (t, a))) (ht : q_ty[t]? = some .int) (hj : vp_in j a.length) (kk : q_A Sc M (pc + 1) L st (q_up h i (.inr (.inl (t, a.set j.toNatClampNeg x)))) n kc ks Q) : q_A Sc M pc L (.int x :: .int j :: .ref i :: st) h n kc ks Q := by
  intro D dT H0 p l e R s m args below meth c H locs cells slots ls st' sb ws ads0 kc' ks' g
  obtain ⟨hF, hW, hL, ⟨_, _, rfl, rfl, _, _, rfl, rfl, _, _, rfl, ⟨b, ha, rfl⟩, hS⟩, hr⟩ := g
  obtain ⟨hi, e0, h1, h2⟩ := hW.look ha
  rw [hh] at h2
  subst h2
  have hlt : j.toNatClampNeg < a.length := Nat.not_le.mp fun q => hj (Or.inr q)
  refine va_iast hF.1 hF.2.1 hF.2.2.2.2.2.2.2.1 hW.2.2.1 hW.2.2.2.1 hW.2.2.2.2 i t h1 (q_tys_at ht) hj hd (fun H1 locs1 p1 p2 p3 => ?_)
  rw [q_upd_list hlt] at p1 p2
  have hW1 := hW.upd h1 (c := .inr (.inl (t, a.set j.toNatClampNeg x))) (by show _ = _; rw [List.length_set]) p1 p2 p3
  have he := q_ads_set (sb := sb) (e' := (.inl (dT t, a.length, .inl (fun q => (a.set j.toNatClampNeg x).getD q 0)))) h1
  exact kk D dT H0 p l e R s m args below meth c H1 locs1 cells slots ls _ sb _ ads0 kc' ks' ⟨hF, hW1, by rw [he]; exact hL, by rw [he]; exact hS, by rw [he]; exact hr⟩
theorem q_zast {i t : Nat} {j x : Int32} {a : List Int32} (hd : decode (q_cc M) pc = .ok (.bastore, 1)) (hh : h i = .inr (.inl (t, a))) (ht : q_ty[t]? = some .boolean) (hj : vp_in j a.length) (hx : vp_nar .boolean x = x) (kk : q_A Sc M (pc + 1) L st (q_up h i (.inr (.inl (t, a.set j.toNatClampNeg x)))) n kc ks Q) : q_A Sc M pc L (.int x :: .int j :: .ref i :: st) h n kc ks Q := by
  intro D dT H0 p l e R s m args below meth c H locs cells slots ls st' sb ws ads0 kc' ks' g
  obtain ⟨hF, hW, hL, ⟨_, _, rfl, rfl, _, _, rfl, rfl, _, _, rfl, ⟨b, ha, rfl⟩, hS⟩, hr⟩ := g
  obtain ⟨hi, e0, h1, h2⟩ := hW.look ha
  rw [hh] at h2
  subst h2
  have hlt : j.toNatClampNeg < a.length := Nat.not_le.mp fun q => hj (Or.inr q)
  refine va_zast hF.1 hF.2.1 hF.2.2.2.2.2.2.2.1 hW.2.2.1 hW.2.2.2.1 hW.2.2.2.2 i t h1 (q_tys_at ht) hj hd (fun H1 locs1 p1 p2 p3 => ?_)
  rw [hx, q_upd_list hlt] at p1 p2
  have hW1 := hW.upd h1 (c := .inr (.inl (t, a.set j.toNatClampNeg x))) (by show _ = _; rw [List.length_set]) p1 p2 p3
  have he := q_ads_set (sb := sb) (e' := (.inl (dT t, a.length, .inl (fun q => (a.set j.toNatClampNeg x).getD q 0)))) h1
  exact kk D dT H0 p l e R s m args below meth c H1 locs1 cells slots ls _ sb _ ads0 kc' ks' ⟨hF, hW1, by rw [he]; exact hL, by rw [he]; exact hS, by rw [he]; exact hr⟩
theorem q_aald {i t : Nat} {C : String} {j : Int32} {a : List (Option Nat)} {v : Nat} (hd : decode (q_cc M) pc = .ok (.aaload, 1)) (hh : h i = .inr (.inr (.inl (t, a)))) (ht : q_ty[t]? = some (.object C)) (hj : vp_in j a.length) (hv : a[j.toNatClampNeg]? = some (some v)) (kk : q_A Sc M (pc + 1) L (.ref v :: st) h n kc ks Q) : q_A Sc M pc L (.int j :: .ref i :: st) h n kc ks Q := by
  intro D dT H0 p l e R s m args below meth c H locs cells slots ls st' sb ws ads0 kc' ks' g
  obtain ⟨hF, hW, hL, ⟨_, _, rfl, rfl, _, _, rfl, ⟨b, ha, rfl⟩, hS⟩, hr⟩ := g
  obtain ⟨hi, e0, h1, h2⟩ := hW.look ha
  rw [hh] at h2
  obtain ⟨f, rfl, h3⟩ := h2
  rcases h3 _ _ hv with ⟨q1, -⟩ | ⟨i2, a2, q1, q2, q3⟩
  · cases q1
  · cases q1
    refine va_aldq hF.1 hF.2.1 hF.2.2.2.2.2.2.2.1 hW.2.2.1 i t h1 (q_tys_at ht) hj hd ?_
    rw [q3]
    exact kk D dT H0 p l e R s m args below meth c H locs cells slots ls _ sb ws ads0 kc' ks' ⟨hF, hW, hL, ⟨_, _, rfl, ⟨a2, q2, rfl⟩, hS⟩, hr⟩
theorem q_alen_i {i t : Nat} {a : List Int32} {ty : FieldType} {v : Int32} (hd : decode (q_cc M) pc = .ok (.arraylength, 1)) (hh : h i = .inr (.inl (t, a))) (ht : q_ty[t]? = some ty) (hv : Int32.ofNat a.length = v) (kk : q_A Sc M (pc + 1) L (.int v :: st) h n kc ks Q) : q_A Sc M pc L (.ref i :: st) h n kc ks Q := by
  intro D dT H0 p l e R s m args below meth c H locs cells slots ls st' sb ws ads0 kc' ks' g
  obtain ⟨hF, hW, hL, ⟨_, _, rfl, ⟨b, ha, rfl⟩, hS⟩, hr⟩ := g
  obtain ⟨hi, e0, h1, h2⟩ := hW.look ha
  rw [hh] at h2
  subst h2
  exact va_alen hF.1 hF.2.1 hF.2.2.2.2.2.2.2.1 hW.2.2.1 i t h1 (q_tys_at ht) hv hd (kk D dT H0 p l e R s m args below meth c H locs cells slots ls _ sb ws ads0 kc' ks' ⟨hF, hW, hL, ⟨_, _, rfl, rfl, hS⟩, hr⟩)
theorem q_alen_r {i t : Nat} {a : List (Option Nat)} {ty : FieldType} {v : Int32} (hd : decode (q_cc M) pc = .ok (.arraylength, 1)) (hh : h i = .inr (.inr (.inl (t, a)))) (ht : q_ty[t]? = some ty) (hv : Int32.ofNat a.length = v) (kk : q_A Sc M (pc + 1) L (.int v :: st) h n kc ks Q) : q_A Sc M pc L (.ref i :: st) h n kc ks Q := by
  intro D dT H0 p l e R s m args below meth c H locs cells slots ls st' sb ws ads0 kc' ks' g
  obtain ⟨hF, hW, hL, ⟨_, _, rfl, ⟨b, ha, rfl⟩, hS⟩, hr⟩ := g
  obtain ⟨hi, e0, h1, h2⟩ := hW.look ha
  rw [hh] at h2
  obtain ⟨f, rfl, h3⟩ := h2
  exact va_alen hF.1 hF.2.1 hF.2.2.2.2.2.2.2.1 hW.2.2.1 i t h1 (q_tys_at ht) hv hd (kk D dT H0 p l e R s m args below meth c H locs cells slots ls _ sb ws ads0 kc' ks' ⟨hF, hW, hL, ⟨_, _, rfl, rfl, hS⟩, hr⟩)
theorem q_new {C : String} {T : u_T} {N ci ix : Nat} {ty : Nat → FieldType} {fs : List Value} (hC : q_cls ci C T N ty) (hw1 : q_in (Cond.classLink (q_own M) ix C)) (hw2 : q_in (Cond.instantiable C N)) (hw3 : q_in (Cond.initialized C)) (hd : decode (q_cc M) pc = .ok (.new ix, 3)) (hfs : ∀ j, j < N → defaultValue (ty j) = vp_V fs j) (hfv : ∀ ads, q_vs ads fs fs) (hk1 : 1 ≤ kc) (hk2 : N ≤ ks) (kk : q_A Sc M (pc + 3) L (.ref n :: st) (q_up h n (.inl (ci, fs))) (n + 1) (kc - 1) (ks - N) Q) : q_A Sc M pc L st h n kc ks Q := by
  intro D dT H0 p l e R s m args below meth c H locs cells slots ls st' sb ws ads0 kc' ks' g
  obtain ⟨hF, hW, hL, hS, ha, g6, g7, g8, g9⟩ := g
  have hT := hF.2.2.2.2.2.2.1
  refine va_new hF.1 hF.2.1 (hC.hts hT args) (fun _ q => q) ty hC.2.2.1 hF.2.2.2.2.2.1 (hT.at hw1 args) (hT.at hw2 args) (hT.at hw3 args) hF.2.2.2.2.2.2.2.1 hW.2.2.1 hW.2.2.2.1 hW.2.2.2.2 (q_Z_new hF.2.2.2.2.2.2.2.2.2.2.2.2.1) hC.1 hfs (by omega) (by omega) hd (fun q H1 p1 p2 p3 => ?_)
  have hW1 := hW.push (c := .inl (ci, fs)) ⟨fs, rfl, hfv _⟩ p1 p2 p3
  have hq : (q_ads sb (ws ++ [(q, (.inr (ci, fs) : va_E))]))[n + 1]? = some q := q_ads_at (e := .inr (ci, fs)) (by rw [List.getElem?_append_right (by rw [hW.1]; exact Nat.le_refl _), hW.1, Nat.sub_self]; rfl)
  exact kk D dT H0 p l e R s m args below meth c H1 locs (cells + 1) (slots + N) ls _ sb _ ads0 kc' ks' ⟨hF, hW1, hL.mono q_ads_push, ⟨_, _, rfl, ⟨q, hq, rfl⟩, hS.mono q_ads_push⟩, ha.tr q_ads_push, by omega, by omega, g8, g9⟩
end QH
end
section
section QM
variable {Sc : q_S} {M : q_M} {pc : Nat} {L st : List Value} {h : q_H} {n kc ks : Nat} {Q : q_O → q_H → Nat → Prop}
theorem q_rep_list (N : Nat) : (fun q => (List.replicate N (0 : Int32)).getD q 0) = fun _ => (0 : Int32) := by
  funext q
  rw [List.getD_eq_getElem?_getD, List.getElem?_replicate]
  split <;> rfl
theorem q_at_end {sb : Nat} {ws : va_W} {n q : Nat} {e : va_E} (h : ws.length = n) : (q_ads sb (ws ++ [(q, e)]))[n + 1]? = some q :=
  q_ads_at (e := e) (by rw [List.getElem?_append_right (by rw [h]; exact Nat.le_refl _), h, Nat.sub_self]; rfl)
theorem q_newa {atype : ArrayType} {ty : FieldType} {t N : Nat} {len : Int32} (hd : decode (q_cc M) pc = .ok (.newarray atype, 2)) (hty : newarray.typeOf atype = ty) (ht : q_ty[t]? = some ty) (hp : ty = .int ∨ ty = .boolean) (hw : q_in (Cond.arrayClass ty)) (hn : ¬ len < 0) (hN : len.toNatClampNeg = N) (hb : N ≤ 4096) (hk1 : 1 ≤ kc) (hk2 : N ≤ ks)
    (kk : q_A Sc M (pc + 2) L (.ref n :: st) (q_up h n (.inr (.inl (t, List.replicate N 0)))) (n + 1) (kc - 1) (ks - N) Q) : q_A Sc M pc L (.int len :: st) h n kc ks Q := by
  intro D dT H0 p l e R s m args below meth c H locs cells slots ls st' sb ws ads0 kc' ks' g
  obtain ⟨hF, hW, hL, ⟨_, _, rfl, rfl, hS⟩, ha, g6, g7, g8, g9⟩ := g
  have hT := hF.2.2.2.2.2.2.1
  have hK := hF.2.2.2.2.2.2.2.1
  refine va_newa (a0 := (N, .inl (fun _ => 0))) hF.1 hF.2.1 (by rw [hty]; exact hT.at hw args) hty hK hW.2.2.1 hW.2.2.2.1 hW.2.2.2.2 (q_Z_new hF.2.2.2.2.2.2.2.2.2.2.2.2.1) (fun cA => by rcases hp with rfl | rfl <;> rfl) hn hN (by rcases hp with rfl | rfl <;> simp [componentBytes] <;> omega) (by omega) (by omega) hd (fun q cA H1 k1 p1 p2 p3 => ?_)
  have hcA : cA = dT t := by
    have r1 := (hK.2 t _ (q_tys_at ht)).2
    have r2 := (k1.2 (q_tys dT).length (cA, ty) (by rw [List.getElem?_append_right (Nat.le_refl _), Nat.sub_self]; rfl)).2
    rcases hp with rfl | rfl
    · exact Option.some.inj ((show s.vm.findClass _ = some cA from r2).symm.trans r1)
    · exact Option.some.inj ((show s.vm.findClass _ = some cA from r2).symm.trans r1)
  subst hcA
  have hW1 := hW.push (c := .inr (.inl (t, List.replicate N 0))) (by show _ = _; rw [List.length_replicate, q_rep_list]) p1 p2 p3
  exact kk D dT H0 p l e R s m args below meth c H1 locs (cells + 1) (slots + N) ls _ sb _ ads0 kc' ks' ⟨hF, hW1, hL.mono q_ads_push, ⟨_, _, rfl, ⟨q, q_at_end hW.1, rfl⟩, hS.mono q_ads_push⟩, ha.tr q_ads_push, by omega, by omega, g8, g9⟩
theorem q_newq {C : String} {t N ix : Nat} {len : Int32} (hd : decode (q_cc M) pc = .ok (.anewarray ix, 3)) (ht : q_ty[t]? = some (.object C)) (hw1 : q_in (Cond.classLink (q_own M) ix C)) (hw2 : q_in (Cond.arrayOver (.object C))) (hn : ¬ len < 0) (hN : len.toNatClampNeg = N) (hb : N ≤ 4096) (hk1 : 1 ≤ kc) (hk2 : N ≤ ks)
    (kk : q_A Sc M (pc + 3) L (.ref n :: st) (q_up h n (.inr (.inr (.inl (t, List.replicate N none))))) (n + 1) (kc - 1) (ks - N) Q) : q_A Sc M pc L (.int len :: st) h n kc ks Q := by
  intro D dT H0 p l e R s m args below meth c H locs cells slots ls st' sb ws ads0 kc' ks' g
  obtain ⟨hF, hW, hL, ⟨_, _, rfl, rfl, hS⟩, ha, g6, g7, g8, g9⟩ := g
  have hT := hF.2.2.2.2.2.2.1
  have hK := hF.2.2.2.2.2.2.2.1
  refine va_newq hF.1 hF.2.1 hF.2.2.2.2.2.1 (hT.at hw1 args) (hT _ hw2) hK hW.2.2.1 hW.2.2.2.1 hW.2.2.2.2 (q_Z_new hF.2.2.2.2.2.2.2.2.2.2.2.2.1) hn hN (by omega) (by omega) (by omega) hd (fun q cA H1 k1 p1 p2 p3 => ?_)
  have hcA : cA = dT t := by
    obtain ⟨_, _, -, -, -, r1⟩ := (hK.2 t _ (q_tys_at ht)).2
    obtain ⟨_, _, -, -, -, r2⟩ := (k1.2 (q_tys dT).length (cA, .object C) (by rw [List.getElem?_append_right (Nat.le_refl _), Nat.sub_self]; rfl)).2
    exact Option.some.inj (r2.symm.trans r1)
  subst hcA
  have hrep : ∀ (j : Nat) (r : Option Nat), (List.replicate N (none : Option Nat))[j]? = some r → r = none := fun j r hr => by
    rw [List.getElem?_replicate] at hr
    split at hr
    · exact (Option.some.inj hr).symm
    · cases hr
  have hW1 := hW.push (c := .inr (.inr (.inl (t, List.replicate N none)))) ⟨fun _ => none, by rw [List.length_replicate], fun j r hr => Or.inl ⟨hrep j r hr, rfl⟩⟩ p1 p2 p3
  exact kk D dT H0 p l e R s m args below meth c H1 locs (cells + 1) (slots + N) ls _ sb _ ads0 kc' ks' ⟨hF, hW1, hL.mono q_ads_push, ⟨_, _, rfl, ⟨q, q_at_end hW.1, rfl⟩, hS.mono q_ads_push⟩, ha.tr q_ads_push, by omega, by omega, g8, g9⟩
theorem q_aast {C : String} {T : u_T} {N ci i i2 t : Nat} {ty : Nat → FieldType} {j : Int32} {a : List (Option Nat)} {fs : List Value} (hC : q_cls ci C T N ty) (hd : decode (q_cc M) pc = .ok (.aastore, 1)) (hh : h i = .inr (.inr (.inl (t, a)))) (ht : q_ty[t]? = some (.object C)) (hh2 : h i2 = .inl (ci, fs)) (hj : vp_in j a.length)
    (kk : q_A Sc M (pc + 1) L st (q_up h i (.inr (.inr (.inl (t, a.set j.toNatClampNeg (some i2)))))) n kc ks Q) : q_A Sc M pc L (.ref i2 :: .int j :: .ref i :: st) h n kc ks Q := by
  intro D dT H0 p l e R s m args below meth c H locs cells slots ls st' sb ws ads0 kc' ks' g
  obtain ⟨hF, hW, hL, ⟨_, _, rfl, ⟨b2, ha2, rfl⟩, _, _, rfl, rfl, _, _, rfl, ⟨b, ha, rfl⟩, hS⟩, hr⟩ := g
  obtain ⟨hi, e0, h1, h2⟩ := hW.look ha
  rw [hh] at h2
  obtain ⟨f, rfl, h3⟩ := h2
  obtain ⟨hi2, e2, h4, h5⟩ := hW.look ha2
  rw [hh2] at h5
  obtain ⟨gs, rfl, -⟩ := h5
  have hlt : j.toNatClampNeg < a.length := Nat.not_le.mp fun q => hj (Or.inr q)
  refine va_astq hF.1 hF.2.1 hF.2.2.2.2.2.2.2.1 hW.2.2.1 hW.2.2.2.1 hW.2.2.2.2 i t i2 ci h1 (q_tys_at ht) h4 hC.1 hj hd (fun H1 locs1 p1 p2 p3 => ?_)
  have hW1 := hW.upd h1 (c := .inr (.inr (.inl (t, a.set j.toNatClampNeg (some i2))))) ⟨_, by rw [List.length_set], fun q r hr => ?_⟩ p1 p2 p3
  · have he := q_ads_set (sb := sb) (e' := (.inl (dT t, a.length, .inr (.inr (.inr (.inr (va_up f j.toNatClampNeg (some b2)))))))) h1
    exact kk D dT H0 p l e R s m args below meth c H1 locs1 cells slots ls _ sb _ ads0 kc' ks' ⟨hF, hW1, by rw [he]; exact hL, by rw [he]; exact hS, by rw [he]; exact hr⟩
  · by_cases hq : j.toNatClampNeg = q
    · subst hq
      rw [List.getElem?_set_self hlt] at hr
      cases hr
      exact Or.inr ⟨i2, b2, rfl, ha2, if_pos rfl⟩
    · rw [List.getElem?_set_ne hq] at hr
      have := h3 q r hr
      rw [show va_up f j.toNatClampNeg (some b2) q = f q from if_neg (fun z => hq z.symm)]
      exact this
theorem q_Wmono {p : Program} {l : Launch} {e : Env} {R : Room} {s : State} {m : MethodId} {args : Array Value} {below : List Frame} {meth : Method} {c : Code} {H : Heap} {locs : List Loc} {cells slots : Nat} {Q1 Q2 : State → Prop} {g : JFrame} (hq : ∀ t, Q1 t → Q2 t) (k : W p l e R s m args below meth c H locs cells slots Q1 g) : W p l e R s m args below meth c H locs cells slots Q2 g := by
  intro T hT X
  obtain ⟨t, a, b⟩ := k T hT X
  exact ⟨t, a, hq t b⟩
theorem q_iret {ty : FieldType} {v : Int32} (hd : decode (q_cc M) pc = .ok (.ireturn, 1)) (hr : q_rt M = some ty) (hn : narrow ty (.int v) = .int v) (hq : Q (.inl (some (.int v))) h n) : q_A Sc M pc L [.int v] h n kc ks Q := by
  intro D dT H0 p l e R s m args below meth c H locs cells slots ls st' sb ws ads0 kc' ks' g
  obtain ⟨hF, hW, hL, ⟨_, _, rfl, rfl, rfl⟩, ha, g6, g7, g8, g9⟩ := g
  refine W.widen (k := kc') (n := ks') (by omega) (by omega) ?_
  refine q_Wmono ?_ (W.zret (Qc := fun _ _ o t => o = .returned (some (.int v)) ∧ t.heap = H) (free := q_Z H0 s) hF.1 hF.2.1 (hF.2.2.2.1.trans hr) hn (fun t ht _ => ⟨rfl, ht⟩) hW.2.2.2.2.2.2 hd hF.2.2.2.2.1)
  rintro t ⟨o, b1, b2, ⟨rfl, b4⟩, L', ⟨-, b5, b6⟩, b7⟩
  exact ⟨_, L', h, n, ws, .inl (some (.int v)), b1, b2, b5, b6, hq, ⟨hW.1, hW.2.1, by rw [b4]; exact hW.2.2.1, hW.2.2.2.1, by rw [b4]; exact ⟨hW.2.2.2.2.1, hW.2.2.2.2.2.1, b7⟩⟩, ha, ⟨_, rfl, rfl⟩⟩
theorem q_vret (hd : decode (q_cc M) pc = .ok (.return_, 1)) (hr : q_rt M = none) (hq : Q (.inl none) h n) : q_A Sc M pc L [] h n kc ks Q := by
  intro D dT H0 p l e R s m args below meth c H locs cells slots ls st' sb ws ads0 kc' ks' g
  obtain ⟨hF, hW, hL, rfl, ha, g6, g7, g8, g9⟩ := g
  refine W.widen (k := kc') (n := ks') (by omega) (by omega) ?_
  refine q_Wmono ?_ (W.vret (Qc := fun _ _ o t => o = .returned none ∧ t.heap = H) (free := q_Z H0 s) hF.1 hF.2.1 (hF.2.2.2.1.trans hr) (fun t ht _ => ⟨rfl, ht⟩) hW.2.2.2.2.2.2 hd hF.2.2.2.2.1)
  rintro t ⟨o, b1, b2, ⟨rfl, b4⟩, L', ⟨-, b5, b6⟩, b7⟩
  exact ⟨_, L', h, n, ws, .inl none, b1, b2, b5, b6, hq, ⟨hW.1, hW.2.1, by rw [b4]; exact hW.2.2.1, hW.2.2.2.1, by rw [b4]; exact ⟨hW.2.2.2.2.1, hW.2.2.2.2.2.1, b7⟩⟩, ha, rfl⟩
theorem q_aret {rt : FieldType} {i : Nat} (hd : decode (q_cc M) pc = .ok (.areturn, 1)) (hr : q_rt M = some rt) (hrt : (∃ x, rt = .object x) ∨ ∃ x, rt = .array x) (hq : Q (.inl (some (.ref i))) h n) : q_A Sc M pc L [.ref i] h n kc ks Q := by
  intro D dT H0 p l e R s m args below meth c H locs cells slots ls st' sb ws ads0 kc' ks' g
  obtain ⟨hF, hW, hL, ⟨_, _, rfl, ⟨a, ha1, rfl⟩, rfl⟩, ha, g6, g7, g8, g9⟩ := g
  refine W.widen (k := kc') (n := ks') (by omega) (by omega) ?_
  refine q_Wmono ?_ (W.aret (Qc := fun _ _ o t => o = .returned (some (.ref a)) ∧ t.heap = H) (free := q_Z H0 s) hF.1 hF.2.1 (hF.2.2.2.1.trans hr) hrt (Or.inr ⟨a, rfl⟩) (fun t ht _ => ⟨rfl, ht⟩) hW.2.2.2.2.2.2 hd hF.2.2.2.2.1)
  rintro t ⟨o, b1, b2, ⟨rfl, b4⟩, L', ⟨-, b5, b6⟩, b7⟩
  exact ⟨_, L', h, n, ws, .inl (some (.ref i)), b1, b2, b5, b6, hq, ⟨hW.1, hW.2.1, by rw [b4]; exact hW.2.2.1, hW.2.2.2.1, by rw [b4]; exact ⟨hW.2.2.2.2.1, hW.2.2.2.2.2.1, b7⟩⟩, ha, ⟨_, rfl, a, ha1, rfl⟩⟩
end QM
end
section
/-- the locals with which a method begins -/
def q_L0 (M : q_M) (vs : List Value) : List Value := vs ++ List.replicate (q_nL M - vs.length) (.retAddr 0)
def q_one : List Value → Bool
  | [] => true
  | v :: r => decide (v.category = 1) && q_one r
theorem q_one_c {v : Value} {r : List Value} (h : q_one (v :: r) = true) : v.category = 1 ∧ q_one r = true := by
  simpa [q_one] using h
theorem q_sl {ads : List Nat} : ∀ {vs ws : List Value}, q_one vs = true → q_vs ads vs ws → lg_sl ws = ws.map Slot.val
  | [], _, _, h => by rw [show _ = [] from h]; rfl
  | _ :: _, _, ho, ⟨w, r, e, h1, h2⟩ => by
    subst e
    have h3 := q_sl (q_one_c ho).2 h2
    have hc := h1.cat.trans (q_one_c ho).1
    show (w :: r).flatMap _ = _
    rw [List.flatMap_cons]
    have h4 : lg_sl r = r.map Slot.val := h3
    unfold lg_sl at h4
    rw [h4]
    simp [hc]
theorem q_args {ads : List Nat} : ∀ {vs ws : List Value} (k : Nat), q_one vs = true → q_vs ads vs ws → ∀ {i : Nat} {v : Value}, vs[i]? = some v → ∃ w, q_v ads v w ∧ w.category = 1 ∧ (k + i, w) ∈ lv_args k ws
  | [], _, _, _, _, _, _, h => by simp at h
  | _ :: _, _, k, ho, ⟨w, r, e, h1, h2⟩, i, v, h => by
    subst e
    have hc1 : w.category = 1 := h1.cat.trans (q_one_c ho).1
    have hc : ¬ w.category = 2 := by rw [hc1]; decide
    cases i with
    | zero =>
      rw [List.getElem?_cons_zero] at h
      cases h
      exact ⟨w, h1, hc1, by unfold lv_args; exact List.mem_cons_self⟩
    | succ i =>
      rw [List.getElem?_cons_succ] at h
      obtain ⟨w2, q1, q3, q2⟩ := q_args (k + 1) (q_one_c ho).2 h2 h
      refine ⟨w2, q1, q3, ?_⟩
      unfold lv_args
      rw [if_neg hc]
      rw [show k + (i + 1) = k + 1 + i by omega]
      exact List.mem_cons_of_mem _ q2
theorem q_L_entry {ads : List Nat} {M : q_M} {vs ws : List Value} (ho : q_one vs = true) (h : q_vs ads vs ws) (hn : vs.length ≤ q_nL M) : q_L ads (q_nL M) (q_L0 M vs) ((lg_sl ws ++ List.replicate (q_nL M - (lg_sl ws).length) Slot.unset).toArray) := by
  have hl : (lg_sl ws).length ≤ q_nL M := by rw [q_sl ho h, List.length_map, h.len]; exact hn
  have hh := lv_entry ws hl
  refine ⟨hh.1, hh.2.1, fun i v hv => ?_⟩
  unfold q_L0 at hv
  by_cases hi : i < vs.length
  · rw [List.getElem?_append_left hi] at hv
    obtain ⟨w, h1, h3, h2⟩ := q_args 0 ho h hv
    rw [Nat.zero_add] at h2
    exact Or.inr ⟨w, h1, h3, hh.2.2 (i, w) h2⟩
  · rw [List.getElem?_append_right (by omega), List.getElem?_replicate] at hv
    split at hv
    · exact Or.inl ⟨0, (Option.some.inj hv).symm⟩
    · cases hv
/-- the code of a method, as the tables have it -/
def q_code (M : q_M) (s : State) (mk : MethodId) : Prop := ∃ (methk : Method) (ck : Code), s.vm.method? mk = some methk ∧ methk.code = some ck ∧ ck.code = q_cc M ∧ ck.maxLocals = q_nL M ∧ methk.sig.returnType = q_rt M ∧ methk.locks = false ∧ ck.exceptionTable.toList.map (fun x => (x.startPc, x.endPc, x.handlerPc, x.catchType)) = q_hs M ∧ parseMethodDescriptor (q_nm M).desc = some methk.sig
theorem q_code_of {M : q_M} {s : State} {mk : MethodId} {a : Array Value} (hn : s.methodNamed? (q_nm M) = some mk) (hh : q_hs M = []) (h : (Cond.code (q_nm M) (q_cc M) (q_nL M) (q_rt M)).before a s = true) : q_code M s mk := by
  obtain ⟨methk, ck, h1, h2, h3, h4, h5, h6, h7, h8⟩ := Cond.code_spec hn h
  refine ⟨methk, ck, h1, h2, h3, h4, h5, h6, ?_, h8⟩
  rw [hh]
  have : ck.exceptionTable = #[] := by simpa using h7
  rw [this]
  rfl
/-- the class that a catch type of the law's pool names -/
def q_ct (t : Nat) : Option Nat := if t = 13 then some 0 else if t = 15 then some 1 else none
/-- the handler of a throw of the kind x at pc -/
def q_hfl (pc x : Nat) : List (Nat × Nat × Nat × Nat) → Option Nat
  | [] => none
  | r :: rs => if r.1 ≤ pc ∧ pc < r.2.1 then (if q_ct r.2.2.2 = some x then some r.2.2.1 else q_hfl pc x rs) else q_hfl pc x rs
def q_hf (M : q_M) (pc x : Nat) : Option Nat := q_hfl pc x (q_hs M)
/-- where a throw of the kind x at pc goes in the method M -/
def q_Th (Sc : q_S) (M : q_M) (pc : Nat) (L : List Value) (h : q_H) (n kc ks : Nat) (Q : q_O → q_H → Nat → Prop) (x : Nat) : Prop :=
  match q_hf M pc x with
  | none => (∀ r ∈ q_hs M, ¬ (r.1 ≤ pc ∧ pc < r.2.1)) ∧ Q (.inr x) h n
  | some hpc => (∀ r ∈ q_hs M, (q_ct r.2.2.2).isSome = true) ∧ q_own M = "GroupFiltersLaw" ∧ q_A Sc M hpc L [.float 0] h n kc ks Q
abbrev q_row (x : ExceptionTableEntry) : Nat × Nat × Nat × Nat := (x.startPc, x.endPc, x.handlerPc, x.catchType)
/-- one row of a table, its class cold or warm: taken or passed -/
theorem q_go_row {e : Env} {d : Bool} {acts : List Action} {S : State} {f : JFrame} {a : Addr} {Q : Handler → Pre} {E : CtlPost} {x : ExceptionTableEntry} {t : List ExceptionTableEntry} {c : ClassId} {cell : Cell} (hx : covers x f.pc = true) (h0 : x.catchType ≠ 0)
    (hl : S.vm.ClassLinks e.platform f.method.cls x.catchType c) (hcell : S.heap[a]? = some cell) (hobj : ∀ k, cell.vm ≠ .statics k) (hk : ∃ k, S.vm.classes[cell.cls]? = some k) (hc : ∃ k, S.vm.classes[c]? = some k) :
    wp (findHandler.go f a (x :: t)) Q E e d acts S ↔ (if S.vm.assignable cell.cls c = true then Q (.found x.handlerPc) d acts (S.setVm (S.vm.noted f.method.cls x.catchType (.cls c))) else wp (findHandler.go f a t) Q E e d acts (S.setVm (S.vm.noted f.method.cls x.catchType (.cls c)))) := by
  simp only [covers] at hx
  obtain ⟨ha, ht⟩ := (resolveClass_links e.toSetting hl).op (op := VmOp.resolveClass f.method.cls x.catchType) rfl
  have hal : S.vm.Alike (S.vm.noted f.method.cls x.catchType (.cls c)) := (Vm.Alike.refl S.vm).noted _ _ _
  obtain ⟨k1, hk1⟩ := hk
  obtain ⟨k2, hk2⟩ := hc
  obtain ⟨k1', hk1', -⟩ := hal.2.2 _ _ hk1
  obtain ⟨k2', hk2', -⟩ := hal.2.2 _ _ hk2
  have hfe := hal.assignable cell.cls c
  cases hfit : S.vm.assignable cell.cls c <;> rw [hfit] at hfe <;>
    simp [findHandler.go, hx, h0, ha, ht, hcell, hobj, hk1', hk2', hfe, VmOp.dirties, VmOp.acts]
/-- the whole search, rows with cold or warm classes -/
theorem q_go {e : Env} {s : State} {f : JFrame} {a : Addr} {cell : Cell} (hobj : ∀ k, cell.vm ≠ .statics k) {k0 : Class} (hk0 : s.vm.classes[cell.cls]? = some k0) {x : Nat}
    (hcs : ∀ t y, q_ct t = some y → ∃ c, s.vm.ClassLinks e.platform f.method.cls t c ∧ s.vm.assignable cell.cls c = decide (y = x)) :
    ∀ (es : List ExceptionTableEntry) (S : State), s.WarmedH S.vm → S.heap[a]? = some cell → (∀ z ∈ es, (q_ct z.catchType).isSome = true) →
      ∃ vm', s.WarmedH vm' ∧ ∀ (Q : Handler → Pre) (E : CtlPost) (d : Bool) (acts : List Action), wp (findHandler.go f a es) Q E e d acts S ↔ Q (match q_hfl f.pc x (es.map q_row) with | none => .none | some hp => .found hp) d acts (S.setVm vm') := by
  intro es
  induction es with
  | nil =>
    intro S hW hcell _
    exact ⟨S.vm, hW, fun Q E d acts => by rw [W.findHandler_go_nil]; rfl⟩
  | cons z zs ih =>
    intro S hW hcell hall
    have hrest : ∀ y ∈ zs, (q_ct y.catchType).isSome = true := fun y hy => hall y (List.mem_cons_of_mem _ hy)
    by_cases hcov : covers z f.pc = true
    · have hcov2 : z.startPc ≤ f.pc ∧ f.pc < z.endPc := by simpa [covers] using hcov
      obtain ⟨y, hy⟩ := Option.isSome_iff_exists.mp (hall z List.mem_cons_self)
      have h0 : z.catchType ≠ 0 := fun q => by rw [q] at hy; simp [q_ct] at hy
      obtain ⟨c, hl, hfit⟩ := hcs _ _ hy
      obtain ⟨dk, _, _, kt, hd, _, _, _, _, hkt, _, hopen⟩ := hl.here
      obtain ⟨kt', hkt', -⟩ := hW.alike.2.2 _ _ hkt
      obtain ⟨k0', hk0', -⟩ := hW.alike.2.2 _ _ hk0
      have hW2 : s.WarmedH (S.vm.noted f.method.cls z.catchType (.cls c)) := hW.noted hd hopen (State.rightAt_cls hl)
      have hfit2 : S.vm.assignable cell.cls c = decide (y = x) := by rw [hW.alike.assignable]; exact hfit
      by_cases hyx : y = x
      · refine ⟨_, hW2, fun Q E d acts => ?_⟩
        rw [q_go_row hcov h0 (hW.classLinks hl) hcell hobj ⟨k0', hk0'⟩ ⟨kt', hkt'⟩, hfit2, decide_eq_true hyx, if_pos rfl]
        have he : q_hfl f.pc x ((z :: zs).map q_row) = some z.handlerPc := by
          rw [List.map_cons, q_hfl, if_pos hcov2, if_pos (by rw [hy, hyx])]
        rw [he]
      · obtain ⟨vm', hW', hq⟩ := ih (S.setVm (S.vm.noted f.method.cls z.catchType (.cls c))) hW2 hcell hrest
        refine ⟨vm', hW', fun Q E d acts => ?_⟩
        rw [q_go_row hcov h0 (hW.classLinks hl) hcell hobj ⟨k0', hk0'⟩ ⟨kt', hkt'⟩, hfit2, decide_eq_false hyx, if_neg (by decide), hq]
        have he : q_hfl f.pc x ((z :: zs).map q_row) = q_hfl f.pc x (zs.map q_row) := by
          rw [List.map_cons, q_hfl, if_pos hcov2, if_neg (by rw [hy]; exact fun q => hyx (Option.some.inj q))]
        rw [he]
        exact Iff.rfl
    · obtain ⟨vm', hW', hq⟩ := ih S hW hcell hrest
      refine ⟨vm', hW', fun Q E d acts => ?_⟩
      rw [W.findHandler_go_skip (by simpa using hcov), hq]
      have he : q_hfl f.pc x ((z :: zs).map q_row) = q_hfl f.pc x (zs.map q_row) := by
        rw [List.map_cons, q_hfl, if_neg (by simpa [covers] using hcov)]
      rw [he]
end
section
theorem q_w13 : q_in (Cond.classLink "GroupFiltersLaw" 13 "java/lang/IndexOutOfBoundsException") := q_in_at 225 (by decide +kernel) rfl
theorem q_w15 : q_in (Cond.classLink "GroupFiltersLaw" 15 "java/lang/IllegalArgumentException") := q_in_at 226 (by decide +kernel) rfl
theorem q_wc0 : q_in (Cond.castable "java/lang/IndexOutOfBoundsException" "java/lang/IndexOutOfBoundsException") := q_in_at 236 (by decide +kernel) rfl
theorem q_wc1 : q_in (Cond.castable "java/lang/IllegalArgumentException" "java/lang/IllegalArgumentException") := q_in_at 306 (by decide +kernel) rfl
theorem q_caught {tb : Tables} {e : Env} {s target : State} {g : JFrame} {c : Code} {below : List Frame} {a : Addr} (h : At s g.method c below) {pc : Nat} {vm' : Vm}
    (hfind : ∀ (Q : Handler → Pre) (E : CtlPost) (d : Bool) (acts : List Action), wp (findHandler g a) Q E e d acts ((s.setTop g).pushFrame (.throwing a)) ↔ Q (.found pc) d acts (((s.setTop g).pushFrame (.throwing a)).setVm vm'))
    (hrest : Steps tb e below ((s.setVm vm').setTop { g with pc := pc, stack := [.ref a] }) target) : Steps tb e below ((s.setTop g).pushFrame (.throwing a)) target := by
  obtain ⟨hgo, hw⟩ := h.throwing a
  refine Steps.head hgo hw ?_
  have hst : ∀ r : List Frame, (stepThrowing e ((s.setTop g).pushFrame (.throwing a)) a (.java g :: r)).Is ((((s.setTop g).pushFrame (.throwing a)).setVm vm').setFrames (.java { g with pc := pc, stack := [.ref a] } :: r)) [] := by
    intro r
    simp only [stepThrowing, searchFrame, vmDo]
    generalize hr : Sem.go _ e false [] ((s.setTop g).pushFrame (.throwing a)) = res
    obtain ⟨as, rfl, ha⟩ := Sem.eq_ok_of hr (a := Handler.found pc) (s' := ((s.setTop g).pushFrame (.throwing a)).setVm vm') (acts' := []) (by simp [hfind _ _ _ _])
    exact ⟨rfl, ha⟩
  rw [stepThread_throwing (frames_entered h.top _), (hst _).1]
  obtain ⟨g₀, hg⟩ := Option.isSome_iff_exists.mp h.top
  obtain ⟨r, hr⟩ := State.topJava?_eq_some.mp hg
  have hr' : (s.setVm vm').frames = .java g₀ :: r := hr
  rw [State.setTop_of_frames _ hr'] at hrest
  have hc : ∀ (u : State) (F G : List Frame), ((u.setFrames F).setVm vm').setFrames G = (u.setVm vm').setFrames G := fun u F G => by
    show (((u.setVm vm').setFrames F)).setFrames G = _
    rw [State.setFrames_setFrames]
  rw [hr, List.tail_cons, State.pushFrame, hc, State.setTop_of_frames _ hr, hc]
  exact hrest
section QTH
variable {Sc : q_S} {sb : Nat} {M : q_M} {pc : Nat} {L : List Value} {h : q_H} {n kc ks : Nat} {Q : q_O → q_H → Nat → Prop}
variable {D : va_G} {dT : Nat → ClassId} {H0 : Heap} {p : Program} {l : Launch} {e : Env} {R : Room} {s : State} {m : MethodId} {args : Array Value} {below : List Frame} {meth : Method} {c : Code} {locs : List Loc} {cells slots : Nat} {ls : Array Slot} {ws : va_W} {ads0 : List Nat} {kc' ks' : Nat} {T : State}
theorem q_thrown (hF : q_F Sc M D dT H0 sb p l R s m meth c) (hW : q_W D dT H0 s h n sb ws T.heap locs) (hL : q_L (q_ads sb ws) (q_nL M) L ls) (ha : q_le ads0 (q_ads sb ws)) (g6 : cells + kc ≤ kc') (g7 : slots + ks ≤ ks') (g8 : kc' ≤ R.cells) (g9 : ks' ≤ R.slots)
    (X : Stand p l e R s m args below meth c T locs cells slots) {st : List Value} {x : Nat} {xa : Addr} {cell : Cell} {Xn : String} (e1 : q_ex[x]? = some Xn) (e3 : T.heap[xa]? = some cell) (e4 : T.vm.findClass Xn = some cell.cls) (e5 : cell.vm = .none)
    (k : q_Th Sc M pc L h n kc ks Q x) : ∃ t, Steps p.tables e below ((T.setTop (F0 m pc ls st)).pushFrame (.throwing xa)) t ∧ q_End D dT H0 s below sb ads0 kc' ks' Q t := by
  have hF0 := hF
  obtain ⟨f1, f2, f3, f4, f5, f6, f7, f8, f9, f10, f11, f12, f13, f14, f15, f16, f17⟩ := hF
  unfold q_Th at k
  split at k
  · obtain ⟨hout, hQ⟩ := k
    have hout' : ∀ y ∈ c.exceptionTable.toList, covers y pc = false := fun y hy => by
      have h1 : q_row y ∈ q_hs M := by rw [← f11]; exact List.mem_map.mpr ⟨y, hy, rfl⟩
      have h2 := hout _ h1
      simpa [covers] using h2
    obtain ⟨st1, hrun, hend, hWm, hsm⟩ := X.leaveThrown xa (g := F0 m pc ls st) rfl rfl rfl hout' f5
    exact ⟨_, st1, .threw xa, locs, h, n, ws, .inr x, hrun, hend, hWm, hsm.mono (by omega) (by omega), hQ, hW, ha, ⟨xa, cell, Xn, e1, rfl, e3, e4, e5⟩⟩
  · rename_i hpc hq
    obtain ⟨hall, hown, kA⟩ := k
    have hpl : e.platform.magicAccessors = ({} : Platform).magicAccessors := by rw [X.admits.platform]
    have hown' : s.vm.findClass "GroupFiltersLaw" = some m.cls := by rw [← hown]; exact f6
    obtain ⟨c0, hc0, hl0⟩ := Cond.classLink_spec hown' (f7.at q_w13 args) e.platform hpl
    obtain ⟨c1, hc1, hl1⟩ := Cond.classLink_spec hown' (f7.at q_w15 args) e.platform hpl
    obtain ⟨u1, u2, hu1, hu2, hu3⟩ := Cond.castable_spec (f7.at q_wc0 args)
    obtain ⟨v1, v2, hv1, hv2, hv3⟩ := Cond.castable_spec (f7.at q_wc1 args)
    obtain ⟨-, -, -, -, -, ⟨a1, a2, ha1, ha2, ha3⟩, ⟨b1, b2, hb1, hb2, hb3⟩⟩ := f15
    have e4' : s.vm.findClass Xn = some cell.cls := by rw [← X.warmed.alike.findClass]; exact e4
    obtain ⟨k0, hk0, -⟩ := Vm.findClass_spec e4'
    have hx2 : (x = 0 ∧ Xn = "java/lang/IndexOutOfBoundsException") ∨ (x = 1 ∧ Xn = "java/lang/IllegalArgumentException") := by
      match x, e1 with
      | 0, e1 => exact Or.inl ⟨rfl, (Option.some.inj e1).symm⟩
      | 1, e1 => exact Or.inr ⟨rfl, (Option.some.inj e1).symm⟩
      | k + 2, e1 => simp [q_ex] at e1
    have hcs : ∀ t y, q_ct t = some y → ∃ c, s.vm.ClassLinks e.platform (F0 m pc ls st).method.cls t c ∧ s.vm.assignable cell.cls c = decide (y = x) := by
      intro t y hty
      unfold q_ct at hty
      split at hty
      · rename_i ht
        subst ht
        cases hty
        refine ⟨c0, hl0, ?_⟩
        rcases hx2 with ⟨rfl, rfl⟩ | ⟨rfl, rfl⟩
        · cases hu1.symm.trans e4'
          cases hu2.symm.trans hc0
          exact hu3
        · cases ha1.symm.trans e4'
          cases ha2.symm.trans hc0
          exact ha3
      · split at hty
        · rename_i ht
          subst ht
          cases hty
          refine ⟨c1, hl1, ?_⟩
          rcases hx2 with ⟨rfl, rfl⟩ | ⟨rfl, rfl⟩
          · cases hb1.symm.trans e4'
            cases hb2.symm.trans hc1
            exact hb3
          · cases hv1.symm.trans e4'
            cases hv2.symm.trans hc1
            exact hv3
        · cases hty
    obtain ⟨vm', hWv, hgo⟩ := q_go (e := e) (s := s) (f := F0 m pc ls st) (a := xa) (cell := cell) (fun k q => by rw [e5] at q; cases q) hk0 (x := x) hcs c.exceptionTable.toList ((T.setTop (F0 m pc ls st)).pushFrame (.throwing xa)) X.warmed e3
      (fun z hz => hall (q_row z) (by rw [← f11]; exact List.mem_map.mpr ⟨z, hz, rfl⟩))
    have hq' : q_hfl pc x (c.exceptionTable.toList.map q_row) = some hpc := by
      rw [show c.exceptionTable.toList.map q_row = q_hs M from f11]
      exact hq
    obtain ⟨t, a1', a2'⟩ := kA D dT H0 p l e R s m args below meth c T.heap locs cells slots ls [.ref xa] sb ws ads0 kc' ks' ⟨hF0, hW, hL, ⟨_, _, rfl, ⟨xa, rfl, fun q => absurd q (by decide)⟩, rfl⟩, ha, g6, g7, g8, g9⟩ (T.setVm vm') rfl (X.noted hWv)
    refine ⟨t, q_caught (g := F0 m pc ls st) (pc := hpc) (vm' := vm') X.here (fun Q' E d acts => ?_) a1', a2'⟩
    rw [W.findHandler_eq (s := (T.setTop (F0 m pc ls st)).pushFrame (.throwing xa)) (f := F0 m pc ls st) (meth := meth) (code := c) X.method' X.code, hgo]
    show Q' (match q_hfl pc x (c.exceptionTable.toList.map q_row) with | none => .none | some hp => .found hp) d acts _ ↔ _
    rw [hq']
end QTH
section QCORE
variable {Sc : q_S} {sb : Nat} {M M' : q_M} {pc : Nat} {L rest vs : List Value} {h : q_H} {n kc ks kc1 ks1 : Nat} {Q P : q_O → q_H → Nat → Prop}
variable {D : va_G} {dT : Nat → ClassId} {H0 : Heap} {p : Program} {l : Launch} {e : Env} {R : Room} {s : State} {m : MethodId} {args : Array Value} {below : List Frame} {meth : Method} {c : Code} {H : Heap} {locs : List Loc} {cells slots : Nat} {ls : Array Slot} {rest' as' st' : List Value} {ws : va_W} {ads0 : List Nat} {kc' ks' : Nat}
theorem q_core (hG : q_G Sc M L rest h n kc ks D dT H0 p l R s m meth c H locs cells slots ls rest' sb ws ads0 kc' ks') (hvs : q_vs (q_ads sb ws) vs as')
    (hB : q_A Sc M' 0 (q_L0 M' vs) [] h n kc1 ks1 P) (hk1 : kc1 ≤ kc) (hk2 : ks1 ≤ ks) (hfr : q_fr M' + 1 ≤ q_fr M) (hlo : (rest.map fun v => v.category).sum + (q_nL M' + 11) + q_lo M' ≤ q_lo M) (hnl : vs.length ≤ q_nL M') (hone : q_one vs = true)
    {ig : Instr} (hdg : decode (q_cc M) pc = .ok (ig, 3)) {T : State} (hT : T.heap = H) {mk : MethodId} {vm₁ : Vm} (X : Stand p l e R s m args below meth c T locs cells slots) (X₁ : Stand p l e R s m args below meth c (T.setVm vm₁) locs cells slots)
    (hstep : ∀ target, (∀ acts, Steps p.tables e below (doInvoke e ((T.setVm vm₁).setTop (F0 m pc ls rest')) acts mk as'.toArray).1 target) → Steps p.tables e below (T.setTop (F0 m pc ls st')) target)
    (hnamed : s.methodNamed? (q_nm M') = some mk) (hcd : q_code M' s mk) (hpl : plainName (q_nm M').cls = true) (hownM : (q_nm M').cls = q_own M')
    (k1 : ∀ v h' n', P (.inl v) h' n' → q_A Sc M (pc + 3) L (v.toList ++ rest) h' n' (kc - kc1) (ks - ks1) Q)
    (k2 : ∀ x h' n', P (.inr x) h' n' → q_Th Sc M pc L h' n' (kc - kc1) (ks - ks1) Q x) :
    ∃ t, Steps p.tables e below (T.setTop (F0 m pc ls st')) t ∧ q_End D dT H0 s below sb ads0 kc' ks' Q t := by
  obtain ⟨hF, hW, hL, hS, ha, g6, g7, g8, g9⟩ := hG
  obtain ⟨methk, ck, hmk, hck, hcb, hml, hrt, hlk, hex, hsg⟩ := hcd
  obtain ⟨f1, f2, f3, f4, f5, f6, f7, f8, f9, f10, f11, f12, f13, f14, f15, f16, f17⟩ := hF
  have hmk1 : (T.setVm vm₁).vm.method? mk = some methk := by rw [X₁.warmed.alike.method?]; exact hmk
  have hnm1 : (T.setVm vm₁).methodNamed? (q_nm M') = some mk := X₁.named hnamed
  have hpk : (T.setVm vm₁).plainMethod mk := State.plainMethod.of_name (fun k hk => by
    obtain ⟨k', hk', hn⟩ := className_of_methodNamed hnm1
    cases hk.symm.trans hk'
    rw [hn]; exact hpl)
  have hsum : (rest'.map fun v => v.category).sum = (rest.map fun v => v.category).sum := hS.sum
  obtain ⟨Y₀, hin⟩ := X₁.into (g := F0 m pc ls rest') rfl (by show ls.size = _; rw [hL.1, f3]) (by rw [f2]; exact hdg) as'.toArray (R' := { frames := q_fr M', cells := kc1, slots := ks1, locals := q_lo M' }) hmk1 hck hlk hpk
    (by show q_fr M' + 1 ≤ R.frames; omega) (by show 2 * 0 + (rest'.map fun v => v.category).sum + (ck.maxLocals + 11) + q_lo M' ≤ R.locals; rw [hsum, hml]; omega) (by show cells + kc1 ≤ R.cells; omega) (by show slots + ks1 ≤ R.slots; omega)
  rw [hml] at Y₀ hin
  generalize hU : ((T.setVm vm₁).setTop (F0 m pc ls rest')).pushFrame (.java (entryFrame mk as'.toArray (q_nL M'))) = U at Y₀ hin
  have hUh : U.heap = H := by rw [← hU, ← hT]; simp [State.pushFrame, State.setFrames, State.setTop, State.modifyTopJava]
  generalize hs' : (T.setVm vm₁).calling (F0 m pc ls rest') mk as'.toArray = s' at Y₀
  have hs'h : s'.heap = H := by rw [← hs', ← hT]; rfl
  have hs'v : s'.vm = vm₁ := by rw [← hs']; rfl
  have hsW : s.WarmedH s'.vm := by rw [hs'v]; exact X₁.warmed
  have hF' : q_F Sc M' D dT H0 sb p l { frames := q_fr M', cells := kc1, slots := ks1, locals := q_lo M' } s' mk methk ck := by
    refine ⟨f1, hcb, hml, hrt, hlk, ?_, q_T.moved hsW f7, va_K.moved hsW.alike f8, Nat.le_refl _, Nat.le_refl _, hex, ?_, ?_, ?_, q_X.moved hsW f15, f16, va_X.moved hsW.alike f17⟩
    · rw [hsW.alike.findClass, ← hownM]
      exact findClass_of_methodNamed hnamed
    · exact (name_of_methodNamed hnamed hmk).1
    · rw [hs'h]; exact Nat.le_trans f13 hW.2.2.2.2.1
    · intro q hq
      rw [hs'h, hW.2.2.2.2.2.1 q (Nat.lt_of_lt_of_le hq f13) (fun z => absurd z (Nat.not_le.mpr hq))]
      exact f14 q hq
  have hZ : ∀ (k : Nat) (q : Nat × va_E), ws[k]? = some q → q_Z H0 s' q.1 := fun k q hk => hW.2.2.2.1.2 k q hk
  have hW' : q_W D dT H0 s' h n sb ws H [] := ⟨hW.1, hW.2.1, hW.2.2.1, ⟨hW.2.2.2.1.1, hZ⟩, by rw [hs'h]; exact va_S.rf⟩
  have hent := lg_entry_eq mk as' (q_nL M')
  obtain ⟨t, hsteps, o, L1, h1, n1, ws1, O, b1, b2, b3, b4, b5, b6, b7, b8⟩ := hB D dT H0 p l e _ s' mk as'.toArray (.java (F0 m pc ls rest') :: below) methk ck H [] 0 0 _ [] sb ws (q_ads sb ws) kc1 ks1 ⟨hF', hW', q_L_entry hone hvs hnl, rfl, q_le.rf, by omega, by omega, Nat.le_refl _, Nat.le_refl _⟩ U hUh Y₀
  have hsteps2 : ∀ acts, Steps p.tables e below (doInvoke e ((T.setVm vm₁).setTop (F0 m pc ls rest')) acts mk as'.toArray).1 t := fun acts => by
    rw [hin acts, hent]
    exact Steps.weaken (mid := [.java (F0 m pc ls rest')]) hsteps
  have hZ2 : ∀ q, q_Z H0 s' q → q_Z H0 s q := fun q hq => hq
  have hW1 : q_W D dT H0 s h1 n1 sb ws1 t.heap (locs ++ L1) := by
    refine ⟨b6.1, b6.2.1, b6.2.2.1, ⟨b6.2.2.2.1.1, fun k q hk => hZ2 _ (b6.2.2.2.1.2 k q hk)⟩, ?_, fun q hq hn => ?_, fun q hq => ?_⟩
    · exact Nat.le_trans hW.2.2.2.2.1 (by rw [← hs'h]; exact b6.2.2.2.2.1)
    · rw [b6.2.2.2.2.2.1 q (by rw [hs'h]; exact Nat.lt_of_lt_of_le hq hW.2.2.2.2.1) (fun z => hn (hZ2 q z)), hs'h]
      exact hW.2.2.2.2.2.1 q hq hn
    · rcases List.mem_append.mp hq with z | z
      · exact hW.2.2.2.2.2.2 q z
      · exact hZ2 _ (b6.2.2.2.2.2.2 q z)
  subst hs'
  rcases O with v | x
  · have hv : ∃ v', o = .returned v' ∧ q_vs (q_ads sb ws1) v.toList v'.toList := by
      cases v with
      | none => exact ⟨none, b8, rfl⟩
      | some v =>
        obtain ⟨w, q1, q2⟩ := b8
        exact ⟨some w, q1, ⟨w, [], rfl, q2, rfl⟩⟩
    obtain ⟨v', rfl, hv'⟩ := hv
    obtain ⟨T', X', -, -, ht⟩ := X₁.outOf (g := F0 m pc ls rest') rfl (by rw [f2]; exact hdg) b2 b3 b4
    have hT' : T'.heap = t.heap := by rw [ht]; rfl
    obtain ⟨t2, a1, a2⟩ := k1 v h1 n1 b5 D dT H0 p l e R s m args below meth c t.heap (locs ++ L1) (cells + kc1) (slots + ks1) ls (v'.toList ++ rest') sb ws1 ads0 kc' ks'
      ⟨⟨f1, f2, f3, f4, f5, f6, f7, f8, f9, f10, f11, f12, f13, f14, f15, f16, f17⟩, hW1, hL.mono b7, hv'.app (hS.mono b7), ha.tr b7, by omega, by omega, g8, g9⟩ T' hT' X'
    refine ⟨t2, (hstep t hsteps2).trans ?_, a2⟩
    rw [ht]
    exact a1
  · obtain ⟨xa, cell, Xn, e1, rfl, e3, e4, e5⟩ := b8
    obtain ⟨T', X', -, -, ht⟩ := X₁.outOfThrown (g := F0 m pc ls rest') rfl b2 b3 b4
    have hT' : T'.heap = t.heap := by rw [ht]; simp [State.pushFrame, State.setFrames, State.setTop, State.modifyTopJava]
    have hTv : T'.vm = t.vm := by rw [ht]; simp [State.pushFrame, State.setFrames, State.setTop, State.modifyTopJava]
    obtain ⟨t2, a1, a2⟩ := q_thrown ⟨f1, f2, f3, f4, f5, f6, f7, f8, f9, f10, f11, f12, f13, f14, f15, f16, f17⟩ (hT' ▸ hW1) (hL.mono b7) (ha.tr b7) (by omega) (by omega) g8 g9 X' (st := rest') e1 (by rw [hT']; exact e3) (by rw [hTv]; exact e4) e5 (k2 x h1 n1 b5)
    refine ⟨t2, (hstep t hsteps2).trans ?_, a2⟩
    rw [ht]
    exact a1
end QCORE
end
section
/-- a method's code word -/
def q_inC (M : q_M) : Prop := (q_hs M = [] ∧ q_in (Cond.code (q_nm M) (q_cc M) (q_nL M) (q_rt M))) ∨ q_in (Cond.codeWith (q_nm M) (q_cc M) (q_nL M) (q_rt M) (q_hs M))
def q_mok (M : q_M) (k : Nat) : Prop := plainName (q_nm M).cls = true ∧ (q_nm M).cls = q_own M ∧ ((q_nm M).cls ≠ "java/lang/invoke/MethodHandle" ∧ (q_nm M).cls ≠ "java/lang/invoke/VarHandle") ∧ (parseMethodDescriptor (q_nm M).desc).map (fun d => d.parameters.length) = some k
theorem q_code_at {M : q_M} {s : State} (hT : q_T s) (h : q_inC M) : ∃ mk, s.methodNamed? (q_nm M) = some mk ∧ q_code M s mk := by
  rcases h with ⟨hh, h⟩ | h
  · have hc := hT.at h #[]
    obtain ⟨mk, hn⟩ := Cond.code_named hc
    exact ⟨mk, hn, q_code_of hn hh hc⟩
  · obtain ⟨mk, meth, c, hn, h1, h2, h3, h4, h5, h6, h7, h8⟩ := Cond.codeWith_spec (hT.at h #[])
    exact ⟨mk, hn, meth, c, h1, h2, h3, h4, h6, h7, h5, h8⟩
theorem q_plen {M : q_M} {k : Nat} (h : q_mok M k) {sig : MethodDescriptor} (hs : parseMethodDescriptor (q_nm M).desc = some sig) : k = sig.parameters.length := by
  have h2 := h.2.2.2
  rw [hs] at h2
  exact (Option.some.inj h2).symm
section QCALL
variable {Sc : q_S} {M M' : q_M} {pc : Nat} {L st : List Value} {h : q_H} {n kc ks kc1 ks1 : Nat} {Q P : q_O → q_H → Nat → Prop}
theorem q_callS {ix : Nat} (vs rest : List Value) (hd : decode (q_cc M) pc = .ok (.invokestatic ix, 3)) (hw1 : q_in (Cond.methodLink (q_own M) ix (q_nm M'))) (hw2 : q_in (Cond.static (q_nm M'))) (hw3 : q_in (Cond.initialized (q_nm M').cls)) (hcd : q_inC M') (hok : q_mok M' vs.length) (hst : st = vs.reverse ++ rest)
    (hB : q_A Sc M' 0 (q_L0 M' vs) [] h n kc1 ks1 P) (hk1 : kc1 ≤ kc) (hk2 : ks1 ≤ ks) (hfr : q_fr M' + 1 ≤ q_fr M) (hlo : (rest.map fun v => v.category).sum + (q_nL M' + 11) + q_lo M' ≤ q_lo M) (hnl : vs.length ≤ q_nL M') (hone : q_one vs = true)
    (k1 : ∀ v h' n', P (.inl v) h' n' → q_A Sc M (pc + 3) L (v.toList ++ rest) h' n' (kc - kc1) (ks - ks1) Q)
    (k2 : ∀ x h' n', P (.inr x) h' n' → q_Th Sc M pc L h' n' (kc - kc1) (ks - ks1) Q x) : q_A Sc M pc L st h n kc ks Q := by
  intro D dT H0 p l e R s m args below meth c H locs cells slots ls st' sb ws ads0 kc' ks' g T hT X
  obtain ⟨hF, hW, hL, hS, hr⟩ := g
  subst hst
  obtain ⟨as', rest', rfl, h1, h2⟩ := hS.split
  have hvs : q_vs (q_ads sb ws) vs as'.reverse := by
    have := h1.rev
    rwa [List.reverse_reverse] at this
  have hTb := hF.2.2.2.2.2.2.1
  obtain ⟨mk, hn, hcode⟩ := q_code_at hTb hcd
  obtain ⟨methM, cM, hmM, q2, q3, q4, q5, q6, q7, hsig⟩ := id hcode
  have hstatic : methM.isStatic = true := Cond.static_spec hn hmM (hTb.at hw2 args)
  obtain ⟨kP, hkP, -⟩ := className_of_methodNamed hn
  have hinitP : kP.init = .initialized := Cond.initialized_spec (findClass_of_methodNamed hn) hkP (hTb.at hw3 args)
  obtain ⟨vm₁, X₁, hstep₁⟩ := X.invokestatic hF.1 hF.2.2.2.2.2.1 (hTb.at hw1 args) hn hmM hstatic hkP hinitP hok.2.2.1 (g := F0 m pc ls (as' ++ rest')) rfl (argsL := as'.reverse) (rest := rest') (by rw [hvs.len]; exact q_plen hok hsig) (by rw [List.reverse_reverse]) (by rw [hF.2.1]; exact hd)
  exact q_core ⟨hF, hW, hL, h2, hr⟩ hvs hB hk1 hk2 hfr hlo hnl hone hd hT X X₁ hstep₁ hn hcode hok.1 hok.2.1 k1 k2
theorem q_callSN {ix : Nat} {host : String} (vs rest : List Value) (hd : decode (q_cc M) pc = .ok (.invokestatic ix, 3)) (hw1 : q_in (Cond.methodLinkNest (q_own M) ix (q_nm M') host)) (hw2 : q_in (Cond.static (q_nm M'))) (hw3 : q_in (Cond.initialized (q_nm M').cls)) (hcd : q_inC M') (hok : q_mok M' vs.length) (hst : st = vs.reverse ++ rest)
    (hB : q_A Sc M' 0 (q_L0 M' vs) [] h n kc1 ks1 P) (hk1 : kc1 ≤ kc) (hk2 : ks1 ≤ ks) (hfr : q_fr M' + 1 ≤ q_fr M) (hlo : (rest.map fun v => v.category).sum + (q_nL M' + 11) + q_lo M' ≤ q_lo M) (hnl : vs.length ≤ q_nL M') (hone : q_one vs = true)
    (k1 : ∀ v h' n', P (.inl v) h' n' → q_A Sc M (pc + 3) L (v.toList ++ rest) h' n' (kc - kc1) (ks - ks1) Q)
    (k2 : ∀ x h' n', P (.inr x) h' n' → q_Th Sc M pc L h' n' (kc - kc1) (ks - ks1) Q x) : q_A Sc M pc L st h n kc ks Q := by
  intro D dT H0 p l e R s m args below meth c H locs cells slots ls st' sb ws ads0 kc' ks' g T hT X
  obtain ⟨hF, hW, hL, hS, hr⟩ := g
  subst hst
  obtain ⟨as', rest', rfl, h1, h2⟩ := hS.split
  have hvs : q_vs (q_ads sb ws) vs as'.reverse := by
    have := h1.rev
    rwa [List.reverse_reverse] at this
  have hTb := hF.2.2.2.2.2.2.1
  obtain ⟨mk, hn, hcode⟩ := q_code_at hTb hcd
  obtain ⟨methM, cM, hmM, q2, q3, q4, q5, q6, q7, hsig⟩ := id hcode
  have hstatic : methM.isStatic = true := Cond.static_spec hn hmM (hTb.at hw2 args)
  obtain ⟨kP, hkP, -⟩ := className_of_methodNamed hn
  have hinitP : kP.init = .initialized := Cond.initialized_spec (findClass_of_methodNamed hn) hkP (hTb.at hw3 args)
  obtain ⟨vm₁, X₁, hstep₁⟩ := X.invokestaticNest hF.1 hF.2.2.2.2.2.1 (hTb.at hw1 args) hn hmM hstatic hkP hinitP hok.2.2.1 (g := F0 m pc ls (as' ++ rest')) rfl (argsL := as'.reverse) (rest := rest') (by rw [hvs.len]; exact q_plen hok hsig) (by rw [List.reverse_reverse]) (by rw [hF.2.1]; exact hd)
  exact q_core ⟨hF, hW, hL, h2, hr⟩ hvs hB hk1 hk2 hfr hlo hnl hone hd hT X X₁ hstep₁ hn hcode hok.1 hok.2.1 k1 k2
theorem q_callV {ix i ci N : Nat} {C : String} {T0 : u_T} {ty : Nat → FieldType} {fs : List Value} (vs rest : List Value) (hC : q_cls ci C T0 N ty) (hd : decode (q_cc M) pc = .ok (.invokevirtual ix, 3)) (hw1 : q_in (Cond.methodLink (q_own M) ix (q_nm M'))) (hw2 : q_in (Cond.instanceMethod (q_nm M'))) (hw3 : q_in (Cond.selects C (q_nm M') (q_nm M'))) (hcd : q_inC M') (hok : q_mok M' vs.length) (hst : st = vs.reverse ++ .ref i :: rest) (hh : h i = .inl (ci, fs))
    (hB : q_A Sc M' 0 (q_L0 M' (.ref i :: vs)) [] h n kc1 ks1 P) (hk1 : kc1 ≤ kc) (hk2 : ks1 ≤ ks) (hfr : q_fr M' + 1 ≤ q_fr M) (hlo : (rest.map fun v => v.category).sum + (q_nL M' + 11) + q_lo M' ≤ q_lo M) (hnl : (Value.ref i :: vs).length ≤ q_nL M') (hone : q_one vs = true)
    (k1 : ∀ v h' n', P (.inl v) h' n' → q_A Sc M (pc + 3) L (v.toList ++ rest) h' n' (kc - kc1) (ks - ks1) Q)
    (k2 : ∀ x h' n', P (.inr x) h' n' → q_Th Sc M pc L h' n' (kc - kc1) (ks - ks1) Q x) : q_A Sc M pc L st h n kc ks Q := by
  intro D dT H0 p l e R s m args below meth c H locs cells slots ls st' sb ws ads0 kc' ks' g T hT X
  obtain ⟨hF, hW, hL, hS, hr⟩ := g
  subst hst
  obtain ⟨as', r9, rfl, h1, _, rest', rfl, ⟨b, hb, rfl⟩, h2⟩ := hS.split
  have hvs : q_vs (q_ads sb ws) vs as'.reverse := by
    have := h1.rev
    rwa [List.reverse_reverse] at this
  have hvs2 : q_vs (q_ads sb ws) (.ref i :: vs) (.ref b :: as'.reverse) := ⟨_, _, rfl, ⟨b, hb, rfl⟩, hvs⟩
  have hTb := hF.2.2.2.2.2.2.1
  obtain ⟨mk, hn, hcode⟩ := q_code_at hTb hcd
  obtain ⟨methM, cM, hmM, q2, q3, q4, q5, q6, q7, hsig⟩ := id hcode
  obtain ⟨mk2, meth2, hn2, hm2, hstM, habM⟩ := Cond.instanceMethod_spec (hTb.at hw2 args)
  cases hn.symm.trans hn2
  cases hmM.symm.trans hm2
  obtain ⟨hi, e0, h3, h4⟩ := hW.look hb
  rw [hh] at h4
  obtain ⟨gs, rfl, -⟩ := h4
  obtain ⟨cellB, hcB, hoB, hclB⟩ := va_recv hF.2.2.2.2.2.2.2.1 hW.2.2.1 hC.1 h3
  obtain ⟨c2, r2, m2, z1, z2, z3, z4, kP, hkP, hkPi⟩ := Cond.selects_spec (hTb.at hw3 args)
  cases hclB.symm.trans z1
  cases (State.methodFound?_of_named hn hok.2.2.1).symm.trans z2
  cases hn.symm.trans z3
  have hselP : selectMethod e.platform s.vm cellB.cls mk = .method mk := by rw [Launch.admits_selectMethod X.admits]; exact z4
  obtain ⟨vm₁, X₁, hstep₁⟩ := X.invokevirtual hF.1 hF.2.2.2.2.2.1 (hTb.at hw1 args) hn hmM hstM hkP hkPi hok.2.2.1 (a := b) (cell := cellB) (by rw [hT]; exact hcB)
    (fun z h => by rw [h] at hoB; cases hoB) hselP hmM habM hkP hkPi (g := F0 m pc ls (as' ++ .ref b :: rest')) rfl (argsL := as'.reverse) (rest := rest') (by rw [hvs.len]; exact q_plen hok hsig) (by rw [List.reverse_reverse]) (by rw [hF.2.1]; exact hd)
  have hone2 : q_one (.ref i :: vs) = true := by
    show (decide _ && q_one vs) = true
    rw [hone]; rfl
  exact q_core ⟨hF, hW, hL, h2, hr⟩ hvs2 hB hk1 hk2 hfr hlo hnl hone2 hd hT X X₁ hstep₁ hn hcode hok.1 hok.2.1 k1 k2
theorem q_callI {ix i : Nat} (vs rest : List Value) (hd : decode (q_cc M) pc = .ok (.invokespecial ix, 3)) (hw1 : q_in (Cond.methodLink (q_own M) ix (q_nm M'))) (hw2 : q_in (Cond.instanceMethod (q_nm M'))) (hcw : q_in (Cond.code (q_nm M') (q_cc M') (q_nL M') none)) (hrt : q_rt M' = none) (hhs : q_hs M' = []) (hname : (q_nm M').name = "<init>") (hok : q_mok M' vs.length) (hst : st = vs.reverse ++ .ref i :: rest)
    (hB : q_A Sc M' 0 (q_L0 M' (.ref i :: vs)) [] h n kc1 ks1 P) (hk1 : kc1 ≤ kc) (hk2 : ks1 ≤ ks) (hfr : q_fr M' + 1 ≤ q_fr M) (hlo : (rest.map fun v => v.category).sum + (q_nL M' + 11) + q_lo M' ≤ q_lo M) (hnl : (Value.ref i :: vs).length ≤ q_nL M') (hone : q_one vs = true)
    (k1 : ∀ v h' n', P (.inl v) h' n' → q_A Sc M (pc + 3) L (v.toList ++ rest) h' n' (kc - kc1) (ks - ks1) Q)
    (k2 : ∀ x h' n', P (.inr x) h' n' → q_Th Sc M pc L h' n' (kc - kc1) (ks - ks1) Q x) : q_A Sc M pc L st h n kc ks Q := by
  intro D dT H0 p l e R s m args below meth c H locs cells slots ls st' sb ws ads0 kc' ks' g T hT X
  obtain ⟨hF, hW, hL, hS, hr⟩ := g
  subst hst
  obtain ⟨as', r9, rfl, h1, _, rest', rfl, ⟨b, hb, rfl⟩, h2⟩ := hS.split
  have hvs : q_vs (q_ads sb ws) vs as'.reverse := by
    have := h1.rev
    rwa [List.reverse_reverse] at this
  have hvs2 : q_vs (q_ads sb ws) (.ref i :: vs) (.ref b :: as'.reverse) := ⟨_, _, rfl, ⟨b, hb, rfl⟩, hvs⟩
  have hTb := hF.2.2.2.2.2.2.1
  obtain ⟨mk, hn, hcode⟩ := q_code_at hTb (Or.inl ⟨hhs, by rw [hrt]; exact hcw⟩)
  have hpl : e.platform.magicAccessors = ({} : Platform).magicAccessors := by rw [X.admits.platform]
  obtain ⟨mk2, methM, cM, kP, vm₁, hn2, -, -, -, -, -, -, -, hW₁, hstep₁⟩ := Steps.initColdArgs (e := e) (args := args) (s := s) (U := T) X.here hF.1 X.warmed hpl hF.2.2.2.2.2.1 hname hok.2.2.1 (hTb.at hw1 args) (hTb.at hw2 args) (hTb.at hcw args) (f := F0 m pc ls (as' ++ .ref b :: rest')) rfl (argsL := as'.reverse) (rest := rest')
    (fun sig hs => by rw [hvs.len]; exact q_plen hok hs) (by rw [List.reverse_reverse]) (by rw [hF.2.1]; exact hd)
  cases hn.symm.trans hn2
  have hone2 : q_one (.ref i :: vs) = true := by
    show (decide _ && q_one vs) = true
    rw [hone]; rfl
  exact q_core ⟨hF, hW, hL, h2, hr⟩ hvs2 hB hk1 hk2 hfr hlo hnl hone2 hd hT X (X.noted hW₁) hstep₁ hn hcode hok.1 hok.2.1 k1 k2
theorem q_callIN {ix i : Nat} {host : String} (vs rest : List Value) (hd : decode (q_cc M) pc = .ok (.invokespecial ix, 3)) (hw1 : q_in (Cond.methodLinkNest (q_own M) ix (q_nm M') host)) (hw2 : q_in (Cond.instanceMethod (q_nm M'))) (hcw : q_in (Cond.code (q_nm M') (q_cc M') (q_nL M') none)) (hrt : q_rt M' = none) (hhs : q_hs M' = []) (hname : (q_nm M').name = "<init>") (hok : q_mok M' vs.length) (hst : st = vs.reverse ++ .ref i :: rest)
    (hB : q_A Sc M' 0 (q_L0 M' (.ref i :: vs)) [] h n kc1 ks1 P) (hk1 : kc1 ≤ kc) (hk2 : ks1 ≤ ks) (hfr : q_fr M' + 1 ≤ q_fr M) (hlo : (rest.map fun v => v.category).sum + (q_nL M' + 11) + q_lo M' ≤ q_lo M) (hnl : (Value.ref i :: vs).length ≤ q_nL M') (hone : q_one vs = true)
    (k1 : ∀ v h' n', P (.inl v) h' n' → q_A Sc M (pc + 3) L (v.toList ++ rest) h' n' (kc - kc1) (ks - ks1) Q)
    (k2 : ∀ x h' n', P (.inr x) h' n' → q_Th Sc M pc L h' n' (kc - kc1) (ks - ks1) Q x) : q_A Sc M pc L st h n kc ks Q := by
  intro D dT H0 p l e R s m args below meth c H locs cells slots ls st' sb ws ads0 kc' ks' g T hT X
  obtain ⟨hF, hW, hL, hS, hr⟩ := g
  subst hst
  obtain ⟨as', r9, rfl, h1, _, rest', rfl, ⟨b, hb, rfl⟩, h2⟩ := hS.split
  have hvs : q_vs (q_ads sb ws) vs as'.reverse := by
    have := h1.rev
    rwa [List.reverse_reverse] at this
  have hvs2 : q_vs (q_ads sb ws) (.ref i :: vs) (.ref b :: as'.reverse) := ⟨_, _, rfl, ⟨b, hb, rfl⟩, hvs⟩
  have hTb := hF.2.2.2.2.2.2.1
  obtain ⟨mk, hn, hcode⟩ := q_code_at hTb (Or.inl ⟨hhs, by rw [hrt]; exact hcw⟩)
  have hpl : e.platform.magicAccessors = ({} : Platform).magicAccessors := by rw [X.admits.platform]
  obtain ⟨mk2, methM, cM, kP, vm₁, hn2, -, -, -, -, -, -, -, hW₁, hstep₁⟩ := Steps.initColdArgsNest (e := e) (args := args) (s := s) (U := T) X.here hF.1 X.warmed hpl hF.2.2.2.2.2.1 hname hok.2.2.1 (hTb.at hw1 args) (hTb.at hw2 args) (hTb.at hcw args) (f := F0 m pc ls (as' ++ .ref b :: rest')) rfl (argsL := as'.reverse) (rest := rest')
    (fun sig hs => by rw [hvs.len]; exact q_plen hok hs) (by rw [List.reverse_reverse]) (by rw [hF.2.1]; exact hd)
  cases hn.symm.trans hn2
  have hone2 : q_one (.ref i :: vs) = true := by
    show (decide _ && q_one vs) = true
    rw [hone]; rfl
  exact q_core ⟨hF, hW, hL, h2, hr⟩ hvs2 hB hk1 hk2 hfr hlo hnl hone2 hd hT X (X.noted hW₁) hstep₁ hn hcode hok.1 hok.2.1 k1 k2
theorem q_obj {ix i : Nat} (hd : decode (q_cc M) pc = .ok (.invokespecial ix, 3)) (hw1 : q_in (Cond.methodLink (q_own M) ix Lib.objectInit)) (hw2 : q_in (Cond.instanceMethod Lib.objectInit)) (hw3 : q_in (Cond.code Lib.objectInit ⟨#[0xb1]⟩ 1 none)) (hf : 1 ≤ q_fr M) (hl : (st.map fun v => v.category).sum + 12 ≤ q_lo M) (k : q_A Sc M (pc + 3) L st h n kc ks Q) : q_A Sc M pc L (.ref i :: st) h n kc ks Q := by
  intro D dT H0 p l e R s m args below meth c H locs cells slots ls st' sb ws ads0 kc' ks' g
  obtain ⟨hF, hW, hL, ⟨_, rest', rfl, ⟨b, hb, rfl⟩, hS⟩, hr⟩ := g
  have hTb := hF.2.2.2.2.2.2.1
  have h9 := hF.2.2.2.2.2.2.2.2.1
  have h10 := hF.2.2.2.2.2.2.2.2.2.1
  have hsum := hS.sum
  exact W.objInit hF.1 hF.2.1 hF.2.2.2.2.2.1 (hTb.at hw1 args) (hTb.at hw2 args) (hTb.at hw3 args) (g := F0 m pc ls (.ref b :: rest')) rfl (by show ls.size = _; rw [hL.1, hF.2.2.1]) rfl hd (by omega) (by show 2 * 0 + (rest'.map fun v => v.category).sum + 12 ≤ _; rw [hsum]; omega)
    (k D dT H0 p l e R s m args below meth c H locs cells slots ls _ sb ws ads0 kc' ks' ⟨hF, hW, hL, hS, hr⟩)
end QCALL
end
section
section QX
variable {Sc : q_S} {M : q_M} {pc : Nat} {L st : List Value} {h : q_H} {n kc ks : Nat} {Q : q_O → q_H → Nat → Prop}
theorem q_L.flt {ads : List Nat} {nL : Nat} {L : List Value} {ls : Array Slot} (h : q_L ads nL L ls) {i : Nat} {b : UInt32} (hi : L[i]? = some (.float b)) : ∃ a, (b = 1 → ads[0]? = some a) ∧ ls[i]? = some (.val (.ref a)) := by
  rcases h.2.2 i _ hi with ⟨k, e⟩ | ⟨w, ⟨a, h1, h3⟩, -, h2⟩
  · cases e
  · exact ⟨a, h3, by rw [h2, h1]⟩
theorem q_aload_n_x {j : Fin 4} {b : UInt32} (hd : decode (q_cc M) pc = .ok (.aload_n j, 1)) (hl : L[(j : Nat)]? = some (.float b)) (k : q_A Sc M (pc + 1) L (.float b :: st) h n kc ks Q) : q_A Sc M pc L st h n kc ks Q := by
  intro D dT H0 p l e R s m args below meth c H locs cells slots ls st' sb ws ads0 kc' ks' g
  obtain ⟨hF, hW, hL, hS, hr⟩ := g
  obtain ⟨a, h1, h2⟩ := hL.flt hl
  exact lv_aload_n hF.1 hF.2.1 hd rfl h2 (k D dT H0 p l e R s m args below meth c H locs cells slots ls _ sb ws ads0 kc' ks' ⟨hF, hW, hL, ⟨_, _, rfl, ⟨a, rfl, h1⟩, hS⟩, hr⟩)
theorem q_sld {j : Int32} (hd : decode (q_cc M) pc = .ok (.iaload, 1)) (hj : vp_in j Sc.1) (k : q_A Sc M (pc + 1) L (.int (Sc.2 j.toNatClampNeg) :: st) h n kc ks Q) : q_A Sc M pc L (.int j :: .float 1 :: st) h n kc ks Q := by
  intro D dT H0 p l e R s m args below meth c H locs cells slots ls st' sb ws ads0 kc' ks' g
  obtain ⟨hF, hW, hL, ⟨_, _, rfl, rfl, _, _, rfl, ⟨b, rfl, hb⟩, hS⟩, hr⟩ := g
  have hb2 : sb = b := Option.some.inj (hb rfl)
  subst hb2
  obtain ⟨f1, f2, f3, f4, f5, f6, f7, f8, f9, f10, f11, f12, f13, f14, f15, f16, f17⟩ := id hF
  exact va_sld f1 f2 (f17.kept (f14 sb f16)) (Nat.lt_of_lt_of_le f16 f13) (Nat.not_le.mpr f16) hW.2.2.2.2 hj hd (k D dT H0 p l e R s m args below meth c H locs cells slots ls _ sb ws ads0 kc' ks' ⟨hF, hW, hL, ⟨_, _, rfl, rfl, hS⟩, hr⟩)
theorem q_slen (hd : decode (q_cc M) pc = .ok (.arraylength, 1)) (k : q_A Sc M (pc + 1) L (.int (nI Sc.1) :: st) h n kc ks Q) : q_A Sc M pc L (.float 1 :: st) h n kc ks Q := by
  intro D dT H0 p l e R s m args below meth c H locs cells slots ls st' sb ws ads0 kc' ks' g
  obtain ⟨hF, hW, hL, ⟨_, _, rfl, ⟨b, rfl, hb⟩, hS⟩, hr⟩ := g
  have hb2 : sb = b := Option.some.inj (hb rfl)
  subst hb2
  obtain ⟨f1, f2, f3, f4, f5, f6, f7, f8, f9, f10, f11, f12, f13, f14, f15, f16, f17⟩ := id hF
  exact va_slen f1 f2 (f17.kept (f14 sb f16)) (Nat.lt_of_lt_of_le f16 f13) (Nat.not_le.mpr f16) hW.2.2.2.2 hd (k D dT H0 p l e R s m args below meth c H locs cells slots ls _ sb ws ads0 kc' ks' ⟨hF, hW, hL, ⟨_, _, rfl, rfl, hS⟩, hr⟩)
theorem q_lald {i t : Nat} {j : Int32} {a : List Int64} (hd : decode (q_cc M) pc = .ok (.laload, 1)) (hh : h i = .inr (.inr (.inr (t, a)))) (ht : q_ty[t]? = some .long) (hj : vp_in j a.length) (kk : q_A Sc M (pc + 1) L (.long (a.getD j.toNatClampNeg 0) :: st) h n kc ks Q) : q_A Sc M pc L (.int j :: .ref i :: st) h n kc ks Q := by
  intro D dT H0 p l e R s m args below meth c H locs cells slots ls st' sb ws ads0 kc' ks' g
  obtain ⟨hF, hW, hL, ⟨_, _, rfl, rfl, _, _, rfl, ⟨b, ha, rfl⟩, hS⟩, hr⟩ := g
  obtain ⟨hi, e0, h1, h2⟩ := hW.look ha
  rw [hh] at h2
  subst h2
  exact va_lald hF.1 hF.2.1 hF.2.2.2.2.2.2.2.1 hW.2.2.1 i t h1 (q_tys_at ht) hj hd (kk D dT H0 p l e R s m args below meth c H locs cells slots ls _ sb ws ads0 kc' ks' ⟨hF, hW, hL, ⟨_, _, rfl, rfl, hS⟩, hr⟩)
theorem q_upd_listL {a : List Int64} {j : Nat} (hj : j < a.length) (x : Int64) : vp_updL (fun q => a.getD q 0) j x = fun q => (a.set j x).getD q 0 := by
  funext q
  unfold vp_updL
  by_cases hq : q = j
  · subst hq
    rw [if_pos rfl, List.getD_eq_getElem?_getD, List.getElem?_set_self hj]
    rfl
  · rw [if_neg hq]
    show a.getD q 0 = (a.set j x).getD q 0
    rw [List.getD_eq_getElem?_getD, List.getD_eq_getElem?_getD, List.getElem?_set_ne (Ne.symm hq)]
theorem q_last {i t : Nat} {j : Int32} {x : Int64} {a : List Int64} (hd : decode (q_cc M) pc = .ok (.lastore, 1)) (hh : h i = .inr (.inr (.inr (t, a)))) (ht : q_ty[t]? = some .long) (hj : vp_in j a.length) (kk : q_A Sc M (pc + 1) L st (q_up h i (.inr (.inr (.inr (t, a.set j.toNatClampNeg x))))) n kc ks Q) : q_A Sc M pc L (.long x :: .int j :: .ref i :: st) h n kc ks Q := by
  intro D dT H0 p l e R s m args below meth c H locs cells slots ls st' sb ws ads0 kc' ks' g
  obtain ⟨hF, hW, hL, ⟨_, _, rfl, rfl, _, _, rfl, rfl, _, _, rfl, ⟨b, ha, rfl⟩, hS⟩, hr⟩ := g
  obtain ⟨hi, e0, h1, h2⟩ := hW.look ha
  rw [hh] at h2
  subst h2
  have hlt : j.toNatClampNeg < a.length := Nat.not_le.mp fun q => hj (Or.inr q)
  refine va_last hF.1 hF.2.1 hF.2.2.2.2.2.2.2.1 hW.2.2.1 hW.2.2.2.1 hW.2.2.2.2 i t h1 (q_tys_at ht) hj hd (fun H1 locs1 p1 p2 p3 => ?_)
  rw [q_upd_listL hlt] at p1 p2
  have hW1 := hW.upd h1 (c := .inr (.inr (.inr (t, a.set j.toNatClampNeg x)))) (by show _ = _; rw [List.length_set]) p1 p2 p3
  have he := q_ads_set (sb := sb) (e' := (.inl (dT t, a.length, .inr (.inl (fun q => (a.set j.toNatClampNeg x).getD q 0))))) h1
  exact kk D dT H0 p l e R s m args below meth c H1 locs1 cells slots ls _ sb _ ads0 kc' ks' ⟨hF, hW1, by rw [he]; exact hL, by rw [he]; exact hS, by rw [he]; exact hr⟩
theorem q_rep_listL (N : Nat) : (fun q => (List.replicate N (0 : Int64)).getD q 0) = fun _ => (0 : Int64) := by
  funext q
  rw [List.getD_eq_getElem?_getD, List.getElem?_replicate]
  split <;> rfl
theorem q_newl {atype : ArrayType} {t N : Nat} {len : Int32} (hd : decode (q_cc M) pc = .ok (.newarray atype, 2)) (hty : newarray.typeOf atype = .long) (ht : q_ty[t]? = some .long) (hw : q_in (Cond.arrayClass .long)) (hn : ¬ len < 0) (hN : len.toNatClampNeg = N) (hb : N ≤ 4096) (hk1 : 1 ≤ kc) (hk2 : N ≤ ks)
    (kk : q_A Sc M (pc + 2) L (.ref n :: st) (q_up h n (.inr (.inr (.inr (t, List.replicate N 0))))) (n + 1) (kc - 1) (ks - N) Q) : q_A Sc M pc L (.int len :: st) h n kc ks Q := by
  intro D dT H0 p l e R s m args below meth c H locs cells slots ls st' sb ws ads0 kc' ks' g
  obtain ⟨hF, hW, hL, ⟨_, _, rfl, rfl, hS⟩, ha, g6, g7, g8, g9⟩ := g
  have hT := hF.2.2.2.2.2.2.1
  have hK := hF.2.2.2.2.2.2.2.1
  refine va_newa (a0 := (N, .inr (.inl (fun _ => 0)))) hF.1 hF.2.1 (by rw [hty]; exact hT.at hw args) hty hK hW.2.2.1 hW.2.2.2.1 hW.2.2.2.2 (q_Z_new hF.2.2.2.2.2.2.2.2.2.2.2.2.1) (fun cA => rfl) hn hN (by simp [componentBytes]; omega) (by omega) (by omega) hd (fun q cA H1 k1 p1 p2 p3 => ?_)
  have hcA : cA = dT t := by
    have r1 := (hK.2 t _ (q_tys_at ht)).2
    have r2 := (k1.2 (q_tys dT).length (cA, .long) (by rw [List.getElem?_append_right (Nat.le_refl _), Nat.sub_self]; rfl)).2
    exact Option.some.inj ((show s.vm.findClass _ = some cA from r2).symm.trans r1)
  subst hcA
  have hW1 := hW.push (c := .inr (.inr (.inr (t, List.replicate N 0)))) (by show _ = _; rw [List.length_replicate, q_rep_listL]) p1 p2 p3
  exact kk D dT H0 p l e R s m args below meth c H1 locs (cells + 1) (slots + N) ls _ sb _ ads0 kc' ks' ⟨hF, hW1, hL.mono q_ads_push, ⟨_, _, rfl, ⟨q, q_at_end hW.1, rfl⟩, hS.mono q_ads_push⟩, ha.tr q_ads_push, by omega, by omega, g8, g9⟩
theorem q_throw {ik is ic x : Nat} {cls text : String} {names : List String} (hown : q_own M = "GroupFilters") (hx : (x = 0 ∧ cls = "java/lang/IndexOutOfBoundsException" ∧ is = 147 ∧ text = q_tx0) ∨ (x = 1 ∧ cls = "java/lang/IllegalArgumentException" ∧ is = 154 ∧ text = q_tx1))
    (hcls : Bundle.fit cls = true) (hnames : ∀ n ∈ names, Bundle.fit n = true) (hw1 : q_in (Cond.classLink "GroupFilters" ik cls)) (hw2 : q_in (Cond.initialized cls)) (hat : ∀ w ∈ vx_atS "GroupFilters" ic cls names, q_in w) (hgood : ∀ w ∈ Cond.classLink "GroupFilters" ik cls :: Cond.initialized cls :: vx_atS "GroupFilters" ic cls names, vx_ot w = true)
    (d0 : decode (q_cc M) pc = .ok (.new ik, 3)) (d3 : decode (q_cc M) (pc + 3) = .ok (.dup, 1)) (d4 : decode (q_cc M) (pc + 4) = .ok (.ldc is, 2)) (d6 : decode (q_cc M) (pc + 6) = .ok (.invokespecial ic, 3)) (d9 : decode (q_cc M) (pc + 9) = .ok (.athrow, 1))
    (hhs : q_hs M = []) (hfr : names.length + 3 < q_fr M) (hlo : (st.map fun v => v.category).sum + (13 * (names.length + 1) + 43) ≤ q_lo M) (hk1 : 1 ≤ kc) (hk2 : 6 ≤ ks) (hq : Q (.inr x) h n) : q_A Sc M pc L st h n kc ks Q := by
  intro D dT H0 p l e R s m args below meth c H locs cells slots ls st' sb ws ads0 kc' ks' g
  obtain ⟨hF, hW, hL, hS, ha, g6, g7, g8, g9⟩ := g
  obtain ⟨f1, f2, f3, f4, f5, f6, f7, f8, f9, f10, f11, f12, f13, f14, f15, f16, f17⟩ := id hF
  obtain ⟨x1, x2, x3, x4, x5, -⟩ := f15
  have hown' : s.vm.findClass "GroupFilters" = some m.cls := by rw [← hown]; exact f6
  have hout : ∀ y ∈ c.exceptionTable.toList, covers y (pc + 9) = false := fun y hy => by
    have h1 : q_row y ∈ q_hs M := by rw [← f11]; exact List.mem_map.mpr ⟨y, hy, rfl⟩
    rw [hhs] at h1
    cases h1
  have hstr : ∃ sa, vk_R "GroupFilters" is text sa s := by
    rcases hx with ⟨-, -, rfl, rfl⟩ | ⟨-, -, rfl, rfl⟩
    · exact x4
    · exact x5
  obtain ⟨sa, hstr⟩ := hstr
  have hsum := hS.sum
  have hkU : ∀ a : Nat, a < H0.size → ¬ (fun q => H0.size ≤ q) a → s.heap[a]? = H0[a]? := fun a h1 _ => f14 a h1
  refine q_Wmono ?_ (vx_throwS (Qc := fun _ _ _ _ => False) (XC := fun E _ t => E = cls ∧ H.size ≤ t.heap.size ∧ ∀ q : Nat, q < H.size → t.heap[q]? = H[q]?) (free := q_Z H0 s) (mc := kc') (ms := ks') (A := fun q => H0.size ≤ q) f1 f2 x1 hown' hcls hnames (f7.at hw1 args) (f7.at hw2 args) hstr (fun w hw => f7.at (hat w hw) args) hgood (x2.kept hkU) (x3.kept hkU) hW.2.2.2.2 (hL.1.trans f3.symm)
    d0 d3 d4 d6 d9 hout (by omega) (by rw [hsum]; omega) (by omega) (by omega) f5 (fun t _ h1 h2 => ⟨rfl, h1, h2⟩) hW.2.2.2.2.2.2 (by omega) (by omega))
  rintro t ⟨o, b1, b2, ⟨b3, -⟩ | ⟨q, rfl, E, ce, L', ⟨rfl, c1, c2⟩, c3, c4, c5, c6, c7, c8⟩⟩
  · exact b3.elim
  · refine ⟨_, L', h, n, ws, .inr x, b1, b2, c6, c7, hq, ⟨hW.1, hW.2.1, hW.2.2.1.kept (fun k y hy => c2 _ (hW.2.2.1 k y hy).lt), hW.2.2.2.1, Nat.le_trans hW.2.2.2.2.1 c1, fun q h1 h2 => ?_, c8⟩, ha, ⟨q, ce, E, ?_, rfl, c3, by rw [c6.alike.findClass]; exact c5, c4⟩⟩
    · rw [c2 q (Nat.lt_of_lt_of_le h1 hW.2.2.2.2.1)]
      exact hW.2.2.2.2.2.1 q h1 h2
    · rcases hx with ⟨rfl, rfl, -⟩ | ⟨rfl, rfl, -⟩ <;> rfl
end QX
end
