section
-- ===== PART A: goes FIRST, ahead of the names: the tables' words, and 'selects' of the private methods out of them =====
/-- a private method of a class that the tables say can be made, by its rows of tables_1 -/
def lw_okq (q : MethodName × Nat) : Prop := (q.1.cls ≠ "java/lang/invoke/MethodHandle" ∧ q.1.cls ≠ "java/lang/invoke/VarHandle") ∧ Cond.instantiable q.1.cls q.2 ∈ tables_1 ∧ Cond.privateMethod q.1 ∈ tables_1 ∧ Cond.instanceMethod q.1 ∈ tables_1
theorem lw_p0 : lw_okq (⟨"GroupFilters$Filter", "setTimers", "(II)V"⟩, 5) := ⟨⟨by decide +kernel, by decide +kernel⟩, List.mem_of_getElem? (i := 38) (by decide +kernel), List.mem_of_getElem? (i := 92) (by decide +kernel), List.mem_of_getElem? (i := 93) (by decide +kernel)⟩
theorem lw_p1 : lw_okq (⟨"GroupFilters$Filter", "include", "()V"⟩, 5) := ⟨⟨by decide +kernel, by decide +kernel⟩, List.mem_of_getElem? (i := 38) (by decide +kernel), List.mem_of_getElem? (i := 99) (by decide +kernel), List.mem_of_getElem? (i := 100) (by decide +kernel)⟩
theorem lw_p2 : lw_okq (⟨"java/lang/Throwable", "fillInStackTrace", "(I)Ljava/lang/Throwable;"⟩, 6) := ⟨⟨by decide +kernel, by decide +kernel⟩, List.mem_of_getElem? (i := 242) (by decide +kernel), List.mem_of_getElem? (i := 240) (by decide +kernel), List.mem_of_getElem? (i := 241) (by decide +kernel)⟩
theorem lw_p3 : lw_okq (⟨"GroupFilters$Link", "hearToIn", "(LGroupFilters$QueryLog;II)V"⟩, 8) := ⟨⟨by decide +kernel, by decide +kernel⟩, List.mem_of_getElem? (i := 29) (by decide +kernel), List.mem_of_getElem? (i := 313) (by decide +kernel), List.mem_of_getElem? (i := 314) (by decide +kernel)⟩
theorem lw_p4 : lw_okq (⟨"GroupFilters$Link", "askSources", "(LGroupFilters$QueryLog;II)V"⟩, 8) := ⟨⟨by decide +kernel, by decide +kernel⟩, List.mem_of_getElem? (i := 29) (by decide +kernel), List.mem_of_getElem? (i := 321) (by decide +kernel), List.mem_of_getElem? (i := 322) (by decide +kernel)⟩
theorem lw_p5 : lw_okq (⟨"GroupFilters$Link", "askGroup", "(LGroupFilters$QueryLog;I)V"⟩, 8) := ⟨⟨by decide +kernel, by decide +kernel⟩, List.mem_of_getElem? (i := 29) (by decide +kernel), List.mem_of_getElem? (i := 341) (by decide +kernel), List.mem_of_getElem? (i := 342) (by decide +kernel)⟩
theorem lw_p6 : lw_okq (⟨"GroupFilters$Link", "hearToEx", "(LGroupFilters$QueryLog;II)V"⟩, 8) := ⟨⟨by decide +kernel, by decide +kernel⟩, List.mem_of_getElem? (i := 29) (by decide +kernel), List.mem_of_getElem? (i := 349) (by decide +kernel), List.mem_of_getElem? (i := 350) (by decide +kernel)⟩
theorem lw_p7 : lw_okq (⟨"GroupFilters$Link", "hearBlock", "(LGroupFilters$QueryLog;II)V"⟩, 8) := ⟨⟨by decide +kernel, by decide +kernel⟩, List.mem_of_getElem? (i := 29) (by decide +kernel), List.mem_of_getElem? (i := 357) (by decide +kernel), List.mem_of_getElem? (i := 358) (by decide +kernel)⟩
theorem lw_p8 : lw_okq (⟨"GroupFilters$Filter", "ageTimers", "(I)I"⟩, 5) := ⟨⟨by decide +kernel, by decide +kernel⟩, List.mem_of_getElem? (i := 38) (by decide +kernel), List.mem_of_getElem? (i := 397) (by decide +kernel), List.mem_of_getElem? (i := 398) (by decide +kernel)⟩
theorem lw_p9 : lw_okq (⟨"GroupFilters", "runClocks", "(I)V"⟩, 2) := ⟨⟨by decide +kernel, by decide +kernel⟩, List.mem_of_getElem? (i := 14) (by decide +kernel), List.mem_of_getElem? (i := 401) (by decide +kernel), List.mem_of_getElem? (i := 402) (by decide +kernel)⟩
theorem lw_p10 : lw_okq (⟨"GroupFilters", "checkPlace", "(III)V"⟩, 2) := ⟨⟨by decide +kernel, by decide +kernel⟩, List.mem_of_getElem? (i := 14) (by decide +kernel), List.mem_of_getElem? (i := 439) (by decide +kernel), List.mem_of_getElem? (i := 440) (by decide +kernel)⟩
theorem lw_p11 : lw_okq (⟨"GroupFilters", "filterAt", "(II)LGroupFilters$Filter;"⟩, 2) := ⟨⟨by decide +kernel, by decide +kernel⟩, List.mem_of_getElem? (i := 14) (by decide +kernel), List.mem_of_getElem? (i := 470) (by decide +kernel), List.mem_of_getElem? (i := 471) (by decide +kernel)⟩
theorem lw_p12 : lw_okq (⟨"GroupFiltersModel", "begin", "()V"⟩, 20) := ⟨⟨by decide +kernel, by decide +kernel⟩, List.mem_of_getElem? (i := 523) (by decide +kernel), List.mem_of_getElem? (i := 529) (by decide +kernel), List.mem_of_getElem? (i := 530) (by decide +kernel)⟩
theorem lw_p13 : lw_okq (⟨"GroupFiltersModel", "isLink", "(I)Z"⟩, 20) := ⟨⟨by decide +kernel, by decide +kernel⟩, List.mem_of_getElem? (i := 523) (by decide +kernel), List.mem_of_getElem? (i := 602) (by decide +kernel), List.mem_of_getElem? (i := 603) (by decide +kernel)⟩
theorem lw_p14 : lw_okq (⟨"GroupFiltersModel", "grace", "(I)I"⟩, 20) := ⟨⟨by decide +kernel, by decide +kernel⟩, List.mem_of_getElem? (i := 523) (by decide +kernel), List.mem_of_getElem? (i := 609) (by decide +kernel), List.mem_of_getElem? (i := 610) (by decide +kernel)⟩
theorem lw_p15 : lw_okq (⟨"GroupFiltersModel", "reported", "(IIII)I"⟩, 20) := ⟨⟨by decide +kernel, by decide +kernel⟩, List.mem_of_getElem? (i := 523) (by decide +kernel), List.mem_of_getElem? (i := 618) (by decide +kernel), List.mem_of_getElem? (i := 619) (by decide +kernel)⟩
def lw_privs_1 : List (MethodName × Nat) := [(⟨"GroupFilters$Filter", "setTimers", "(II)V"⟩, 5), (⟨"GroupFilters$Filter", "include", "()V"⟩, 5), (⟨"java/lang/Throwable", "fillInStackTrace", "(I)Ljava/lang/Throwable;"⟩, 6), (⟨"GroupFilters$Link", "hearToIn", "(LGroupFilters$QueryLog;II)V"⟩, 8), (⟨"GroupFilters$Link", "askSources", "(LGroupFilters$QueryLog;II)V"⟩, 8), (⟨"GroupFilters$Link", "askGroup", "(LGroupFilters$QueryLog;I)V"⟩, 8), (⟨"GroupFilters$Link", "hearToEx", "(LGroupFilters$QueryLog;II)V"⟩, 8), (⟨"GroupFilters$Link", "hearBlock", "(LGroupFilters$QueryLog;II)V"⟩, 8), (⟨"GroupFilters$Filter", "ageTimers", "(I)I"⟩, 5), (⟨"GroupFilters", "runClocks", "(I)V"⟩, 2), (⟨"GroupFilters", "checkPlace", "(III)V"⟩, 2), (⟨"GroupFilters", "filterAt", "(II)LGroupFilters$Filter;"⟩, 2), (⟨"GroupFiltersModel", "begin", "()V"⟩, 20), (⟨"GroupFiltersModel", "isLink", "(I)Z"⟩, 20), (⟨"GroupFiltersModel", "grace", "(I)I"⟩, 20), (⟨"GroupFiltersModel", "reported", "(IIII)I"⟩, 20)]
theorem lw_r1 : ∀ q ∈ lw_privs_1, lw_okq q := List.forall_mem_cons.mpr ⟨lw_p0, List.forall_mem_cons.mpr ⟨lw_p1, List.forall_mem_cons.mpr ⟨lw_p2, List.forall_mem_cons.mpr ⟨lw_p3, List.forall_mem_cons.mpr ⟨lw_p4, List.forall_mem_cons.mpr ⟨lw_p5, List.forall_mem_cons.mpr ⟨lw_p6, List.forall_mem_cons.mpr ⟨lw_p7, List.forall_mem_cons.mpr ⟨lw_p8, List.forall_mem_cons.mpr ⟨lw_p9, List.forall_mem_cons.mpr ⟨lw_p10, List.forall_mem_cons.mpr ⟨lw_p11, List.forall_mem_cons.mpr ⟨lw_p12, List.forall_mem_cons.mpr ⟨lw_p13, List.forall_mem_cons.mpr ⟨lw_p14, List.forall_mem_cons.mpr ⟨lw_p15, fun _ h => absurd h List.not_mem_nil⟩⟩⟩⟩⟩⟩⟩⟩⟩⟩⟩⟩⟩⟩⟩⟩
theorem lw_p16 : lw_okq (⟨"GroupFiltersModel", "excluding", "(IIII)V"⟩, 20) := ⟨⟨by decide +kernel, by decide +kernel⟩, List.mem_of_getElem? (i := 523) (by decide +kernel), List.mem_of_getElem? (i := 622) (by decide +kernel), List.mem_of_getElem? (i := 623) (by decide +kernel)⟩
theorem lw_p17 : lw_okq (⟨"GroupFiltersModel", "setOf", "(II)I"⟩, 20) := ⟨⟨by decide +kernel, by decide +kernel⟩, List.mem_of_getElem? (i := 523) (by decide +kernel), List.mem_of_getElem? (i := 626) (by decide +kernel), List.mem_of_getElem? (i := 627) (by decide +kernel)⟩
theorem lw_p18 : lw_okq (⟨"GroupFiltersModel", "become", "(IIII)V"⟩, 20) := ⟨⟨by decide +kernel, by decide +kernel⟩, List.mem_of_getElem? (i := 523) (by decide +kernel), List.mem_of_getElem? (i := 630) (by decide +kernel), List.mem_of_getElem? (i := 631) (by decide +kernel)⟩
theorem lw_p19 : lw_okq (⟨"GroupFiltersModel", "setTimers", "(III)V"⟩, 20) := ⟨⟨by decide +kernel, by decide +kernel⟩, List.mem_of_getElem? (i := 523) (by decide +kernel), List.mem_of_getElem? (i := 634) (by decide +kernel), List.mem_of_getElem? (i := 635) (by decide +kernel)⟩
theorem lw_p20 : lw_okq (⟨"GroupFiltersModel", "ask", "(III)V"⟩, 20) := ⟨⟨by decide +kernel, by decide +kernel⟩, List.mem_of_getElem? (i := 523) (by decide +kernel), List.mem_of_getElem? (i := 638) (by decide +kernel), List.mem_of_getElem? (i := 639) (by decide +kernel)⟩
theorem lw_p21 : lw_okq (⟨"GroupFiltersModel", "asks", "(I)Z"⟩, 20) := ⟨⟨by decide +kernel, by decide +kernel⟩, List.mem_of_getElem? (i := 523) (by decide +kernel), List.mem_of_getElem? (i := 642) (by decide +kernel), List.mem_of_getElem? (i := 643) (by decide +kernel)⟩
theorem lw_p22 : lw_okq (⟨"GroupFiltersModel", "send", "(III)V"⟩, 20) := ⟨⟨by decide +kernel, by decide +kernel⟩, List.mem_of_getElem? (i := 523) (by decide +kernel), List.mem_of_getElem? (i := 646) (by decide +kernel), List.mem_of_getElem? (i := 647) (by decide +kernel)⟩
theorem lw_p23 : lw_okq (⟨"GroupFiltersModel", "lower", "(III)V"⟩, 20) := ⟨⟨by decide +kernel, by decide +kernel⟩, List.mem_of_getElem? (i := 523) (by decide +kernel), List.mem_of_getElem? (i := 650) (by decide +kernel), List.mem_of_getElem? (i := 651) (by decide +kernel)⟩
theorem lw_p24 : lw_okq (⟨"GroupFiltersModel", "askGroup", "(II)V"⟩, 20) := ⟨⟨by decide +kernel, by decide +kernel⟩, List.mem_of_getElem? (i := 523) (by decide +kernel), List.mem_of_getElem? (i := 654) (by decide +kernel), List.mem_of_getElem? (i := 655) (by decide +kernel)⟩
theorem lw_p25 : lw_okq (⟨"GroupFiltersModel", "lowerGroup", "(II)V"⟩, 20) := ⟨⟨by decide +kernel, by decide +kernel⟩, List.mem_of_getElem? (i := 523) (by decide +kernel), List.mem_of_getElem? (i := 658) (by decide +kernel), List.mem_of_getElem? (i := 659) (by decide +kernel)⟩
theorem lw_p26 : lw_okq (⟨"GroupFiltersModel", "including", "(IIII)V"⟩, 20) := ⟨⟨by decide +kernel, by decide +kernel⟩, List.mem_of_getElem? (i := 523) (by decide +kernel), List.mem_of_getElem? (i := 662) (by decide +kernel), List.mem_of_getElem? (i := 663) (by decide +kernel)⟩
theorem lw_p27 : lw_okq (⟨"GroupFiltersModel", "tickRecord", "(I)V"⟩, 20) := ⟨⟨by decide +kernel, by decide +kernel⟩, List.mem_of_getElem? (i := 523) (by decide +kernel), List.mem_of_getElem? (i := 674) (by decide +kernel), List.mem_of_getElem? (i := 675) (by decide +kernel)⟩
theorem lw_p28 : lw_okq (⟨"GroupFiltersModel", "tickLink", "(I)Z"⟩, 20) := ⟨⟨by decide +kernel, by decide +kernel⟩, List.mem_of_getElem? (i := 523) (by decide +kernel), List.mem_of_getElem? (i := 678) (by decide +kernel), List.mem_of_getElem? (i := 679) (by decide +kernel)⟩
theorem lw_p29 : lw_okq (⟨"GroupFiltersModel", "knows", "(II)Z"⟩, 20) := ⟨⟨by decide +kernel, by decide +kernel⟩, List.mem_of_getElem? (i := 523) (by decide +kernel), List.mem_of_getElem? (i := 702) (by decide +kernel), List.mem_of_getElem? (i := 703) (by decide +kernel)⟩
def lw_privs_2 : List (MethodName × Nat) := [(⟨"GroupFiltersModel", "excluding", "(IIII)V"⟩, 20), (⟨"GroupFiltersModel", "setOf", "(II)I"⟩, 20), (⟨"GroupFiltersModel", "become", "(IIII)V"⟩, 20), (⟨"GroupFiltersModel", "setTimers", "(III)V"⟩, 20), (⟨"GroupFiltersModel", "ask", "(III)V"⟩, 20), (⟨"GroupFiltersModel", "asks", "(I)Z"⟩, 20), (⟨"GroupFiltersModel", "send", "(III)V"⟩, 20), (⟨"GroupFiltersModel", "lower", "(III)V"⟩, 20), (⟨"GroupFiltersModel", "askGroup", "(II)V"⟩, 20), (⟨"GroupFiltersModel", "lowerGroup", "(II)V"⟩, 20), (⟨"GroupFiltersModel", "including", "(IIII)V"⟩, 20), (⟨"GroupFiltersModel", "tickRecord", "(I)V"⟩, 20), (⟨"GroupFiltersModel", "tickLink", "(I)Z"⟩, 20), (⟨"GroupFiltersModel", "knows", "(II)Z"⟩, 20)]
theorem lw_r2 : ∀ q ∈ lw_privs_2, lw_okq q := List.forall_mem_cons.mpr ⟨lw_p16, List.forall_mem_cons.mpr ⟨lw_p17, List.forall_mem_cons.mpr ⟨lw_p18, List.forall_mem_cons.mpr ⟨lw_p19, List.forall_mem_cons.mpr ⟨lw_p20, List.forall_mem_cons.mpr ⟨lw_p21, List.forall_mem_cons.mpr ⟨lw_p22, List.forall_mem_cons.mpr ⟨lw_p23, List.forall_mem_cons.mpr ⟨lw_p24, List.forall_mem_cons.mpr ⟨lw_p25, List.forall_mem_cons.mpr ⟨lw_p26, List.forall_mem_cons.mpr ⟨lw_p27, List.forall_mem_cons.mpr ⟨lw_p28, List.forall_mem_cons.mpr ⟨lw_p29, fun _ h => absurd h List.not_mem_nil⟩⟩⟩⟩⟩⟩⟩⟩⟩⟩⟩⟩⟩⟩
def lw_privs : List (MethodName × Nat) := lw_privs_1 ++ (lw_privs_2)
def lw_tbl : List Cond := k2_sels lw_privs ++ tables_1
theorem lw_privs_ok : ∀ q ∈ lw_privs, lw_okq q := by
  show ∀ q ∈ lw_privs_1 ++ (lw_privs_2), lw_okq q
  exact List.forall_mem_append.mpr ⟨lw_r1, lw_r2⟩
-- ===== end of PART A; then your names; then what follows =====
end
section
theorem goodIn_r {big : List Cond} (ws : List Cond) (ps : List Nat) (hp : ws = ps.filterMap (fun i => big[i]?)) (h : ws.all goodWord = true) : GoodIn big ws := by
  intro w hw
  have h1 := List.all_eq_true.mp h w hw
  rw [hp] at hw
  obtain ⟨i, -, hi⟩ := List.mem_filterMap.mp hw
  have hm : w ∈ big := by first | exact List.mem_of_getElem? hi | exact List.getElem?_mem hi
  exact ⟨hm, good_of_word h1⟩
theorem goodIn_app {big a b : List Cond} (ha : GoodIn big a) (hb : GoodIn big b) : GoodIn big (a ++ b) := fun w h => (List.mem_append.mp h).elim (ha w) (hb w)
section VXA
def vx_T (XC : String → State → State → Prop) (st : State) (q : Addr) (t : State) (mc ms : Nat) (free : Addr → Prop) : Prop :=
  ∃ (E : String) (ce : Cell) (L : List Loc), XC E st t ∧ t.heap[q]? = some ce ∧ ce.vm = .none ∧ st.vm.findClass E = some ce.cls ∧ st.WarmedH t.vm ∧ st.sameButNew ({ t with vm := st.vm } : State) L mc ms ∧ ∀ z ∈ L, free z.base
def vx_Q (Qc : Array Value → State → Outcome → State → Prop) (XC : String → State → State → Prop) (mc ms : Nat) (free : Addr → Prop) : Array Value → State → Outcome → State → Prop := fun a st o t =>
  (Qc a st o t ∧ ∃ L, FrameEnd st o t L mc ms ∧ ∀ q ∈ L, free q.base) ∨ ∃ q, o = .threw q ∧ vx_T XC st q t mc ms free
section Payer
variable {l : Launch} {R : Room} {p : Program} {e : Env} {below : List Frame} {s : State} {sargs : Array Value} {y : MethodName} {len W9 : Nat}
end Payer
section Calls
variable {p : Program} {l : Launch} {e : Env} {R : Room} {s : State} {m : MethodId} {args : Array Value} {below : List Frame} {meth : Method} {c : Code} {T : State} {locs : List Loc} {cells slots : Nat}
end Calls
theorem vx_cls {s : State} {T : State} {vm₁ : Vm} {E : String} {k : ClassId} (hW : s.WarmedH vm₁) (h : (T.setVm vm₁).vm.findClass E = some k) : s.vm.findClass E = some k := by
  have h1 : vm₁.findClass E = some k := h
  rw [hW.alike.findClass] at h1
  exact h1
def vx_W (p : Program) (l : Launch) (e : Env) (R : Room) (s : State) (m : MethodId) (args : Array Value) (below : List Frame) (meth : Method) (c : Code) (H : Heap) (locs : List Loc) (cells slots : Nat) (Q : State → Prop) (g : JFrame) (q : Addr) : Prop :=
  ∀ T : State, T.heap = H → Stand p l e R s m args below meth c T locs cells slots → ∃ t, Steps p.tables e below ((T.setTop g).pushFrame (.throwing q)) t ∧ Q t
section Runs
variable {p : Program} {l : Launch} {e : Env} {R : Room} {s : State} {m : MethodId} {args : Array Value} {below : List Frame} {meth : Method} {c : Code} {H : Heap} {locs : List Loc} {cells slots : Nat}
variable {y : MethodName} {bytes cc : ByteArray} {maxL nL mc ms n index : Nat} {ret : Option FieldType} {ws : List Cond} {rm : Room} {Pc : Array Value → State → Prop} {Qc : Array Value → State → Outcome → State → Prop} {XC : String → State → State → Prop} {free : Addr → Prop} {Ts : List Cond} {own C : String} {b : Addr} {As rest : List Value} {g : JFrame}
end Runs
section Rows
variable {p : Program} {l : Launch} {e : Env} {R : Room} {s : State} {m : MethodId} {args : Array Value} {below : List Frame} {meth : Method} {c : Code} {H : Heap} {locs : List Loc} {cells slots : Nat} {Q : State → Prop}
variable {mc ms : Nat} {free : Addr → Prop} {A0 A1 : Nat → Prop} {H0 : Heap} {a : Array Value} {pc : Nat} {ls : Array Slot} {st0 rest : List Value}
end Rows
section Ends
variable {p : Program} {l : Launch} {e : Env} {R : Room} {s : State} {m : MethodId} {args : Array Value} {below : List Frame} {meth : Method} {c : Code} {H : Heap} {locs : List Loc} {cells slots : Nat} {Q : State → Prop}
variable {mc ms : Nat} {free : Addr → Prop} {A0 A1 : Nat → Prop} {H0 : Heap} {a : Array Value} {ls : Array Slot} {st0 rest : List Value}
variable {Qc : Array Value → State → Outcome → State → Prop} {XC : String → State → State → Prop}
def vx_MQ (below : List Frame) (Qc : Array Value → State → Outcome → State → Prop) (XC : String → State → State → Prop) (a : Array Value) (s : State) (mc ms : Nat) (free : Addr → Prop) : State → Prop := fun t =>
  ∃ o, t.status = .running ∧ Ended t below o ∧ vx_Q Qc XC mc ms free a s o t
theorem vx_widen {g : JFrame} {q : Addr} {k n : Nat} (h1 : cells ≤ k) (h2 : slots ≤ n) (kk : vx_W p l e R s m args below meth c H locs k n Q g q) : vx_W p l e R s m args below meth c H locs cells slots Q g q := fun T hT X => kk T hT (stand_widen X h1 h2)
theorem vx_frame {U : State} {k n : Nat} (h : s.sameButNew ({ U with vm := s.vm } : State) locs k n) : s.heap.size ≤ U.heap.size ∧ ∀ q : Nat, q < s.heap.size → (∀ z ∈ locs, z.base ≠ q) → U.heap[q]? = s.heap[q]? := by
  obtain ⟨-, h2, -, -, -, h6⟩ := h
  refine ⟨h2, fun q hq hz => ?_⟩
  obtain ⟨c9, e1, e2, e3, e4⟩ := h6 q _ (Array.getElem?_eq_getElem hq)
  have hs : c9.slots = (s.heap[q]).slots := Array.ext_getElem? fun i => e4 i fun hm => hz _ hm rfl
  have h9 : c9 = s.heap[q] := by
    rw [hs] at e2
    exact e2
  have e5 : U.heap[q]? = some c9 := e1
  rw [e5, h9, Array.getElem?_eq_getElem hq]
def vx_no (w : Cond) : Bool := decide (w ≠ .isRef (.static Bundle.tN "UNASSIGNED_STACK" Bundle.steD)) && decide (w ≠ .isRef (.static Bundle.tN "SUPPRESSED_SENTINEL" Bundle.listD)) && decide (w ≠ .laysStatic Bundle.tN "UNASSIGNED_STACK" Bundle.steD) && decide (w ≠ .laysStatic Bundle.tN "SUPPRESSED_SENTINEL" Bundle.listD)
def vx_atS (own : String) (ic : Nat) (X : String) (names : List String) : List Cond := (Bundle.ownAtoms own ic X names).filter vx_no
def vx_ot (w : Cond) : Bool := w.onTables || goodWord w
theorem vx_ot_at {args a' : Array Value} {s U : State} {w : Cond} (hW : s.WarmedH U.vm) (hvm : s.vm = U.vm) (hg : vx_ot w = true) (h : w.before args s = true) : w.before a' U = true := by
  simp only [vx_ot, Bool.or_eq_true] at hg
  rcases hg with hg | hg
  · exact va_tabs hg hvm h
  · exact word_at hW (good_of_word hg) h
theorem vx_own {args : Array Value} {s : State} {L : List Cond} (h1 : ∀ w ∈ L.filter vx_no, w.before args s = true)
    (hU : (Cond.isRef (.static Bundle.tN "UNASSIGNED_STACK" Bundle.steD)).before args s = true) (hN : (Cond.isRef (.static Bundle.tN "SUPPRESSED_SENTINEL" Bundle.listD)).before args s = true)
    (lU : (Cond.laysStatic Bundle.tN "UNASSIGNED_STACK" Bundle.steD).before args s = true) (lN : (Cond.laysStatic Bundle.tN "SUPPRESSED_SENTINEL" Bundle.listD).before args s = true) : ∀ w ∈ L, w.before args s = true := by
  intro w hw
  by_cases e1 : w = .isRef (.static Bundle.tN "UNASSIGNED_STACK" Bundle.steD)
  · rw [e1]; exact hU
  · by_cases e2 : w = .isRef (.static Bundle.tN "SUPPRESSED_SENTINEL" Bundle.listD)
    · rw [e2]; exact hN
    · by_cases e3 : w = .laysStatic Bundle.tN "UNASSIGNED_STACK" Bundle.steD
      · rw [e3]; exact lU
      · by_cases e4 : w = .laysStatic Bundle.tN "SUPPRESSED_SENTINEL" Bundle.listD
        · rw [e4]; exact lN
        · exact h1 w (List.mem_filter.mpr ⟨hw, by unfold vx_no; rw [decide_eq_true e1, decide_eq_true e2, decide_eq_true e3, decide_eq_true e4]; rfl⟩)
def vx_L (C n d : String) (A : Nat → Prop) (U : State) (H : Heap) : Prop := ∃ (c : ClassId) (k : Class) (i : Nat) (f : Field) (a : Nat) (cell : Cell), U.vm.findClass C = some c ∧ U.fieldFound? C n d = some (c, k, i, f) ∧ f.isStatic = true ∧ k.statics = some a ∧ H[a]? = some cell ∧ cell.vm.isStatics = true ∧ cell.cls = c ∧ f.slot < cell.slots.size ∧ k.staticTypes[f.slot]? = some f.type ∧ ¬ A a
theorem vx_L.moved {C n d : String} {A : Nat → Prop} {u U : State} {H : Heap} (hvm : u.vm.Alike U.vm) (h : vx_L C n d A u H) : vx_L C n d A U H := by
  obtain ⟨c, k, i, f, a, cell, h1, h2, h3, h4, h5, h6, h7, h8, h9, h10⟩ := h
  obtain ⟨k', hi', he⟩ := State.fieldFound?_setVm hvm h2
  exact ⟨c, k', i, f, a, cell, by rw [hvm.findClass]; exact h1, hi', h3, by rw [he]; exact h4, h5, h6, h7, h8, by rw [he]; exact h9, h10⟩
theorem vx_L.kept {C n d : String} {A : Nat → Prop} {U : State} {H H1 : Heap} (h : vx_L C n d A U H) (hq : ∀ a : Nat, a < H.size → ¬ A a → H1[a]? = H[a]?) : vx_L C n d A U H1 := by
  obtain ⟨c, k, i, f, a, cell, h1, h2, h3, h4, h5, h6, h7, h8, h9, h10⟩ := h
  exact ⟨c, k, i, f, a, cell, h1, h2, h3, h4, by rw [hq a (Array.getElem?_eq_some_iff.mp h5).1 h10]; exact h5, h6, h7, h8, h9, h10⟩
theorem vx_L.narrow {C n d : String} {A B : Nat → Prop} {U : State} {H : Heap} (h : vx_L C n d A U H) (hAB : ∀ q, B q → A q) : vx_L C n d B U H := by
  obtain ⟨c, k, i, f, a, cell, h1, h2, h3, h4, h5, h6, h7, h8, h9, h10⟩ := h
  exact ⟨c, k, i, f, a, cell, h1, h2, h3, h4, h5, h6, h7, h8, h9, fun z => h10 (hAB _ z)⟩
theorem vx_L.word {C n d : String} {A : Nat → Prop} {s : State} {args : Array Value} (h : vx_L C n d A s s.heap) : (Cond.laysStatic C n d).before args s = true := by
  obtain ⟨c, k, i, f, a, cell, h1, h2, h3, h4, h5, h6, h7, h8, h9, -⟩ := h
  show (Cond.laysStatic C n d).holds args s none s [] = true
  exact Cond.laysStatic_of h1 h2 h3 h4 h5 h6 h7 h8 h9
def vx_Zq (C n d : String) (A : Nat → Prop) (U : State) (H : Heap) : Prop := va_Zq C n d A U H ∧ vx_L C n d A U H
theorem vx_Zq.moved {C n d : String} {A : Nat → Prop} {u U : State} {H : Heap} (hvm : u.vm.Alike U.vm) (h : vx_Zq C n d A u H) : vx_Zq C n d A U H := ⟨va_Zq.moved hvm h.1, vx_L.moved hvm h.2⟩
theorem vx_Zq.kept {C n d : String} {A : Nat → Prop} {U : State} {H H1 : Heap} (h : vx_Zq C n d A U H) (hq : ∀ a : Nat, a < H.size → ¬ A a → H1[a]? = H[a]?) : vx_Zq C n d A U H1 := ⟨va_Zq.kept h.1 hq, vx_L.kept h.2 hq⟩
theorem vx_Zq.narrow {C n d : String} {A B : Nat → Prop} {U : State} {H : Heap} (h : vx_Zq C n d A U H) (hAB : ∀ q, B q → A q) : vx_Zq C n d B U H := ⟨va_Zq.narrow h.1 hAB, vx_L.narrow h.2 hAB⟩
theorem vx_Zqof {args : Array Value} {s : State} {C n d : String} {A : Nat → Prop} (hl : (Cond.laysStatic C n d).before args s = true) (hini : (Cond.initialized C).before args s = true) (h : (Cond.isRef (.static C n d)).before args s = true) (hA : ∀ a : Nat, a < s.heap.size → ¬ A a) : vx_Zq C n d A s s.heap := by
  refine ⟨va_Zqof hl hini h hA, ?_⟩
  obtain ⟨c, k, i, f, a, cell, h1, h2, h3, h4, h5, h6, h7, h8, h9⟩ := Cond.laysStatic_spec hl
  exact ⟨c, k, i, f, a, cell, h1, h2, h3, h4, h5, h6, h7, h8, h9, hA a (Array.getElem?_eq_some_iff.mp h5).1⟩
theorem vx_isRef {C n d : String} {v : Value} {A : Nat → Prop} {s : State} {args : Array Value} (h : va_Z C n d v A s s.heap) (hv : v.isRef = true) : (Cond.isRef (.static C n d)).before args s = true := by
  obtain ⟨cf, kf, fi, f, a, cell, h1, h2, h3, h4, h5, h6, h7, -⟩ := h
  have he : (Term.static C n d).eval args s none [] s = some v := by
    simp [Term.eval, State.fieldNamed?, h1, h2, h4, h5, h6, h7]
  simp only [Cond.before, Cond.holds, Cond.value, he]
  cases v <;> simp_all [Value.isRef]
theorem vx_isRefq {C n d : String} {A : Nat → Prop} {s : State} {args : Array Value} (h : va_Zq C n d A s s.heap) : (Cond.isRef (.static C n d)).before args s = true := by
  rcases h with h | ⟨t, h⟩
  · exact vx_isRef h rfl
  · exact vx_isRef h rfl
theorem vx_rebase {T : State} (X : Stand p l e R s m args below meth c T locs cells slots) {R' : Room} (hf : R'.frames ≤ R.frames) (hl : R'.locals ≤ R.locals) (hc : cells + R'.cells ≤ R.cells) (hs : slots + R'.slots ≤ R.slots) :
    Stand p l e R' ((T.setVm s.vm).setFrames (.invoking m args :: below)) m args below meth c T [] 0 0 := by
  have htop : (T.setVm s.vm).topJava?.isSome := X.here.top
  have hF : ((T.setVm s.vm).setFrames (.invoking m args :: below)).frames = .invoking m args :: below := State.frames_setFrames _ (State.cur_lt_of_top htop)
  obtain ⟨g₀, hg0⟩ := Option.isSome_iff_exists.mp htop
  obtain ⟨r, hr⟩ := State.topJava?_eq_some.mp hg0
  have hl9 : e.platform.stackLimits (T.setVm s.vm).me = e.platform.stackLimits s.me := X.limits
  have hb9 : (T.setVm s.vm).me.stackBytes = s.me.stackBytes := X.bytes
  refine ⟨X.admits, X.cas, X.clock, hF, ?_, X.hears, X.method, X.code, X.here, X.tail, X.warmed, ?_, ?_, ?_⟩
  · have h := X.room
    have hU : ((T.setVm s.vm).setFrames (.invoking m args :: below)).localsInUse = s.localsInUse := by
      rw [State.localsInUse_invoking hF (meth := meth) (c := c) X.method X.code, State.localsInUse_invoking X.frames X.method X.code]
    simp only [State.hasRoom, Bool.and_eq_true, decide_eq_true_eq] at h ⊢
    obtain ⟨⟨⟨⟨h1, h2, h3, h4, h5, h6⟩, h7⟩, h8⟩, h9⟩ := h
    rw [X.frames, List.length_cons] at h2 h3
    have q1 := X.heapSize
    have q2 := X.used
    simp only [hF, hU, List.length_cons, State.stackLimits_setFrames, State.stackBytes_setFrames, hl9, hb9]
    refine ⟨⟨⟨⟨by omega, by omega, by omega, by omega, by omega, h6⟩, ?_⟩, ?_⟩, X.book⟩
    · show T.heap.size + R'.cells ≤ e.platform.maxCells
      omega
    · show T.slotsUsed + R'.slots ≤ e.platform.maxSlots
      omega
  · rw [State.stackLimits_setFrames]; rfl
  · rw [State.stackBytes_setFrames]; rfl
  · refine ⟨?_, Nat.le_refl _, Nat.le_refl _, ?_, ?_, fun a c9 h9 => ⟨c9, h9, rfl, rfl, fun _ _ => rfl⟩⟩
    · obtain ⟨t, ht, -⟩ := State.frames_cons hr
      show T.setVm s.vm = { ((T.setVm s.vm).setFrames (.invoking m args :: below)).setFrames (T.setVm s.vm).frames with heap := T.heap, slotsUsed := T.slotsUsed }
      rw [State.setFrames_setFrames, State.setFrames_self ht]
      rfl
    · show T.slotsUsed = T.slotsUsed + ((T.heap.toList.drop T.heap.size).map (·.slots.size)).sum
      rw [List.drop_eq_nil_of_le (Nat.le_of_eq Array.length_toList)]
      rfl
    · show ((T.heap.toList.drop T.heap.size).map (·.slots.size)).sum ≤ 0
      rw [List.drop_eq_nil_of_le (Nat.le_of_eq Array.length_toList)]
      exact Nat.le_refl _
theorem vx_throwS {cc : ByteArray} {pc : Nat} (hexec : p.tables.exec = Jvm.exec) (hb : c.code = cc) (hl : l.stackTraces = false) {own cls text : String} {names : List String} {ik is ic mc ms sa : Nat} {A : Nat → Prop}
    (hown : s.vm.findClass own = some m.cls) (hcls : Bundle.fit cls = true) (hnames : ∀ n ∈ names, Bundle.fit n = true)
    (hk : (Cond.classLink own ik cls).before args s = true) (hini : (Cond.initialized cls).before args s = true) (hstr : vk_R own is text sa s) (hat : ∀ w ∈ vx_atS own ic cls names, w.before args s = true)
    (hgood : ∀ w ∈ Cond.classLink own ik cls :: Cond.initialized cls :: vx_atS own ic cls names, vx_ot w = true)
    (hU : vx_Zq Bundle.tN "UNASSIGNED_STACK" Bundle.steD A s s.heap) (hN : vx_Zq Bundle.tN "SUPPRESSED_SENTINEL" Bundle.listD A s s.heap) (hS : va_S A s.heap H locs) (hsize : ls.size = c.maxLocals)
    (d0 : decode cc pc = .ok (.new ik, 3)) (d3 : decode cc (pc + 3) = .ok (.dup, 1)) (d4 : decode cc (pc + 4) = .ok (.ldc is, 2)) (d6 : decode cc (pc + 6) = .ok (.invokespecial ic, 3)) (d9 : decode cc (pc + 9) = .ok (.athrow, 1))
    (hout : ∀ x ∈ c.exceptionTable.toList, covers x (pc + 9) = false)
    (hRframes : names.length + 3 < R.frames) (hRlocals : (rest.map fun v => v.category).sum + (13 * (names.length + 1) + 43) ≤ R.locals) (hRcells : cells + 1 ≤ R.cells) (hRslots : slots + 6 ≤ R.slots) (hlocks : meth.locks = false)
    (hx : ∀ t : State, s.vm.Alike t.vm → H.size ≤ t.heap.size → (∀ q : Nat, q < H.size → t.heap[q]? = H[q]?) → XC cls s t)
    (hf : ∀ z ∈ locs, free z.base) (hc : cells + 1 ≤ mc) (hs : slots + 6 ≤ ms) :
    W p l e R s m args below meth c H locs cells slots (vx_MQ below Qc XC args s mc ms free) (F0 m pc ls rest) := by
  intro T hT X
  have htr : e.platform.stackTraces = false := (show e.platform.stackTraces = l.stackTraces by rw [X.admits.platform]).trans hl
  have Y := vx_rebase X (R' := { frames := R.frames, locals := R.locals, cells := 1, slots := 6 }) (Nat.le_refl _) (Nat.le_refl _) hRcells hRslots
  obtain ⟨s', hA⟩ : ∃ z, z = (T.setVm s.vm).setFrames (.invoking m args :: below) := ⟨_, rfl⟩
  rw [← hA] at Y
  have hvm : s'.vm = s.vm := by rw [hA]; rfl
  have hhp : s'.heap = H := by rw [hA]; exact hT
  have hW0 : s.WarmedH s'.vm := by rw [hvm]; exact State.WarmedH.refl s
  have hat' : ∀ w ∈ vx_atS own ic cls names, w.before args s' = true := fun w hw => vx_ot_at hW0 hvm.symm (hgood w (List.mem_cons_of_mem _ (List.mem_cons_of_mem _ hw))) (hat w hw)
  have hk' : (Cond.classLink own ik cls).before args s' = true := vx_ot_at hW0 hvm.symm (hgood _ List.mem_cons_self) hk
  have hini' : (Cond.initialized cls).before args s' = true := vx_ot_at hW0 hvm.symm (hgood _ (List.mem_cons_of_mem _ List.mem_cons_self)) hini
  have hU' : vx_Zq Bundle.tN "UNASSIGNED_STACK" Bundle.steD A s' s'.heap := by rw [hhp]; exact vx_Zq.moved hW0.alike (hU.kept hS.2.1)
  have hN' : vx_Zq Bundle.tN "SUPPRESSED_SENTINEL" Bundle.listD A s' s'.heap := by rw [hhp]; exact vx_Zq.moved hW0.alike (hN.kept hS.2.1)
  have h : ∀ w ∈ Bundle.ownAtoms own ic cls names, w.before args s' = true := vx_own hat' (vx_isRefq hU'.1) (vx_isRefq hN'.1) hU'.2.word hN'.2.word
  have hown' : s'.vm.findClass own = some m.cls := by rw [hvm]; exact hown
  have hins : (Cond.instantiable cls 6).before args s' = true := h _ (by simp [Bundle.ownAtoms])
  obtain ⟨vm₁, cX, kX, hfX, hkX, -, -, X₁, st1⟩ := Y.newCold hexec (own := own) (C := cls) (index := ik) (n := 6) hown' hk' hins hini'
    (g := F0 m pc ls rest) rfl (by rw [hb]; exact d0) (Nat.le_refl _) (Nat.le_refl _)
  generalize hT1 : (T.setVm vm₁).pushCell { cls := cX, slots := kX.instanceTypes.map defaultValue, vm := .none } = T1 at X₁ st1
  have hcat : (Value.ref T.heap.size).category = 1 := rfl
  have hcellA : T1.heap[T.heap.size]? = some (freshCell cX kX) := by rw [← hT1]; exact State.heap_pushCell_size _ _
  have d3' : decode c.code (pc + 3) = .ok (.dup, 1) := by rw [hb]; exact d3
  have d4' : decode c.code (pc + 4) = .ok (.ldc is, 2) := by rw [hb]; exact d4
  have hstr' : vk_R own is text sa s' := vk_R.warm hW0 hstr
  obtain ⟨U, hsteps, hrun, hend, hW, hsame, ce, hce, hO⟩ := X₁.ctorThrowS hexec htr (own := own) (cls := cls) (names := names) (ic := ic) hown' hcls hnames h (fun x hx => nomatch hx) hfX hkX hcellA (by rw [hhp, hT]; exact Nat.le_refl _) (msg := .ref sa) rfl
    (g := { method := m, pc := pc + 6, locals := ls, stack := .ref sa :: .ref T.heap.size :: .ref T.heap.size :: rest, locked := none }) rfl hsize rfl rfl (rest := rest) rfl
    (by rw [hb]; exact d6) (by rw [hb]; exact d9) hout hRframes (by simp only [List.map_cons, List.sum_cons, hcat]; omega) hlocks
  obtain ⟨f1, f2⟩ := vx_frame hsame
  rw [hhp] at f1 f2
  have hWs : s.WarmedH U.vm := State.WarmedH.trans hW0 hW
  have hcl : s.vm.findClass cls = some ce.cls := by
    have h9 := hO.cls
    rw [hvm] at h9
    exact h9
  have hall : s.sameButNew ({ U with vm := s.vm } : State) locs mc ms := by
    subst hA
    obtain ⟨e1, e2⟩ := hsame
    rw [State.setFrames_setFrames] at e1
    have h2 : (T.setVm s.vm).sameButNew ({ U with vm := s.vm } : State) [] (0 + 1) (0 + 6) := ⟨e1, e2⟩
    have h3 := X.same.trans h2
    rw [List.append_nil] at h3
    exact h3.mono hc hs
  refine ⟨U, ?_, .threw T.heap.size, hrun, hend, Or.inr ⟨T.heap.size, rfl, cls, ce, locs, hx U hWs.alike f1 (fun q hq => f2 q hq (fun z hz => nomatch hz)), hce, hO.vm, hcl, hWs, hall, hf⟩⟩
  refine st1 _ ?_
  show Steps p.tables e below (T1.setTop { method := m, pc := pc + 3, locals := ls, stack := .ref T.heap.size :: rest, locked := none }) _
  jvm_step X₁.here [X₁.here.top, hexec, d3', Value.category]
  exact X₁.ldcString hexec (own := own) (text := text) (index := is) (a := sa) hown' hstr'.1 hstr'.2
    (g := { method := m, pc := pc + 4, locals := ls, stack := .ref T.heap.size :: .ref T.heap.size :: rest, locked := none }) rfl d4' _ hsteps
end Ends
section Bodies
variable {l : Launch}
end Bodies
end VXA
end
section
def RX0 : String := "GroupFilters$Filter"
def TX0 : u_T := fun k => match k with
  | 0 => ("GroupFilters$Filter", "timers", "[I", true)
  | 1 => ("GroupFilters$Filter", "excludes", "Z", false)
  | 2 => ("GroupFilters$Filter", "running", "I", false)
  | 3 => ("GroupFilters$Filter", "stopped", "I", false)
  | _ => ("GroupFilters$Filter", "ownTimer", "I", false)
def tyX0 : Nat → FieldType := fun k => match k with
  | 0 => .array .int
  | 1 => .boolean
  | 2 => .int
  | 3 => .int
  | _ => .int
abbrev wsX00 : List Cond := u_ws RX0 TX0 5
theorem nmX0 : ∀ a, a < 5 → ∀ b, b < 5 → a ≠ b → (TX0 a).2.1 ≠ (TX0 b).2.1 := by decide +kernel
theorem tyX0_ok : ∀ k, k < 5 → parseFieldDescriptor (TX0 k).2.2.1 = some (tyX0 k) := by decide +kernel
abbrev cX0_init : ByteArray := prog_2_method_1_code
def yX0_init : MethodName := ⟨RX0, "<init>", "()V"⟩
abbrev cX0_reset : ByteArray := prog_2_method_2_code
def yX0_reset : MethodName := ⟨RX0, "reset", "()V"⟩
abbrev cX0_state : ByteArray := prog_2_method_3_code
def yX0_state : MethodName := ⟨RX0, "state", "()I"⟩
abbrev cX0_lets : ByteArray := prog_2_method_4_code
def yX0_lets : MethodName := ⟨RX0, "lets", "(I)Z"⟩
abbrev cX0_doubted : ByteArray := prog_2_method_5_code
def yX0_doubted : MethodName := ⟨RX0, "doubted", "(I)I"⟩
abbrev cX0_allow : ByteArray := prog_2_method_6_code
def yX0_allow : MethodName := ⟨RX0, "allow", "(II)V"⟩
abbrev cX0_exclude : ByteArray := prog_2_method_7_code
def yX0_exclude : MethodName := ⟨RX0, "exclude", "(III)V"⟩
abbrev cX0_block : ByteArray := prog_2_method_8_code
def yX0_block : MethodName := ⟨RX0, "block", "(I)V"⟩
abbrev cX0_age : ByteArray := prog_2_method_9_code
def yX0_age : MethodName := ⟨RX0, "age", "(I)V"⟩
abbrev cX0_ageTimers : ByteArray := prog_2_method_10_code
def yX0_ageTimers : MethodName := ⟨RX0, "ageTimers", "(I)I"⟩
abbrev cX0_include : ByteArray := prog_2_method_11_code
def yX0_include : MethodName := ⟨RX0, "include", "()V"⟩
abbrev cX0_setTimers : ByteArray := prog_2_method_12_code
def yX0_setTimers : MethodName := ⟨RX0, "setTimers", "(II)V"⟩
abbrev cX0_lowerTimers : ByteArray := prog_2_method_13_code
def yX0_lowerTimers : MethodName := ⟨RX0, "lowerTimers", "(II)V"⟩
abbrev cX0_lowerOwnTimer : ByteArray := prog_2_method_14_code
def yX0_lowerOwnTimer : MethodName := ⟨RX0, "lowerOwnTimer", "(I)V"⟩
def RX1 : String := "GroupFilters$Link"
def TX1 : u_T := fun k => match k with
  | 0 => ("GroupFilters$Link", "number", "I", true)
  | 1 => ("GroupFilters$Link", "filters", "[LGroupFilters$Filter;", true)
  | 2 => ("GroupFilters$Link", "members", "[LGroupFilters$Member;", true)
  | 3 => ("GroupFilters$Link", "often", "I", false)
  | 4 => ("GroupFilters$Link", "interval", "I", false)
  | 5 => ("GroupFilters$Link", "delay", "I", false)
  | 6 => ("GroupFilters$Link", "asker", "I", false)
  | _ => ("GroupFilters$Link", "countdown", "I", false)
def tyX1 : Nat → FieldType := fun k => match k with
  | 0 => .int
  | 1 => .array (.object "GroupFilters$Filter")
  | 2 => .array (.object "GroupFilters$Member")
  | 3 => .int
  | 4 => .int
  | 5 => .int
  | 6 => .int
  | _ => .int
abbrev wsX10 : List Cond := u_ws RX1 TX1 8
theorem nmX1 : ∀ a, a < 8 → ∀ b, b < 8 → a ≠ b → (TX1 a).2.1 ≠ (TX1 b).2.1 := by decide +kernel
theorem tyX1_ok : ∀ k, k < 8 → parseFieldDescriptor (TX1 k).2.2.1 = some (tyX1 k) := by decide +kernel
abbrev cX1_init : ByteArray := prog_3_method_1_code
def yX1_init : MethodName := ⟨RX1, "<init>", "(I)V"⟩
abbrev cX1_reset : ByteArray := prog_3_method_2_code
def yX1_reset : MethodName := ⟨RX1, "reset", "()V"⟩
abbrev cX1_set : ByteArray := prog_3_method_3_code
def yX1_set : MethodName := ⟨RX1, "set", "(III)V"⟩
abbrev cX1_grace : ByteArray := prog_3_method_4_code
def yX1_grace : MethodName := ⟨RX1, "grace", "()I"⟩
abbrev cX1_last : ByteArray := prog_3_method_5_code
def yX1_last : MethodName := ⟨RX1, "last", "()I"⟩
abbrev cX1_asks : ByteArray := prog_3_method_6_code
def yX1_asks : MethodName := ⟨RX1, "asks", "()Z"⟩
abbrev cX1_records : ByteArray := prog_3_method_7_code
def yX1_records : MethodName := ⟨RX1, "records", "()I"⟩
abbrev cX1_yieldTo : ByteArray := prog_3_method_8_code
def yX1_yieldTo : MethodName := ⟨RX1, "yieldTo", "(I)V"⟩
abbrev cX1_ageFilters : ByteArray := prog_3_method_9_code
def yX1_ageFilters : MethodName := ⟨RX1, "ageFilters", "(I)V"⟩
abbrev cX1_runClock : ByteArray := prog_3_method_10_code
def yX1_runClock : MethodName := ⟨RX1, "runClock", "(LGroupFilters$QueryLog;I)V"⟩
abbrev cX1_hearReport : ByteArray := prog_3_method_11_code
def yX1_hearReport : MethodName := ⟨RX1, "hearReport", "(LGroupFilters$QueryLog;III)V"⟩
abbrev cX1_hearToIn : ByteArray := prog_3_method_12_code
def yX1_hearToIn : MethodName := ⟨RX1, "hearToIn", "(LGroupFilters$QueryLog;II)V"⟩
abbrev cX1_hearToEx : ByteArray := prog_3_method_13_code
def yX1_hearToEx : MethodName := ⟨RX1, "hearToEx", "(LGroupFilters$QueryLog;II)V"⟩
abbrev cX1_hearBlock : ByteArray := prog_3_method_14_code
def yX1_hearBlock : MethodName := ⟨RX1, "hearBlock", "(LGroupFilters$QueryLog;II)V"⟩
abbrev cX1_askSources : ByteArray := prog_3_method_15_code
def yX1_askSources : MethodName := ⟨RX1, "askSources", "(LGroupFilters$QueryLog;II)V"⟩
abbrev cX1_askGroup : ByteArray := prog_3_method_16_code
def yX1_askGroup : MethodName := ⟨RX1, "askGroup", "(LGroupFilters$QueryLog;I)V"⟩
abbrev cX1_hearQuery : ByteArray := prog_3_method_17_code
def yX1_hearQuery : MethodName := ⟨RX1, "hearQuery", "(II)V"⟩
abbrev cX1_changeWish : ByteArray := prog_3_method_18_code
def yX1_changeWish : MethodName := ⟨RX1, "changeWish", "(LGroupFilters$QueryLog;IIZI)V"⟩
abbrev cX1_letAnswer : ByteArray := prog_3_method_19_code
def yX1_letAnswer : MethodName := ⟨RX1, "letAnswer", "(LGroupFilters$QueryLog;I)I"⟩
abbrev cX1_hasMemberFor : ByteArray := prog_3_method_20_code
def yX1_hasMemberFor : MethodName := ⟨RX1, "hasMemberFor", "(II)Z"⟩
def RX2 : String := "GroupFilters$Member"
def TX2 : u_T := fun k => match k with
  | 0 => ("GroupFilters$Member", "sets", "[I", true)
  | _ => ("GroupFilters$Member", "excludes", "[Z", true)
def tyX2 : Nat → FieldType := fun k => match k with
  | 0 => .array .int
  | _ => .array .boolean
abbrev wsX20 : List Cond := u_ws RX2 TX2 2
theorem nmX2 : ∀ a, a < 2 → ∀ b, b < 2 → a ≠ b → (TX2 a).2.1 ≠ (TX2 b).2.1 := by decide +kernel
theorem tyX2_ok : ∀ k, k < 2 → parseFieldDescriptor (TX2 k).2.2.1 = some (tyX2 k) := by decide +kernel
abbrev cX2_init : ByteArray := prog_4_method_1_code
def yX2_init : MethodName := ⟨RX2, "<init>", "()V"⟩
abbrev cX2_reset : ByteArray := prog_4_method_2_code
def yX2_reset : MethodName := ⟨RX2, "reset", "()V"⟩
abbrev cX2_wants : ByteArray := prog_4_method_3_code
def yX2_wants : MethodName := ⟨RX2, "wants", "(II)Z"⟩
def RX3 : String := "GroupFilters$QueryLog"
def TX3 : u_T := fun k => match k with
  | 0 => ("GroupFilters$QueryLog", "links", "[I", true)
  | 1 => ("GroupFilters$QueryLog", "groups", "[I", true)
  | 2 => ("GroupFilters$QueryLog", "sets", "[I", true)
  | 3 => ("GroupFilters$QueryLog", "ticks", "[I", true)
  | 4 => ("GroupFilters$QueryLog", "count", "I", false)
  | _ => ("GroupFilters$QueryLog", "now", "I", false)
def tyX3 : Nat → FieldType := fun k => match k with
  | 0 => .array .int
  | 1 => .array .int
  | 2 => .array .int
  | 3 => .array .int
  | 4 => .int
  | _ => .int
abbrev wsX30 : List Cond := u_ws RX3 TX3 6
theorem nmX3 : ∀ a, a < 6 → ∀ b, b < 6 → a ≠ b → (TX3 a).2.1 ≠ (TX3 b).2.1 := by decide +kernel
theorem tyX3_ok : ∀ k, k < 6 → parseFieldDescriptor (TX3 k).2.2.1 = some (tyX3 k) := by decide +kernel
abbrev cX3_init : ByteArray := prog_5_method_1_code
def yX3_init : MethodName := ⟨RX3, "<init>", "()V"⟩
abbrev cX3_reset : ByteArray := prog_5_method_2_code
def yX3_reset : MethodName := ⟨RX3, "reset", "()V"⟩
abbrev cX3_add : ByteArray := prog_5_method_3_code
def yX3_add : MethodName := ⟨RX3, "add", "(III)V"⟩
abbrev cX3_look : ByteArray := prog_5_method_4_code
def yX3_look : MethodName := ⟨RX3, "look", "(II)I"⟩
def RX4 : String := "GroupFilters"
def TX4 : u_T := fun k => match k with
  | 0 => ("GroupFilters", "links", "[LGroupFilters$Link;", true)
  | _ => ("GroupFilters", "log", "LGroupFilters$QueryLog;", true)
def tyX4 : Nat → FieldType := fun k => match k with
  | 0 => .array (.object "GroupFilters$Link")
  | _ => .object "GroupFilters$QueryLog"
abbrev wsX40 : List Cond := u_ws RX4 TX4 2
theorem nmX4 : ∀ a, a < 2 → ∀ b, b < 2 → a ≠ b → (TX4 a).2.1 ≠ (TX4 b).2.1 := by decide +kernel
theorem tyX4_ok : ∀ k, k < 2 → parseFieldDescriptor (TX4 k).2.2.1 = some (tyX4 k) := by decide +kernel
abbrev cX4_init : ByteArray := prog_1_method_1_code
def yX4_init : MethodName := ⟨RX4, "<init>", "(I)V"⟩
abbrev cX4_settings : ByteArray := prog_1_method_2_code
def yX4_settings : MethodName := ⟨RX4, "settings", "(IIII)I"⟩
abbrev cX4_report : ByteArray := prog_1_method_3_code
def yX4_report : MethodName := ⟨RX4, "report", "(IIII)I"⟩
abbrev cX4_query : ByteArray := prog_1_method_4_code
def yX4_query : MethodName := ⟨RX4, "query", "(IIIIZ)Z"⟩
abbrev cX4_tick : ByteArray := prog_1_method_5_code
def yX4_tick : MethodName := ⟨RX4, "tick", "(I)I"⟩
abbrev cX4_member : ByteArray := prog_1_method_6_code
def yX4_member : MethodName := ⟨RX4, "member", "(IIIZI)I"⟩
abbrev cX4_answer : ByteArray := prog_1_method_7_code
def yX4_answer : MethodName := ⟨RX4, "answer", "(II)I"⟩
abbrev cX4_wanted : ByteArray := prog_1_method_8_code
def yX4_wanted : MethodName := ⟨RX4, "wanted", "(III)Z"⟩
abbrev cX4_passed : ByteArray := prog_1_method_9_code
def yX4_passed : MethodName := ⟨RX4, "passed", "(III)I"⟩
abbrev cX4_mode : ByteArray := prog_1_method_10_code
def yX4_mode : MethodName := ⟨RX4, "mode", "(II)I"⟩
abbrev cX4_sources : ByteArray := prog_1_method_11_code
def yX4_sources : MethodName := ⟨RX4, "sources", "(IIZ)I"⟩
abbrev cX4_timer : ByteArray := prog_1_method_12_code
def yX4_timer : MethodName := ⟨RX4, "timer", "(III)I"⟩
abbrev cX4_groupTimer : ByteArray := prog_1_method_13_code
def yX4_groupTimer : MethodName := ⟨RX4, "groupTimer", "(II)I"⟩
abbrev cX4_sent : ByteArray := prog_1_method_14_code
def yX4_sent : MethodName := ⟨RX4, "sent", "()I"⟩
abbrev cX4_asked : ByteArray := prog_1_method_15_code
def yX4_asked : MethodName := ⟨RX4, "asked", "(II)I"⟩
abbrev cX4_told : ByteArray := prog_1_method_16_code
def yX4_told : MethodName := ⟨RX4, "told", "(II)I"⟩
abbrev cX4_clear : ByteArray := prog_1_method_17_code
def yX4_clear : MethodName := ⟨RX4, "clear", "()V"⟩
abbrev cX4_runClocks : ByteArray := prog_1_method_18_code
def yX4_runClocks : MethodName := ⟨RX4, "runClocks", "(I)V"⟩
abbrev cX4_filterAt : ByteArray := prog_1_method_19_code
def yX4_filterAt : MethodName := ⟨RX4, "filterAt", "(II)LGroupFilters$Filter;"⟩
abbrev cX4_checkPlace : ByteArray := prog_1_method_20_code
def yX4_checkPlace : MethodName := ⟨RX4, "checkPlace", "(III)V"⟩
abbrev cX4_checkIndex : ByteArray := prog_1_method_21_code
def yX4_checkIndex : MethodName := ⟨RX4, "checkIndex", "(II)V"⟩
abbrev cX4_checkNumber : ByteArray := prog_1_method_22_code
def yX4_checkNumber : MethodName := ⟨RX4, "checkNumber", "(III)V"⟩
abbrev cX4_holds : ByteArray := prog_1_method_23_code
def yX4_holds : MethodName := ⟨RX4, "holds", "(II)Z"⟩
def RX5 : String := "GroupFiltersModel"
def TX5 : u_T := fun k => match k with
  | 0 => ("GroupFiltersModel", "thrown", "I", false)
  | 1 => ("GroupFiltersModel", "links", "I", true)
  | 2 => ("GroupFiltersModel", "often", "[I", true)
  | 3 => ("GroupFiltersModel", "interval", "[I", true)
  | 4 => ("GroupFiltersModel", "delay", "[I", true)
  | 5 => ("GroupFiltersModel", "asker", "[I", true)
  | 6 => ("GroupFiltersModel", "away", "[I", true)
  | 7 => ("GroupFiltersModel", "clock", "[I", true)
  | 8 => ("GroupFiltersModel", "mode", "[I", true)
  | 9 => ("GroupFiltersModel", "groupTimer", "[I", true)
  | 10 => ("GroupFiltersModel", "place", "[I", true)
  | 11 => ("GroupFiltersModel", "timer", "[I", true)
  | 12 => ("GroupFiltersModel", "excludes", "[Z", true)
  | 13 => ("GroupFiltersModel", "wants", "[I", true)
  | 14 => ("GroupFiltersModel", "ticks", "I", false)
  | 15 => ("GroupFiltersModel", "sent", "I", false)
  | 16 => ("GroupFiltersModel", "askedLink", "[I", true)
  | 17 => ("GroupFiltersModel", "askedGroup", "[I", true)
  | 18 => ("GroupFiltersModel", "askedSet", "[I", true)
  | _ => ("GroupFiltersModel", "askedAt", "[I", true)
def tyX5 : Nat → FieldType := fun k => match k with
  | 0 => .int
  | 1 => .int
  | 2 => .array .int
  | 3 => .array .int
  | 4 => .array .int
  | 5 => .array .int
  | 6 => .array .int
  | 7 => .array .int
  | 8 => .array .int
  | 9 => .array .int
  | 10 => .array .int
  | 11 => .array .int
  | 12 => .array .boolean
  | 13 => .array .int
  | 14 => .int
  | 15 => .int
  | 16 => .array .int
  | 17 => .array .int
  | 18 => .array .int
  | _ => .array .int
abbrev wsX50 : List Cond := u_ws RX5 TX5 20
theorem nmX5 : ∀ a, a < 20 → ∀ b, b < 20 → a ≠ b → (TX5 a).2.1 ≠ (TX5 b).2.1 := by decide +kernel
theorem tyX5_ok : ∀ k, k < 20 → parseFieldDescriptor (TX5 k).2.2.1 = some (tyX5 k) := by decide +kernel
abbrev cX5_init : ByteArray := prog_7_method_1_code
def yX5_init : MethodName := ⟨RX5, "<init>", "(I)V"⟩
abbrev cX5_thrown : ByteArray := prog_7_method_2_code
def yX5_thrown : MethodName := ⟨RX5, "thrown", "()I"⟩
abbrev cX5_begin : ByteArray := prog_7_method_3_code
def yX5_begin : MethodName := ⟨RX5, "begin", "()V"⟩
abbrev cX5_isLink : ByteArray := prog_7_method_4_code
def yX5_isLink : MethodName := ⟨RX5, "isLink", "(I)Z"⟩
abbrev cX5_in : ByteArray := prog_7_method_5_code
def yX5_in : MethodName := ⟨RX5, "in", "(III)Z"⟩
abbrev cX5_grace : ByteArray := prog_7_method_6_code
def yX5_grace : MethodName := ⟨RX5, "grace", "(I)I"⟩
abbrev cX5_setOf : ByteArray := prog_7_method_7_code
def yX5_setOf : MethodName := ⟨RX5, "setOf", "(II)I"⟩
abbrev cX5_become : ByteArray := prog_7_method_8_code
def yX5_become : MethodName := ⟨RX5, "become", "(IIII)V"⟩
abbrev cX5_setTimers : ByteArray := prog_7_method_9_code
def yX5_setTimers : MethodName := ⟨RX5, "setTimers", "(III)V"⟩
abbrev cX5_lower : ByteArray := prog_7_method_10_code
def yX5_lower : MethodName := ⟨RX5, "lower", "(III)V"⟩
abbrev cX5_lowerGroup : ByteArray := prog_7_method_11_code
def yX5_lowerGroup : MethodName := ⟨RX5, "lowerGroup", "(II)V"⟩
abbrev cX5_send : ByteArray := prog_7_method_12_code
def yX5_send : MethodName := ⟨RX5, "send", "(III)V"⟩
abbrev cX5_asks : ByteArray := prog_7_method_13_code
def yX5_asks : MethodName := ⟨RX5, "asks", "(I)Z"⟩
abbrev cX5_ask : ByteArray := prog_7_method_14_code
def yX5_ask : MethodName := ⟨RX5, "ask", "(III)V"⟩
abbrev cX5_askGroup : ByteArray := prog_7_method_15_code
def yX5_askGroup : MethodName := ⟨RX5, "askGroup", "(II)V"⟩
abbrev cX5_including : ByteArray := prog_7_method_16_code
def yX5_including : MethodName := ⟨RX5, "including", "(IIII)V"⟩
abbrev cX5_excluding : ByteArray := prog_7_method_17_code
def yX5_excluding : MethodName := ⟨RX5, "excluding", "(IIII)V"⟩
abbrev cX5_reported : ByteArray := prog_7_method_18_code
def yX5_reported : MethodName := ⟨RX5, "reported", "(IIII)I"⟩
abbrev cX5_settings : ByteArray := prog_7_method_19_code
def yX5_settings : MethodName := ⟨RX5, "settings", "(IIII)I"⟩
abbrev cX5_report : ByteArray := prog_7_method_20_code
def yX5_report : MethodName := ⟨RX5, "report", "(IIII)I"⟩
abbrev cX5_query : ByteArray := prog_7_method_21_code
def yX5_query : MethodName := ⟨RX5, "query", "(IIIIZ)Z"⟩
abbrev cX5_tickRecord : ByteArray := prog_7_method_22_code
def yX5_tickRecord : MethodName := ⟨RX5, "tickRecord", "(I)V"⟩
abbrev cX5_tickLink : ByteArray := prog_7_method_23_code
def yX5_tickLink : MethodName := ⟨RX5, "tickLink", "(I)Z"⟩
abbrev cX5_tick : ByteArray := prog_7_method_24_code
def yX5_tick : MethodName := ⟨RX5, "tick", "(I)I"⟩
abbrev cX5_member : ByteArray := prog_7_method_25_code
def yX5_member : MethodName := ⟨RX5, "member", "(IIIZI)I"⟩
abbrev cX5_answer : ByteArray := prog_7_method_26_code
def yX5_answer : MethodName := ⟨RX5, "answer", "(II)I"⟩
abbrev cX5_wanted : ByteArray := prog_7_method_27_code
def yX5_wanted : MethodName := ⟨RX5, "wanted", "(III)Z"⟩
abbrev cX5_passed : ByteArray := prog_7_method_28_code
def yX5_passed : MethodName := ⟨RX5, "passed", "(III)I"⟩
abbrev cX5_knows : ByteArray := prog_7_method_29_code
def yX5_knows : MethodName := ⟨RX5, "knows", "(II)Z"⟩
abbrev cX5_mode : ByteArray := prog_7_method_30_code
def yX5_mode : MethodName := ⟨RX5, "mode", "(II)I"⟩
abbrev cX5_sources : ByteArray := prog_7_method_31_code
def yX5_sources : MethodName := ⟨RX5, "sources", "(IIZ)I"⟩
abbrev cX5_timer : ByteArray := prog_7_method_32_code
def yX5_timer : MethodName := ⟨RX5, "timer", "(III)I"⟩
abbrev cX5_groupTimer : ByteArray := prog_7_method_33_code
def yX5_groupTimer : MethodName := ⟨RX5, "groupTimer", "(II)I"⟩
abbrev cX5_sent : ByteArray := prog_7_method_34_code
def yX5_sent : MethodName := ⟨RX5, "sent", "()I"⟩
abbrev cX5_asked : ByteArray := prog_7_method_35_code
def yX5_asked : MethodName := ⟨RX5, "asked", "(II)I"⟩
abbrev cX5_told : ByteArray := prog_7_method_36_code
def yX5_told : MethodName := ⟨RX5, "told", "(II)I"⟩
abbrev cX5_clear : ByteArray := prog_7_method_37_code
def yX5_clear : MethodName := ⟨RX5, "clear", "()V"⟩
def RJ9 : String := "java/lang/Math"
abbrev cJ9_floorMod_7cf53 : ByteArray := prog_11_method_50_code
def yJ9_floorMod_7cf53 : MethodName := ⟨RJ9, "floorMod", "(II)I"⟩
abbrev cJ9_max_7cf53 : ByteArray := prog_11_method_65_code
def yJ9_max_7cf53 : MethodName := ⟨RJ9, "max", "(II)I"⟩
abbrev cJ9_min_7cf53 : ByteArray := prog_11_method_69_code
def yJ9_min_7cf53 : MethodName := ⟨RJ9, "min", "(II)I"⟩
def RJ0 : String := "java/lang/String"
def RL : String := "GroupFiltersLaw"
abbrev cL_cell : ByteArray := method_2_code
def yL_cell : MethodName := ⟨RL, "cell", "([II)I"⟩
abbrev cL_settings : ByteArray := method_3_code
def yL_settings : MethodName := ⟨RL, "settings", "(LGroupFilters;IIII[J)I"⟩
abbrev cL_report : ByteArray := method_4_code
def yL_report : MethodName := ⟨RL, "report", "(LGroupFilters;IIII[J)I"⟩
abbrev cL_query : ByteArray := method_5_code
def yL_query : MethodName := ⟨RL, "query", "(LGroupFilters;IIIIZ[J)I"⟩
abbrev cL_tick : ByteArray := method_6_code
def yL_tick : MethodName := ⟨RL, "tick", "(LGroupFilters;I[J)I"⟩
abbrev cL_member : ByteArray := method_7_code
def yL_member : MethodName := ⟨RL, "member", "(LGroupFilters;IIIZI[J)I"⟩
abbrev cL_answer : ByteArray := method_8_code
def yL_answer : MethodName := ⟨RL, "answer", "(LGroupFilters;II[J)I"⟩
abbrev cL_wanted : ByteArray := method_9_code
def yL_wanted : MethodName := ⟨RL, "wanted", "(LGroupFilters;III[J)I"⟩
abbrev cL_passed : ByteArray := method_10_code
def yL_passed : MethodName := ⟨RL, "passed", "(LGroupFilters;III[J)I"⟩
abbrev cL_mode : ByteArray := method_11_code
def yL_mode : MethodName := ⟨RL, "mode", "(LGroupFilters;II[J)I"⟩
abbrev cL_sources : ByteArray := method_12_code
def yL_sources : MethodName := ⟨RL, "sources", "(LGroupFilters;IIZ[J)I"⟩
abbrev cL_timer : ByteArray := method_13_code
def yL_timer : MethodName := ⟨RL, "timer", "(LGroupFilters;III[J)I"⟩
abbrev cL_groupTimer : ByteArray := method_14_code
def yL_groupTimer : MethodName := ⟨RL, "groupTimer", "(LGroupFilters;II[J)I"⟩
abbrev cL_asked : ByteArray := method_15_code
def yL_asked : MethodName := ⟨RL, "asked", "(LGroupFilters;II[J)I"⟩
abbrev cL_told : ByteArray := method_16_code
def yL_told : MethodName := ⟨RL, "told", "(LGroupFilters;II[J)I"⟩
abbrev cL_law : ByteArray := code
def yL_law : MethodName := ⟨RL, "law", "([I)Z"⟩
abbrev vwCl : List vw_C := [(RX0, TX0, 5), (RX1, TX1, 8), (RX2, TX2, 2), (RX3, TX3, 6), (RX4, TX4, 2), (RX5, TX5, 20)]
end
section
/-! ===== THE ENGINE: an abstract heap (cells by numbers), and a judgement q_A over W whose rules are one an instruction ===== -/
abbrev q_C : Type := (Nat × List Value) ⊕ ((Nat × List Int32) ⊕ ((Nat × List (Option Nat)) ⊕ (Nat × List Int64)))
abbrev q_H : Type := Nat → q_C
/-- the script: its length, its ints -/
abbrev q_S : Type := Nat × (Nat → Int32)
abbrev q_O : Type := Option Value ⊕ Nat
/-- own class, name, bytes, locals, result, frames, words, handlers -/
abbrev q_M : Type := String × MethodName × ByteArray × Nat × Option FieldType × Nat × Nat × List (Nat × Nat × Nat × Nat)
abbrev q_own (M : q_M) : String := M.1
abbrev q_nm (M : q_M) : MethodName := M.2.1
abbrev q_cc (M : q_M) : ByteArray := M.2.2.1
abbrev q_nL (M : q_M) : Nat := M.2.2.2.1
abbrev q_rt (M : q_M) : Option FieldType := M.2.2.2.2.1
abbrev q_fr (M : q_M) : Nat := M.2.2.2.2.2.1
abbrev q_lo (M : q_M) : Nat := M.2.2.2.2.2.2.1
abbrev q_hs (M : q_M) : List (Nat × Nat × Nat × Nat) := M.2.2.2.2.2.2.2
/-- a value by its abstract one: references are numbers of cells; a float stands for a reference of which nothing is known -/
def q_v (ads : List Nat) (v w : Value) : Prop := match v with
  | .int x => w = .int x
  | .null => w = .null
  | .ref i => ∃ a, ads[i + 1]? = some a ∧ w = .ref a
  | .float x => ∃ a, w = .ref a ∧ (x = 1 → ads[0]? = some a)
  | .long x => w = .long x
  | _ => False
def q_vs (ads : List Nat) : List Value → List Value → Prop
  | [], ws => ws = []
  | v :: vs, ws => ∃ w r, ws = w :: r ∧ q_v ads v w ∧ q_vs ads vs r
def q_le (ads ads' : List Nat) : Prop := ∀ (i a : Nat), ads[i]? = some a → ads'[i]? = some a
theorem q_le.rf {ads : List Nat} : q_le ads ads := fun _ _ h => h
theorem q_le.tr {a b c : List Nat} (h : q_le a b) (k : q_le b c) : q_le a c := fun i x q => k i x (h i x q)
theorem q_v.mono {ads ads' : List Nat} (hp : q_le ads ads') {v w : Value} (h : q_v ads v w) : q_v ads' v w := by
  cases v with
  | ref i =>
    obtain ⟨a, h1, h2⟩ := h
    exact ⟨a, hp _ _ h1, h2⟩
  | float x =>
    obtain ⟨a, h1, h2⟩ := h
    exact ⟨a, h1, fun q => hp _ _ (h2 q)⟩
  | _ => exact h
theorem q_vs.mono {ads ads' : List Nat} (hp : q_le ads ads') : ∀ {vs ws : List Value}, q_vs ads vs ws → q_vs ads' vs ws
  | [], _, h => h
  | _ :: _, _, ⟨w, r, e, h1, h2⟩ => ⟨w, r, e, h1.mono hp, q_vs.mono hp h2⟩
theorem q_v.cat {ads : List Nat} {v w : Value} (h : q_v ads v w) : w.category = v.category := by
  cases v with
  | int x => rw [show w = .int x from h]
  | long x => rw [show w = .long x from h]
  | null => rw [show w = .null from h]
  | ref i => obtain ⟨a, -, h2⟩ := h; rw [h2]; rfl
  | float b => obtain ⟨a, h2, -⟩ := h; rw [h2]; rfl
  | _ => exact h.elim
theorem q_vs.sum {ads : List Nat} : ∀ {vs ws : List Value}, q_vs ads vs ws → (ws.map fun v => v.category).sum = (vs.map fun v => v.category).sum
  | [], _, h => by rw [show _ = [] from h]
  | _ :: _, _, ⟨w, r, e, h1, h2⟩ => by
    subst e
    have h3 := q_vs.sum h2
    simp only [List.map_cons, List.sum_cons, h1.cat, h3]
theorem q_vs.len {ads : List Nat} : ∀ {vs ws : List Value}, q_vs ads vs ws → ws.length = vs.length
  | [], _, h => by rw [show _ = [] from h]
  | _ :: _, _, ⟨w, r, e, h1, h2⟩ => by
    subst e
    rw [List.length_cons, List.length_cons, q_vs.len h2]
theorem q_vs.app {ads : List Nat} : ∀ {vs vt ws wt : List Value}, q_vs ads vs ws → q_vs ads vt wt → q_vs ads (vs ++ vt) (ws ++ wt)
  | [], _, _, _, h, k => by rw [show _ = [] from h]; exact k
  | _ :: _, _, _, _, ⟨w, r, e, h1, h2⟩, k => by
    subst e
    exact ⟨w, _, rfl, h1, q_vs.app h2 k⟩
theorem q_vs.split {ads : List Nat} : ∀ {vs vt us : List Value}, q_vs ads (vs ++ vt) us → ∃ ws wt, us = ws ++ wt ∧ q_vs ads vs ws ∧ q_vs ads vt wt
  | [], _, us, h => ⟨[], us, rfl, rfl, h⟩
  | _ :: _, _, _, ⟨w, r, e, h1, h2⟩ => by
    obtain ⟨ws, wt, e2, k1, k2⟩ := q_vs.split h2
    exact ⟨w :: ws, wt, by rw [e, e2]; rfl, ⟨w, ws, rfl, h1, k1⟩, k2⟩
theorem q_vs.rev {ads : List Nat} : ∀ {vs ws : List Value}, q_vs ads vs ws → q_vs ads vs.reverse ws.reverse
  | [], _, h => by rw [show _ = [] from h]; rfl
  | _ :: _, _, ⟨w, r, e, h1, h2⟩ => by
    subst e
    rw [List.reverse_cons, List.reverse_cons]
    exact (q_vs.rev h2).app ⟨w, [], rfl, h1, rfl⟩
theorem q_vs.at {ads : List Nat} : ∀ {vs ws : List Value}, q_vs ads vs ws → ∀ {k : Nat} {v : Value}, vs[k]? = some v → ∃ w, ws[k]? = some w ∧ q_v ads v w
  | [], _, _, k, v, hk => by simp at hk
  | _ :: _, _, ⟨w, r, e, h1, h2⟩, k, v, hk => by
    subst e
    cases k with
    | zero =>
      rw [List.getElem?_cons_zero] at hk
      cases hk
      exact ⟨w, rfl, h1⟩
    | succ k =>
      rw [List.getElem?_cons_succ] at hk
      obtain ⟨w2, q1, q2⟩ := q_vs.at h2 hk
      exact ⟨w2, by rw [List.getElem?_cons_succ]; exact q1, q2⟩
theorem q_vs.set {ads : List Nat} : ∀ {vs ws : List Value}, q_vs ads vs ws → ∀ {k : Nat} {v w : Value}, q_v ads v w → q_vs ads (vs.set k v) (ws.set k w)
  | [], _, h, k, v, w, hv => by rw [show _ = [] from h]; rfl
  | _ :: _, _, ⟨w, r, e, h1, h2⟩, k, v, w2, hv => by
    subst e
    cases k with
    | zero => exact ⟨w2, r, rfl, hv, h2⟩
    | succ k => exact ⟨w, _, rfl, h1, q_vs.set h2 hv⟩
/-- the locals: .retAddr stands for 'nothing known' -/
def q_L (ads : List Nat) (nL : Nat) (L : List Value) (ls : Array Slot) : Prop := ls.size = nL ∧ lv_wf ls ∧ ∀ (i : Nat) (v : Value), L[i]? = some v → (∃ k, v = .retAddr k) ∨ ∃ w, q_v ads v w ∧ w.category = 1 ∧ ls[i]? = some (.val w)
theorem q_L.mono {ads ads' : List Nat} (hp : q_le ads ads') {nL : Nat} {L : List Value} {ls : Array Slot} (h : q_L ads nL L ls) : q_L ads' nL L ls :=
  ⟨h.1, h.2.1, fun i v hv => (h.2.2 i v hv).imp id (fun ⟨w, h1, hc, h2⟩ => ⟨w, h1.mono hp, hc, h2⟩)⟩
theorem q_L.int {ads : List Nat} {nL : Nat} {L : List Value} {ls : Array Slot} (h : q_L ads nL L ls) {i : Nat} {x : Int32} (hi : L[i]? = some (.int x)) : ls[i]? = some (.val (.int x)) := by
  rcases h.2.2 i _ hi with ⟨k, e⟩ | ⟨w, h1, -, h2⟩
  · cases e
  · rw [h2, show w = .int x from h1]
theorem q_L.ref {ads : List Nat} {nL : Nat} {L : List Value} {ls : Array Slot} (h : q_L ads nL L ls) {i j : Nat} (hi : L[i]? = some (.ref j)) : ∃ a, ads[j + 1]? = some a ∧ ls[i]? = some (.val (.ref a)) := by
  rcases h.2.2 i _ hi with ⟨k, e⟩ | ⟨w, h1, -, h2⟩
  · cases e
  · obtain ⟨a, q1, q2⟩ := h1
    exact ⟨a, q1, by rw [h2, q2]⟩
def q_all (ls : Array Slot) : List (Nat × Value) := (List.range ls.size).filterMap (fun (i : Nat) => match (ls[i]? : Option Slot) with | some (Slot.val v) => some (i, v) | _ => none)
theorem q_all_has {ls : Array Slot} {nL : Nat} (h1 : ls.size = nL) (h2 : lv_wf ls) : lv_has ls nL (q_all ls) := by
  refine ⟨h1, h2, fun q hq => ?_⟩
  obtain ⟨i, -, hi⟩ := List.mem_filterMap.mp hq
  split at hi
  next v hv => cases hi; exact hv
  next => cases hi
theorem q_all_mem {ls : Array Slot} {i : Nat} {v : Value} (h : ls[i]? = some (.val v)) : (i, v) ∈ q_all ls := by
  refine List.mem_filterMap.mpr ⟨i, List.mem_range.mpr (Array.getElem?_eq_some_iff.mp h).1, ?_⟩
  rw [h]
theorem q_L.put {ads : List Nat} {nL : Nat} {L : List Value} {ls ls' : Array Slot} (h : q_L ads nL L ls) {i : Nat} {v w : Value} (hv : q_v ads v w) (hc1 : w.category = 1)
    (h' : lv_has ls' nL ((i, w) :: (q_all ls).filter (fun q => !(q.1 == i) && !(q.1 + 1 == i && q.2.category == 2)))) : q_L ads nL (L.set i v) ls' := by
  refine ⟨h'.1, h'.2.1, fun j u hu => ?_⟩
  by_cases hj : i = j
  · subst hj
    have hl : i < L.length := by
      have := (List.getElem?_eq_some_iff.mp hu).1
      rw [List.length_set] at this
      exact this
    rw [List.getElem?_set_self hl] at hu
    cases hu
    exact Or.inr ⟨w, hv, hc1, h'.2.2 (i, w) List.mem_cons_self⟩
  · rw [List.getElem?_set_ne hj] at hu
    rcases h.2.2 j u hu with h3 | ⟨w2, h3, hc, h4⟩
    · exact Or.inl h3
    · refine Or.inr ⟨w2, h3, hc, h'.2.2 (j, w2) (List.mem_cons_of_mem _ (List.mem_filter.mpr ⟨q_all_mem h4, ?_⟩))⟩
      have hne : ¬ j = i := fun q => hj q.symm
      simp [hne, hc]
def q_E (dT : Nat → ClassId) (ads : List Nat) (c : q_C) (e : va_E) : Prop := match c with
  | .inl o => ∃ gs, e = .inr (o.1, gs) ∧ q_vs ads o.2 gs
  | .inr (.inl x) => e = .inl (dT x.1, x.2.length, .inl (fun j => x.2.getD j 0))
  | .inr (.inr (.inr x)) => e = .inl (dT x.1, x.2.length, .inr (.inl (fun j => x.2.getD j 0)))
  | .inr (.inr (.inl x)) => ∃ f : Nat → Option Nat, e = .inl (dT x.1, x.2.length, .inr (.inr (.inr (.inr f)))) ∧ ∀ (j : Nat) (r : Option Nat), x.2[j]? = some r → (r = none ∧ f j = none) ∨ ∃ i a, r = some i ∧ ads[i + 1]? = some a ∧ f j = some a
theorem q_E.mono {dT : Nat → ClassId} {ads ads' : List Nat} (hp : q_le ads ads') {c : q_C} {e : va_E} (h : q_E dT ads c e) : q_E dT ads' c e := by
  rcases c with o | x | x | x
  · obtain ⟨gs, h1, h2⟩ := h
    exact ⟨gs, h1, h2.mono hp⟩
  · exact h
  · obtain ⟨f, h1, h2⟩ := h
    exact ⟨f, h1, fun j r hr => (h2 j r hr).imp id (fun ⟨i, a, q1, q2, q3⟩ => ⟨i, a, q1, hp _ _ q2, q3⟩)⟩
  · exact h
abbrev q_ads (sb : Nat) (ws : va_W) : List Nat := sb :: ws.map Prod.fst
theorem q_ads_at {sb : Nat} {ws : va_W} {i a : Nat} {e : va_E} (h : ws[i]? = some (a, e)) : (q_ads sb ws)[i + 1]? = some a := by
  rw [List.getElem?_cons_succ, List.getElem?_map, h]; rfl
theorem q_ads_set {sb : Nat} {ws : va_W} {i a : Nat} {e e' : va_E} (h : ws[i]? = some (a, e)) : q_ads sb (ws.set i (a, e')) = q_ads sb ws := by
  refine congrArg (fun z => sb :: z) (List.ext_getElem? fun j => ?_)
  by_cases hj : i = j
  · subst hj
    rw [List.getElem?_map, List.getElem?_map, List.getElem?_set_self (List.getElem?_eq_some_iff.mp h).1, h]
    rfl
  · rw [List.getElem?_map, List.getElem?_map, List.getElem?_set_ne hj]
theorem q_ads_push {sb : Nat} {ws : va_W} {x : Nat × va_E} : q_le (q_ads sb ws) (q_ads sb (ws ++ [x])) := by
  intro i a h
  have hl := (List.getElem?_eq_some_iff.mp h).1
  show (sb :: (ws ++ [x]).map Prod.fst)[i]? = some a
  rw [List.map_append, ← List.cons_append, List.getElem?_append_left hl]
  exact h
def q_up (h : q_H) (i : Nat) (c : q_C) : q_H := fun j => if j = i then c else h j
end
section
/-! ===== THE ENGINE, second: the words, the world, the judgement ===== -/
def q_okw (w : Cond) : Bool := match w with
  | .fieldLinkNest .. => true
  | .methodLinkNest .. => true
  | .castable .. => true
  | .declares .. => true
  | .arrayOver (.object _) => true
  | w => goodWord w
def q_in (w : Cond) : Prop := w ∈ lw_tbl ∧ q_okw w = true
theorem q_in_at {w : Cond} (i : Nat) (h : lw_tbl[i]? = some w) (h2 : q_okw w = true) : q_in w := ⟨List.mem_of_getElem? h, h2⟩
def q_T (s : State) : Prop := ∀ w, q_in w → va_Nw w s
theorem q_okw_moved {w : Cond} (h : q_okw w = true) {s U : State} (hW : s.WarmedH U.vm) (hn : va_Nw w s) : va_Nw w U := by
  by_cases hg : goodWord w = true
  · exact word_at hW (good_of_word hg) hn
  · unfold q_okw at h
    split at h
    · exact va_Nw.warmF hW hn
    · exact va_Nw.warmM hW hn
    · exact va_Nw.warmC hW hn
    · exact va_Nw.warmD hW hn
    · exact va_AO.moved hW.alike hn
    · exact absurd h hg
theorem q_T.moved {s U : State} (hW : s.WarmedH U.vm) (h : q_T s) : q_T U := fun w hw => q_okw_moved hw.2 hW (h w hw)
theorem q_use {w : Cond} (hw : q_okw w = true) {args : Array Value} {s : State} (h : va_Nw w s) : w.before args s = true := by
  by_cases hg : goodWord w = true
  · exact word_at (State.WarmedH.refl s) (good_of_word hg) h
  · unfold q_okw at hw
    split at hw
    · exact va_Nw.use rfl h
    · exact va_Nw.use rfl h
    · exact va_Nw.use rfl h
    · exact va_Nw.use rfl h
    · exact h
    · exact absurd hw hg
theorem q_T.at {s : State} (h : q_T s) {w : Cond} (hw : q_in w) (args : Array Value) : w.before args s = true := q_use hw.2 (h w hw)
def q_ty : List FieldType := [.int, .boolean, .object "GroupFilters$Link", .object "GroupFilters$Filter", .object "GroupFilters$Member", .long]
def q_ex : List String := ["java/lang/IndexOutOfBoundsException", "java/lang/IllegalArgumentException"]
abbrev q_tx0 : String := "there is no such link, group, source, member or query"
abbrev q_tx1 : String := "a number is none that is told"
def q_X (H0 : Heap) (l : Launch) (s : State) : Prop := l.stackTraces = false ∧ vx_Zq Bundle.tN "UNASSIGNED_STACK" Bundle.steD (fun q => H0.size ≤ q) s H0 ∧ vx_Zq Bundle.tN "SUPPRESSED_SENTINEL" Bundle.listD (fun q => H0.size ≤ q) s H0 ∧
  (∃ sa, vk_R "GroupFilters" 147 q_tx0 sa s) ∧ (∃ sa, vk_R "GroupFilters" 154 q_tx1 sa s) ∧ va_Nc "java/lang/IllegalArgumentException" "java/lang/IndexOutOfBoundsException" s ∧ va_Nc "java/lang/IndexOutOfBoundsException" "java/lang/IllegalArgumentException" s
theorem q_Nc_moved {C T : String} {u U : State} (hvm : u.vm.Alike U.vm) (h : va_Nc C T u) : va_Nc C T U := by
  obtain ⟨c, t, h1, h2, h3⟩ := h
  exact ⟨c, t, by rw [hvm.findClass]; exact h1, by rw [hvm.findClass]; exact h2, by rw [hvm.assignable]; exact h3⟩
theorem q_X.moved {H0 : Heap} {l : Launch} {s U : State} (hW : s.WarmedH U.vm) (h : q_X H0 l s) : q_X H0 l U := by
  obtain ⟨h1, h2, h3, ⟨a, h4⟩, ⟨b, h5⟩, h6, h7⟩ := h
  exact ⟨h1, vx_Zq.moved hW.alike h2, vx_Zq.moved hW.alike h3, ⟨a, vk_R.warm hW h4⟩, ⟨b, vk_R.warm hW h5⟩, q_Nc_moved hW.alike h6, q_Nc_moved hW.alike h7⟩
abbrev q_tys (dT : Nat → ClassId) : List (ClassId × FieldType) := (List.range q_ty.length).map (fun t => (dT t, q_ty.getD t .int))
theorem q_tys_at {dT : Nat → ClassId} {t : Nat} {ty : FieldType} (h : q_ty[t]? = some ty) : (q_tys dT)[t]? = some (dT t, ty) := by
  have hl := (List.getElem?_eq_some_iff.mp h).1
  rw [List.getElem?_map, List.getElem?_range hl]
  simp [List.getD_eq_getElem?_getD, h]
/-- what may be touched: cells of this run -/
def q_Z (H0 : Heap) (s : State) : Nat → Prop := fun q => H0.size ≤ q
def q_W (D : va_G) (dT : Nat → ClassId) (H0 : Heap) (s : State) (h : q_H) (n sb : Nat) (ws : va_W) (H : Heap) (locs : List Loc) : Prop :=
  ws.length = n ∧ (∀ i, i < n → ∃ a e, ws[i]? = some (a, e) ∧ q_E dT (q_ads sb ws) (h i) e) ∧ va_P D vwCl ws H ∧ va_D (q_Z H0 s) ws ∧ va_S (q_Z H0 s) s.heap H locs
def q_F (Sc : q_S) (M : q_M) (D : va_G) (dT : Nat → ClassId) (H0 : Heap) (sb : Nat) (p : Program) (l : Launch) (R : Room) (s : State) (m : MethodId) (meth : Method) (c : Code) : Prop :=
  p.tables.exec = Jvm.exec ∧ c.code = q_cc M ∧ c.maxLocals = q_nL M ∧ meth.sig.returnType = q_rt M ∧ meth.locks = false ∧ s.vm.findClass (q_own M) = some m.cls ∧ q_T s ∧ va_K D vwCl (q_tys dT) s ∧ q_fr M ≤ R.frames ∧ q_lo M ≤ R.locals ∧
  c.exceptionTable.toList.map (fun x => (x.startPc, x.endPc, x.handlerPc, x.catchType)) = q_hs M ∧ meth.name = (q_nm M).name ∧ H0.size ≤ s.heap.size ∧ (∀ q : Nat, q < H0.size → s.heap[q]? = H0[q]?) ∧ q_X H0 l s ∧ sb < H0.size ∧ va_X sb Sc.1 Sc.2 s H0
def q_R (ads : List Nat) (O : q_O) (o : Outcome) (t : State) : Prop := match O with
  | .inl none => o = .returned none
  | .inl (some v) => ∃ w, o = .returned (some w) ∧ q_v ads v w
  | .inr k => ∃ (x : Addr) (cell : Cell) (X : String), q_ex[k]? = some X ∧ o = .threw x ∧ t.heap[x]? = some cell ∧ t.vm.findClass X = some cell.cls ∧ cell.vm = .none
def q_End (D : va_G) (dT : Nat → ClassId) (H0 : Heap) (s : State) (below : List Frame) (sb : Nat) (ads0 : List Nat) (kc ks : Nat) (Q : q_O → q_H → Nat → Prop) : State → Prop := fun t =>
  ∃ (o : Outcome) (L : List Loc) (h : q_H) (n : Nat) (ws : va_W) (O : q_O), t.status = .running ∧ Ended t below o ∧ s.WarmedH t.vm ∧ s.sameButNew ({ t with vm := s.vm } : State) L kc ks ∧ Q O h n ∧ q_W D dT H0 s h n sb ws t.heap L ∧ q_le ads0 (q_ads sb ws) ∧ q_R (q_ads sb ws) O o t
def q_G (Sc : q_S) (M : q_M) (L st : List Value) (h : q_H) (n kc ks : Nat) (D : va_G) (dT : Nat → ClassId) (H0 : Heap) (p : Program) (l : Launch) (R : Room) (s : State) (m : MethodId) (meth : Method) (c : Code) (H : Heap) (locs : List Loc) (cells slots : Nat) (ls : Array Slot) (st' : List Value) (sb : Nat) (ws : va_W) (ads0 : List Nat) (kc' ks' : Nat) : Prop :=
  q_F Sc M D dT H0 sb p l R s m meth c ∧ q_W D dT H0 s h n sb ws H locs ∧ q_L (q_ads sb ws) (q_nL M) L ls ∧ q_vs (q_ads sb ws) st st' ∧ q_le ads0 (q_ads sb ws) ∧ cells + kc ≤ kc' ∧ slots + ks ≤ ks' ∧ kc' ≤ R.cells ∧ ks' ≤ R.slots
def q_A (Sc : q_S) (M : q_M) (pc : Nat) (L st : List Value) (h : q_H) (n kc ks : Nat) (Q : q_O → q_H → Nat → Prop) : Prop :=
  ∀ (D : va_G) (dT : Nat → ClassId) (H0 : Heap) (p : Program) (l : Launch) (e : Env) (R : Room) (s : State) (m : MethodId) (args : Array Value) (below : List Frame) (meth : Method) (c : Code) (H : Heap) (locs : List Loc) (cells slots : Nat) (ls : Array Slot) (st' : List Value) (sb : Nat) (ws : va_W) (ads0 : List Nat) (kc' ks' : Nat),
    q_G Sc M L st h n kc ks D dT H0 p l R s m meth c H locs cells slots ls st' sb ws ads0 kc' ks' →
    W p l e R s m args below meth c H locs cells slots (q_End D dT H0 s below sb ads0 kc' ks' Q) (F0 m pc ls st')
theorem q_mono {Sc : q_S} {M : q_M} {pc : Nat} {L st : List Value} {h : q_H} {n kc ks : Nat} {Q Q' : q_O → q_H → Nat → Prop} (hq : ∀ O h n, Q O h n → Q' O h n) (k : q_A Sc M pc L st h n kc ks Q) : q_A Sc M pc L st h n kc ks Q' := by
  intro D dT H0 p l e R s m args below meth c H locs cells slots ls st' sb ws ads0 kc' ks' g T hT X
  obtain ⟨t, a, o, L', h', n', ws', O, b1, b2, b3, b4, b5, b6⟩ := k D dT H0 p l e R s m args below meth c H locs cells slots ls st' sb ws ads0 kc' ks' g T hT X
  exact ⟨t, a, o, L', h', n', ws', O, b1, b2, b3, b4, hq _ _ _ b5, b6⟩
theorem q_less {Sc : q_S} {M : q_M} {pc : Nat} {L st : List Value} {h : q_H} {n kc ks kc1 ks1 : Nat} {Q : q_O → q_H → Nat → Prop} (h1 : kc1 ≤ kc) (h2 : ks1 ≤ ks) (k : q_A Sc M pc L st h n kc1 ks1 Q) : q_A Sc M pc L st h n kc ks Q := by
  intro D dT H0 p l e R s m args below meth c H locs cells slots ls st' sb ws ads0 kc' ks' g
  obtain ⟨g1, g2, g3, g4, g5, g6, g7, g8, g9⟩ := g
  exact k D dT H0 p l e R s m args below meth c H locs cells slots ls st' sb ws ads0 kc' ks' ⟨g1, g2, g3, g4, g5, by omega, by omega, g8, g9⟩
section QR
variable {Sc : q_S} {M : q_M} {pc : Nat} {L st : List Value} {h : q_H} {n kc ks : Nat} {Q : q_O → q_H → Nat → Prop}

theorem q_iadd {x y : Int32} (hd : decode (q_cc M) pc = .ok (.iadd, 1)) (k : q_A Sc M (pc + 1) L (.int (x + y) :: st) h n kc ks Q) : q_A Sc M pc L (.int y :: .int x :: st) h n kc ks Q := by
  intro D dT H0 p l e R s m args below meth c H locs cells slots ls st' sb ws ads0 kc' ks' g
  obtain ⟨hF, hW, hL, ⟨_, _, rfl, rfl, _, _, rfl, rfl, hS⟩, hr⟩ := g
  exact lv_iadd hF.1 hF.2.1 hd (k D dT H0 p l e R s m args below meth c H locs cells slots ls _ sb ws ads0 kc' ks' ⟨hF, hW, hL, ⟨_, _, rfl, rfl, hS⟩, hr⟩)
theorem q_isub {x y : Int32} (hd : decode (q_cc M) pc = .ok (.isub, 1)) (k : q_A Sc M (pc + 1) L (.int (x - y) :: st) h n kc ks Q) : q_A Sc M pc L (.int y :: .int x :: st) h n kc ks Q := by
  intro D dT H0 p l e R s m args below meth c H locs cells slots ls st' sb ws ads0 kc' ks' g
  obtain ⟨hF, hW, hL, ⟨_, _, rfl, rfl, _, _, rfl, rfl, hS⟩, hr⟩ := g
  exact lv_isub hF.1 hF.2.1 hd (k D dT H0 p l e R s m args below meth c H locs cells slots ls _ sb ws ads0 kc' ks' ⟨hF, hW, hL, ⟨_, _, rfl, rfl, hS⟩, hr⟩)
theorem q_imul {x y : Int32} (hd : decode (q_cc M) pc = .ok (.imul, 1)) (k : q_A Sc M (pc + 1) L (.int (x * y) :: st) h n kc ks Q) : q_A Sc M pc L (.int y :: .int x :: st) h n kc ks Q := by
  intro D dT H0 p l e R s m args below meth c H locs cells slots ls st' sb ws ads0 kc' ks' g
  obtain ⟨hF, hW, hL, ⟨_, _, rfl, rfl, _, _, rfl, rfl, hS⟩, hr⟩ := g
  exact lv_imul hF.1 hF.2.1 hd (k D dT H0 p l e R s m args below meth c H locs cells slots ls _ sb ws ads0 kc' ks' ⟨hF, hW, hL, ⟨_, _, rfl, rfl, hS⟩, hr⟩)
theorem q_iand {x y : Int32} (hd : decode (q_cc M) pc = .ok (.iand, 1)) (k : q_A Sc M (pc + 1) L (.int (x &&& y) :: st) h n kc ks Q) : q_A Sc M pc L (.int y :: .int x :: st) h n kc ks Q := by
  intro D dT H0 p l e R s m args below meth c H locs cells slots ls st' sb ws ads0 kc' ks' g
  obtain ⟨hF, hW, hL, ⟨_, _, rfl, rfl, _, _, rfl, rfl, hS⟩, hr⟩ := g
  exact lv_iand hF.1 hF.2.1 hd (k D dT H0 p l e R s m args below meth c H locs cells slots ls _ sb ws ads0 kc' ks' ⟨hF, hW, hL, ⟨_, _, rfl, rfl, hS⟩, hr⟩)
theorem q_ior {x y : Int32} (hd : decode (q_cc M) pc = .ok (.ior, 1)) (k : q_A Sc M (pc + 1) L (.int (x ||| y) :: st) h n kc ks Q) : q_A Sc M pc L (.int y :: .int x :: st) h n kc ks Q := by
  intro D dT H0 p l e R s m args below meth c H locs cells slots ls st' sb ws ads0 kc' ks' g
  obtain ⟨hF, hW, hL, ⟨_, _, rfl, rfl, _, _, rfl, rfl, hS⟩, hr⟩ := g
  exact lv_ior hF.1 hF.2.1 hd (k D dT H0 p l e R s m args below meth c H locs cells slots ls _ sb ws ads0 kc' ks' ⟨hF, hW, hL, ⟨_, _, rfl, rfl, hS⟩, hr⟩)
theorem q_ixor {x y : Int32} (hd : decode (q_cc M) pc = .ok (.ixor, 1)) (k : q_A Sc M (pc + 1) L (.int (x ^^^ y) :: st) h n kc ks Q) : q_A Sc M pc L (.int y :: .int x :: st) h n kc ks Q := by
  intro D dT H0 p l e R s m args below meth c H locs cells slots ls st' sb ws ads0 kc' ks' g
  obtain ⟨hF, hW, hL, ⟨_, _, rfl, rfl, _, _, rfl, rfl, hS⟩, hr⟩ := g
  exact lv_ixor hF.1 hF.2.1 hd (k D dT H0 p l e R s m args below meth c H locs cells slots ls _ sb ws ads0 kc' ks' ⟨hF, hW, hL, ⟨_, _, rfl, rfl, hS⟩, hr⟩)
theorem q_ishl {x y : Int32} (hd : decode (q_cc M) pc = .ok (.ishl, 1)) (k : q_A Sc M (pc + 1) L (.int (x <<< (y &&& 31)) :: st) h n kc ks Q) : q_A Sc M pc L (.int y :: .int x :: st) h n kc ks Q := by
  intro D dT H0 p l e R s m args below meth c H locs cells slots ls st' sb ws ads0 kc' ks' g
  obtain ⟨hF, hW, hL, ⟨_, _, rfl, rfl, _, _, rfl, rfl, hS⟩, hr⟩ := g
  exact lv_ishl hF.1 hF.2.1 hd (k D dT H0 p l e R s m args below meth c H locs cells slots ls _ sb ws ads0 kc' ks' ⟨hF, hW, hL, ⟨_, _, rfl, rfl, hS⟩, hr⟩)
theorem q_ishr {x y : Int32} (hd : decode (q_cc M) pc = .ok (.ishr, 1)) (k : q_A Sc M (pc + 1) L (.int (x >>> (y &&& 31)) :: st) h n kc ks Q) : q_A Sc M pc L (.int y :: .int x :: st) h n kc ks Q := by
  intro D dT H0 p l e R s m args below meth c H locs cells slots ls st' sb ws ads0 kc' ks' g
  obtain ⟨hF, hW, hL, ⟨_, _, rfl, rfl, _, _, rfl, rfl, hS⟩, hr⟩ := g
  exact lv_ishr hF.1 hF.2.1 hd (k D dT H0 p l e R s m args below meth c H locs cells slots ls _ sb ws ads0 kc' ks' ⟨hF, hW, hL, ⟨_, _, rfl, rfl, hS⟩, hr⟩)
theorem q_idiv {x y : Int32} (hd : decode (q_cc M) pc = .ok (.idiv, 1)) (hy : ¬ y = 0) (k : q_A Sc M (pc + 1) L (.int (x / y) :: st) h n kc ks Q) : q_A Sc M pc L (.int y :: .int x :: st) h n kc ks Q := by
  intro D dT H0 p l e R s m args below meth c H locs cells slots ls st' sb ws ads0 kc' ks' g
  obtain ⟨hF, hW, hL, ⟨_, _, rfl, rfl, _, _, rfl, rfl, hS⟩, hr⟩ := g
  exact lv_idiv hF.1 hF.2.1 hd hy (k D dT H0 p l e R s m args below meth c H locs cells slots ls _ sb ws ads0 kc' ks' ⟨hF, hW, hL, ⟨_, _, rfl, rfl, hS⟩, hr⟩)
theorem q_irem {x y : Int32} (hd : decode (q_cc M) pc = .ok (.irem, 1)) (hy : ¬ y = 0) (k : q_A Sc M (pc + 1) L (.int (x - x / y * y) :: st) h n kc ks Q) : q_A Sc M pc L (.int y :: .int x :: st) h n kc ks Q := by
  intro D dT H0 p l e R s m args below meth c H locs cells slots ls st' sb ws ads0 kc' ks' g
  obtain ⟨hF, hW, hL, ⟨_, _, rfl, rfl, _, _, rfl, rfl, hS⟩, hr⟩ := g
  exact lv_irem hF.1 hF.2.1 hd hy (k D dT H0 p l e R s m args below meth c H locs cells slots ls _ sb ws ads0 kc' ks' ⟨hF, hW, hL, ⟨_, _, rfl, rfl, hS⟩, hr⟩)
theorem q_ineg {x : Int32} (hd : decode (q_cc M) pc = .ok (.ineg, 1)) (k : q_A Sc M (pc + 1) L (.int (-x) :: st) h n kc ks Q) : q_A Sc M pc L (.int x :: st) h n kc ks Q := by
  intro D dT H0 p l e R s m args below meth c H locs cells slots ls st' sb ws ads0 kc' ks' g
  obtain ⟨hF, hW, hL, ⟨_, _, rfl, rfl, hS⟩, hr⟩ := g
  exact lv_ineg hF.1 hF.2.1 hd (k D dT H0 p l e R s m args below meth c H locs cells slots ls _ sb ws ads0 kc' ks' ⟨hF, hW, hL, ⟨_, _, rfl, rfl, hS⟩, hr⟩)
theorem q_iconst {z : Int} {v : Int32} (hd : decode (q_cc M) pc = .ok (.iconst z, 1)) (hv : Int32.ofInt z = v) (k : q_A Sc M (pc + 1) L (.int v :: st) h n kc ks Q) : q_A Sc M pc L (st) h n kc ks Q := by
  intro D dT H0 p l e R s m args below meth c H locs cells slots ls st' sb ws ads0 kc' ks' g
  obtain ⟨hF, hW, hL, hS, hr⟩ := g
  exact lv_iconst hF.1 hF.2.1 hd hv (k D dT H0 p l e R s m args below meth c H locs cells slots ls _ sb ws ads0 kc' ks' ⟨hF, hW, hL, ⟨_, _, rfl, rfl, hS⟩, hr⟩)
theorem q_bipush {z : Int} {v : Int32} (hd : decode (q_cc M) pc = .ok (.bipush z, 2)) (hv : (Int8.ofInt z).toInt32 = v) (k : q_A Sc M (pc + 2) L (.int v :: st) h n kc ks Q) : q_A Sc M pc L (st) h n kc ks Q := by
  intro D dT H0 p l e R s m args below meth c H locs cells slots ls st' sb ws ads0 kc' ks' g
  obtain ⟨hF, hW, hL, hS, hr⟩ := g
  exact lv_bipush hF.1 hF.2.1 hd hv (k D dT H0 p l e R s m args below meth c H locs cells slots ls _ sb ws ads0 kc' ks' ⟨hF, hW, hL, ⟨_, _, rfl, rfl, hS⟩, hr⟩)
theorem q_sipush {z : Int} {v : Int32} (hd : decode (q_cc M) pc = .ok (.sipush z, 3)) (hv : (Int16.ofInt z).toInt32 = v) (k : q_A Sc M (pc + 3) L (.int v :: st) h n kc ks Q) : q_A Sc M pc L (st) h n kc ks Q := by
  intro D dT H0 p l e R s m args below meth c H locs cells slots ls st' sb ws ads0 kc' ks' g
  obtain ⟨hF, hW, hL, hS, hr⟩ := g
  exact lv_sipush hF.1 hF.2.1 hd hv (k D dT H0 p l e R s m args below meth c H locs cells slots ls _ sb ws ads0 kc' ks' ⟨hF, hW, hL, ⟨_, _, rfl, rfl, hS⟩, hr⟩)
theorem q_ldc {ix : Nat} {v : Int32} (hd : decode (q_cc M) pc = .ok (.ldc ix, 2)) (hw : q_in (Cond.constant (q_own M) ix v)) (k : q_A Sc M (pc + 2) L (.int v :: st) h n kc ks Q) : q_A Sc M pc L (st) h n kc ks Q := by
  intro D dT H0 p l e R s m args below meth c H locs cells slots ls st' sb ws ads0 kc' ks' g
  obtain ⟨hF, hW, hL, hS, hr⟩ := g
  exact lv_ldc hF.1 hF.2.1 hF.2.2.2.2.2.1 (hF.2.2.2.2.2.2.1.at hw args) hd (k D dT H0 p l e R s m args below meth c H locs cells slots ls _ sb ws ads0 kc' ks' ⟨hF, hW, hL, ⟨_, _, rfl, rfl, hS⟩, hr⟩)
theorem q_iload_n {j : Fin 4} {x : Int32} (hd : decode (q_cc M) pc = .ok (.iload_n j, 1)) (hl : L[(j : Nat)]? = some (.int x)) (k : q_A Sc M (pc + 1) L (.int x :: st) h n kc ks Q) : q_A Sc M pc L (st) h n kc ks Q := by
  intro D dT H0 p l e R s m args below meth c H locs cells slots ls st' sb ws ads0 kc' ks' g
  obtain ⟨hF, hW, hL, hS, hr⟩ := g
  exact lv_iload_n hF.1 hF.2.1 hd rfl (hL.int hl) (k D dT H0 p l e R s m args below meth c H locs cells slots ls _ sb ws ads0 kc' ks' ⟨hF, hW, hL, ⟨_, _, rfl, rfl, hS⟩, hr⟩)
theorem q_iload {j : Nat} {x : Int32} (hd : decode (q_cc M) pc = .ok (.iload j, 2)) (hl : L[j]? = some (.int x)) (k : q_A Sc M (pc + 2) L (.int x :: st) h n kc ks Q) : q_A Sc M pc L (st) h n kc ks Q := by
  intro D dT H0 p l e R s m args below meth c H locs cells slots ls st' sb ws ads0 kc' ks' g
  obtain ⟨hF, hW, hL, hS, hr⟩ := g
  exact lv_iload hF.1 hF.2.1 hd (hL.int hl) (k D dT H0 p l e R s m args below meth c H locs cells slots ls _ sb ws ads0 kc' ks' ⟨hF, hW, hL, ⟨_, _, rfl, rfl, hS⟩, hr⟩)
theorem q_aload_n {j : Fin 4} {i : Nat} (hd : decode (q_cc M) pc = .ok (.aload_n j, 1)) (hl : L[(j : Nat)]? = some (.ref i)) (k : q_A Sc M (pc + 1) L (.ref i :: st) h n kc ks Q) : q_A Sc M pc L st h n kc ks Q := by
  intro D dT H0 p l e R s m args below meth c H locs cells slots ls st' sb ws ads0 kc' ks' g
  obtain ⟨hF, hW, hL, hS, hr⟩ := g
  obtain ⟨a, h1, h2⟩ := hL.ref hl
  exact lv_aload_n hF.1 hF.2.1 hd rfl h2 (k D dT H0 p l e R s m args below meth c H locs cells slots ls _ sb ws ads0 kc' ks' ⟨hF, hW, hL, ⟨_, _, rfl, ⟨a, h1, rfl⟩, hS⟩, hr⟩)
theorem q_aload {j : Nat} {i : Nat} (hd : decode (q_cc M) pc = .ok (.aload j, 2)) (hl : L[j]? = some (.ref i)) (k : q_A Sc M (pc + 2) L (.ref i :: st) h n kc ks Q) : q_A Sc M pc L st h n kc ks Q := by
  intro D dT H0 p l e R s m args below meth c H locs cells slots ls st' sb ws ads0 kc' ks' g
  obtain ⟨hF, hW, hL, hS, hr⟩ := g
  obtain ⟨a, h1, h2⟩ := hL.ref hl
  exact lv_aload hF.1 hF.2.1 hd h2 (k D dT H0 p l e R s m args below meth c H locs cells slots ls _ sb ws ads0 kc' ks' ⟨hF, hW, hL, ⟨_, _, rfl, ⟨a, h1, rfl⟩, hS⟩, hr⟩)
theorem q_istore_n {j : Fin 4} {x : Int32} (hd : decode (q_cc M) pc = .ok (.istore_n j, 1)) (hn : (j : Nat) < q_nL M) (k : q_A Sc M (pc + 1) (L.set (j : Nat) (.int x)) st h n kc ks Q) : q_A Sc M pc L (.int x :: st) h n kc ks Q := by
  intro D dT H0 p l e R s m args below meth c H locs cells slots ls st' sb ws ads0 kc' ks' g
  obtain ⟨hF, hW, hL, ⟨_, _, rfl, rfl, hS⟩, hr⟩ := g
  exact lv_istore_n hF.1 hF.2.1 hd rfl (q_all_has hL.1 hL.2.1) hn rfl (fun ls' h' => k D dT H0 p l e R s m args below meth c H locs cells slots ls' _ sb ws ads0 kc' ks' ⟨hF, hW, hL.put (v := .int _) rfl rfl h', hS, hr⟩)
theorem q_istore {j : Nat} {x : Int32} (hd : decode (q_cc M) pc = .ok (.istore j, 2)) (hn : j < q_nL M) (k : q_A Sc M (pc + 2) (L.set j (.int x)) st h n kc ks Q) : q_A Sc M pc L (.int x :: st) h n kc ks Q := by
  intro D dT H0 p l e R s m args below meth c H locs cells slots ls st' sb ws ads0 kc' ks' g
  obtain ⟨hF, hW, hL, ⟨_, _, rfl, rfl, hS⟩, hr⟩ := g
  exact lv_istore hF.1 hF.2.1 hd (q_all_has hL.1 hL.2.1) hn rfl (fun ls' h' => k D dT H0 p l e R s m args below meth c H locs cells slots ls' _ sb ws ads0 kc' ks' ⟨hF, hW, hL.put (v := .int _) rfl rfl h', hS, hr⟩)
theorem q_astore_n {j : Fin 4} {i : Nat} (hd : decode (q_cc M) pc = .ok (.astore_n j, 1)) (hn : (j : Nat) < q_nL M) (k : q_A Sc M (pc + 1) (L.set (j : Nat) (.ref i)) st h n kc ks Q) : q_A Sc M pc L (.ref i :: st) h n kc ks Q := by
  intro D dT H0 p l e R s m args below meth c H locs cells slots ls st' sb ws ads0 kc' ks' g
  obtain ⟨hF, hW, hL, ⟨_, _, rfl, ⟨a, h1, rfl⟩, hS⟩, hr⟩ := g
  exact lv_astore_n hF.1 hF.2.1 hd rfl (q_all_has hL.1 hL.2.1) hn rfl (fun ls' h' => k D dT H0 p l e R s m args below meth c H locs cells slots ls' _ sb ws ads0 kc' ks' ⟨hF, hW, hL.put (v := .ref i) ⟨a, h1, rfl⟩ rfl h', hS, hr⟩)
theorem q_astore_n_x {j : Fin 4} {b : UInt32} (hd : decode (q_cc M) pc = .ok (.astore_n j, 1)) (hn : (j : Nat) < q_nL M) (k : q_A Sc M (pc + 1) (L.set (j : Nat) (.float b)) st h n kc ks Q) : q_A Sc M pc L (.float b :: st) h n kc ks Q := by
  intro D dT H0 p l e R s m args below meth c H locs cells slots ls st' sb ws ads0 kc' ks' g
  obtain ⟨hF, hW, hL, ⟨_, _, rfl, ⟨a, rfl, hx9⟩, hS⟩, hr⟩ := g
  exact lv_astore_n hF.1 hF.2.1 hd rfl (q_all_has hL.1 hL.2.1) hn rfl (fun ls' h' => k D dT H0 p l e R s m args below meth c H locs cells slots ls' _ sb ws ads0 kc' ks' ⟨hF, hW, hL.put (v := .float b) ⟨a, rfl, hx9⟩ rfl h', hS, hr⟩)
theorem q_astore {j : Nat} {i : Nat} (hd : decode (q_cc M) pc = .ok (.astore j, 2)) (hn : j < q_nL M) (k : q_A Sc M (pc + 2) (L.set j (.ref i)) st h n kc ks Q) : q_A Sc M pc L (.ref i :: st) h n kc ks Q := by
  intro D dT H0 p l e R s m args below meth c H locs cells slots ls st' sb ws ads0 kc' ks' g
  obtain ⟨hF, hW, hL, ⟨_, _, rfl, ⟨a, h1, rfl⟩, hS⟩, hr⟩ := g
  exact lv_astore hF.1 hF.2.1 hd (q_all_has hL.1 hL.2.1) hn rfl (fun ls' h' => k D dT H0 p l e R s m args below meth c H locs cells slots ls' _ sb ws ads0 kc' ks' ⟨hF, hW, hL.put (v := .ref i) ⟨a, h1, rfl⟩ rfl h', hS, hr⟩)
theorem q_astore_x {j : Nat} {b : UInt32} (hd : decode (q_cc M) pc = .ok (.astore j, 2)) (hn : j < q_nL M) (k : q_A Sc M (pc + 2) (L.set j (.float b)) st h n kc ks Q) : q_A Sc M pc L (.float b :: st) h n kc ks Q := by
  intro D dT H0 p l e R s m args below meth c H locs cells slots ls st' sb ws ads0 kc' ks' g
  obtain ⟨hF, hW, hL, ⟨_, _, rfl, ⟨a, rfl, hx9⟩, hS⟩, hr⟩ := g
  exact lv_astore hF.1 hF.2.1 hd (q_all_has hL.1 hL.2.1) hn rfl (fun ls' h' => k D dT H0 p l e R s m args below meth c H locs cells slots ls' _ sb ws ads0 kc' ks' ⟨hF, hW, hL.put (v := .float b) ⟨a, rfl, hx9⟩ rfl h', hS, hr⟩)
theorem q_iinc {j : Nat} {z : Int} {x : Int32} (hd : decode (q_cc M) pc = .ok (.iinc j z, 3)) (hl : L[j]? = some (.int x)) (hn : j < q_nL M) (k : q_A Sc M (pc + 3) (L.set j (.int (x + Int32.ofInt z))) st h n kc ks Q) : q_A Sc M pc L st h n kc ks Q := by
  intro D dT H0 p l e R s m args below meth c H locs cells slots ls st' sb ws ads0 kc' ks' g
  obtain ⟨hF, hW, hL, hS, hr⟩ := g
  obtain ⟨kk, hk⟩ := List.getElem?_of_mem (q_all_mem (hL.int hl))
  exact lv_iinc hF.1 hF.2.1 hd (q_all_has hL.1 hL.2.1) hk rfl hn rfl (fun ls' h' => k D dT H0 p l e R s m args below meth c H locs cells slots ls' _ sb ws ads0 kc' ks' ⟨hF, hW, hL.put (v := .int _) rfl rfl h', hS, hr⟩)
theorem q_dup {v : Value} (hd : decode (q_cc M) pc = .ok (.dup, 1)) (hv : v.category = 1) (k : q_A Sc M (pc + 1) L (v :: v :: st) h n kc ks Q) : q_A Sc M pc L (v :: st) h n kc ks Q := by
  intro D dT H0 p l e R s m args below meth c H locs cells slots ls st' sb ws ads0 kc' ks' g
  obtain ⟨hF, hW, hL, ⟨u, _, rfl, hu, hS⟩, hr⟩ := g
  exact lv_dup hF.1 hF.2.1 hd (hu.cat.trans hv) (k D dT H0 p l e R s m args below meth c H locs cells slots ls _ sb ws ads0 kc' ks' ⟨hF, hW, hL, ⟨_, _, rfl, hu, _, _, rfl, hu, hS⟩, hr⟩)
theorem q_dup2 {v v2 : Value} (hd : decode (q_cc M) pc = .ok (.dup2, 1)) (hv : v.category = 1) (hv2 : v2.category = 1) (k : q_A Sc M (pc + 1) L (v :: v2 :: v :: v2 :: st) h n kc ks Q) : q_A Sc M pc L (v :: v2 :: st) h n kc ks Q := by
  intro D dT H0 p l e R s m args below meth c H locs cells slots ls st' sb ws ads0 kc' ks' g
  obtain ⟨hF, hW, hL, ⟨u, _, rfl, hu, u2, _, rfl, hu2, hS⟩, hr⟩ := g
  exact lv_dup2_11 hF.1 hF.2.1 hd (hu.cat.trans hv) (hu2.cat.trans hv2) (k D dT H0 p l e R s m args below meth c H locs cells slots ls _ sb ws ads0 kc' ks' ⟨hF, hW, hL, ⟨_, _, rfl, hu, _, _, rfl, hu2, _, _, rfl, hu, _, _, rfl, hu2, hS⟩, hr⟩)
theorem q_dup_x1 {v v2 : Value} (hd : decode (q_cc M) pc = .ok (.dup_x1, 1)) (hv : v.category = 1) (hv2 : v2.category = 1) (k : q_A Sc M (pc + 1) L (v :: v2 :: v :: st) h n kc ks Q) : q_A Sc M pc L (v :: v2 :: st) h n kc ks Q := by
  intro D dT H0 p l e R s m args below meth c H locs cells slots ls st' sb ws ads0 kc' ks' g
  obtain ⟨hF, hW, hL, ⟨u, _, rfl, hu, u2, _, rfl, hu2, hS⟩, hr⟩ := g
  exact lv_dup_x1 hF.1 hF.2.1 hd (hu.cat.trans hv) (hu2.cat.trans hv2) (k D dT H0 p l e R s m args below meth c H locs cells slots ls _ sb ws ads0 kc' ks' ⟨hF, hW, hL, ⟨_, _, rfl, hu, _, _, rfl, hu2, _, _, rfl, hu, hS⟩, hr⟩)
theorem q_pop {v : Value} (hd : decode (q_cc M) pc = .ok (.pop, 1)) (hv : v.category = 1) (k : q_A Sc M (pc + 1) L st h n kc ks Q) : q_A Sc M pc L (v :: st) h n kc ks Q := by
  intro D dT H0 p l e R s m args below meth c H locs cells slots ls st' sb ws ads0 kc' ks' g
  obtain ⟨hF, hW, hL, ⟨u, _, rfl, hu, hS⟩, hr⟩ := g
  exact lv_pop hF.1 hF.2.1 hd (hu.cat.trans hv) (k D dT H0 p l e R s m args below meth c H locs cells slots ls _ sb ws ads0 kc' ks' ⟨hF, hW, hL, hS, hr⟩)
theorem q_goto {off : Int} {tgt : Nat} (hd : decode (q_cc M) pc = .ok (.goto off, 3)) (ht : (pc : Int) + off = (tgt : Int)) (k : q_A Sc M tgt L st h n kc ks Q) : q_A Sc M pc L st h n kc ks Q := by
  intro D dT H0 p l e R s m args below meth c H locs cells slots ls st' sb ws ads0 kc' ks' g
  exact lv_goto g.1.1 g.1.2.1 hd ht (k D dT H0 p l e R s m args below meth c H locs cells slots ls _ sb ws ads0 kc' ks' g)
theorem q_if_eq {x : Int32} {off : Int} {tgt : Nat} (hd : decode (q_cc M) pc = .ok (.ifCond .eq off, 3)) (ht : (pc : Int) + off = (tgt : Int)) (kt : x = 0 → q_A Sc M tgt L st h n kc ks Q) (kf : ¬ (x = 0) → q_A Sc M (pc + 3) L st h n kc ks Q) : q_A Sc M pc L (.int x :: st) h n kc ks Q := by
  intro D dT H0 p l e R s m args below meth c H locs cells slots ls st' sb ws ads0 kc' ks' g
  obtain ⟨hF, hW, hL, ⟨_, _, rfl, rfl, hS⟩, hr⟩ := g
  exact lv_if_eq hF.1 hF.2.1 hd ht (fun q => (kt q) D dT H0 p l e R s m args below meth c H locs cells slots ls _ sb ws ads0 kc' ks' ⟨hF, hW, hL, hS, hr⟩) (fun q => (kf q) D dT H0 p l e R s m args below meth c H locs cells slots ls _ sb ws ads0 kc' ks' ⟨hF, hW, hL, hS, hr⟩)
theorem q_icmp_eq {x y : Int32} {off : Int} {tgt : Nat} (hd : decode (q_cc M) pc = .ok (.if_icmp .eq off, 3)) (ht : (pc : Int) + off = (tgt : Int)) (kt : x = y → q_A Sc M tgt L st h n kc ks Q) (kf : ¬ (x = y) → q_A Sc M (pc + 3) L st h n kc ks Q) : q_A Sc M pc L (.int y :: .int x :: st) h n kc ks Q := by
  intro D dT H0 p l e R s m args below meth c H locs cells slots ls st' sb ws ads0 kc' ks' g
  obtain ⟨hF, hW, hL, ⟨_, _, rfl, rfl, _, _, rfl, rfl, hS⟩, hr⟩ := g
  exact lv_icmp_eq hF.1 hF.2.1 hd ht (fun q => (kt q) D dT H0 p l e R s m args below meth c H locs cells slots ls _ sb ws ads0 kc' ks' ⟨hF, hW, hL, hS, hr⟩) (fun q => (kf q) D dT H0 p l e R s m args below meth c H locs cells slots ls _ sb ws ads0 kc' ks' ⟨hF, hW, hL, hS, hr⟩)
theorem q_if_ne {x : Int32} {off : Int} {tgt : Nat} (hd : decode (q_cc M) pc = .ok (.ifCond .ne off, 3)) (ht : (pc : Int) + off = (tgt : Int)) (kt : ¬ x = 0 → q_A Sc M tgt L st h n kc ks Q) (kf : x = 0 → q_A Sc M (pc + 3) L st h n kc ks Q) : q_A Sc M pc L (.int x :: st) h n kc ks Q := by
  intro D dT H0 p l e R s m args below meth c H locs cells slots ls st' sb ws ads0 kc' ks' g
  obtain ⟨hF, hW, hL, ⟨_, _, rfl, rfl, hS⟩, hr⟩ := g
  exact lv_if_ne hF.1 hF.2.1 hd ht (fun q => (kt q) D dT H0 p l e R s m args below meth c H locs cells slots ls _ sb ws ads0 kc' ks' ⟨hF, hW, hL, hS, hr⟩) (fun q => (kf q) D dT H0 p l e R s m args below meth c H locs cells slots ls _ sb ws ads0 kc' ks' ⟨hF, hW, hL, hS, hr⟩)
theorem q_icmp_ne {x y : Int32} {off : Int} {tgt : Nat} (hd : decode (q_cc M) pc = .ok (.if_icmp .ne off, 3)) (ht : (pc : Int) + off = (tgt : Int)) (kt : ¬ x = y → q_A Sc M tgt L st h n kc ks Q) (kf : x = y → q_A Sc M (pc + 3) L st h n kc ks Q) : q_A Sc M pc L (.int y :: .int x :: st) h n kc ks Q := by
  intro D dT H0 p l e R s m args below meth c H locs cells slots ls st' sb ws ads0 kc' ks' g
  obtain ⟨hF, hW, hL, ⟨_, _, rfl, rfl, _, _, rfl, rfl, hS⟩, hr⟩ := g
  exact lv_icmp_ne hF.1 hF.2.1 hd ht (fun q => (kt q) D dT H0 p l e R s m args below meth c H locs cells slots ls _ sb ws ads0 kc' ks' ⟨hF, hW, hL, hS, hr⟩) (fun q => (kf q) D dT H0 p l e R s m args below meth c H locs cells slots ls _ sb ws ads0 kc' ks' ⟨hF, hW, hL, hS, hr⟩)
theorem q_if_lt {x : Int32} {off : Int} {tgt : Nat} (hd : decode (q_cc M) pc = .ok (.ifCond .lt off, 3)) (ht : (pc : Int) + off = (tgt : Int)) (kt : x < 0 → q_A Sc M tgt L st h n kc ks Q) (kf : ¬ (x < 0) → q_A Sc M (pc + 3) L st h n kc ks Q) : q_A Sc M pc L (.int x :: st) h n kc ks Q := by
  intro D dT H0 p l e R s m args below meth c H locs cells slots ls st' sb ws ads0 kc' ks' g
  obtain ⟨hF, hW, hL, ⟨_, _, rfl, rfl, hS⟩, hr⟩ := g
  exact lv_if_lt hF.1 hF.2.1 hd ht (fun q => (kt q) D dT H0 p l e R s m args below meth c H locs cells slots ls _ sb ws ads0 kc' ks' ⟨hF, hW, hL, hS, hr⟩) (fun q => (kf q) D dT H0 p l e R s m args below meth c H locs cells slots ls _ sb ws ads0 kc' ks' ⟨hF, hW, hL, hS, hr⟩)
theorem q_icmp_lt {x y : Int32} {off : Int} {tgt : Nat} (hd : decode (q_cc M) pc = .ok (.if_icmp .lt off, 3)) (ht : (pc : Int) + off = (tgt : Int)) (kt : x < y → q_A Sc M tgt L st h n kc ks Q) (kf : ¬ (x < y) → q_A Sc M (pc + 3) L st h n kc ks Q) : q_A Sc M pc L (.int y :: .int x :: st) h n kc ks Q := by
  intro D dT H0 p l e R s m args below meth c H locs cells slots ls st' sb ws ads0 kc' ks' g
  obtain ⟨hF, hW, hL, ⟨_, _, rfl, rfl, _, _, rfl, rfl, hS⟩, hr⟩ := g
  exact lv_icmp_lt hF.1 hF.2.1 hd ht (fun q => (kt q) D dT H0 p l e R s m args below meth c H locs cells slots ls _ sb ws ads0 kc' ks' ⟨hF, hW, hL, hS, hr⟩) (fun q => (kf q) D dT H0 p l e R s m args below meth c H locs cells slots ls _ sb ws ads0 kc' ks' ⟨hF, hW, hL, hS, hr⟩)
theorem q_if_ge {x : Int32} {off : Int} {tgt : Nat} (hd : decode (q_cc M) pc = .ok (.ifCond .ge off, 3)) (ht : (pc : Int) + off = (tgt : Int)) (kt : 0 ≤ x → q_A Sc M tgt L st h n kc ks Q) (kf : ¬ (0 ≤ x) → q_A Sc M (pc + 3) L st h n kc ks Q) : q_A Sc M pc L (.int x :: st) h n kc ks Q := by
  intro D dT H0 p l e R s m args below meth c H locs cells slots ls st' sb ws ads0 kc' ks' g
  obtain ⟨hF, hW, hL, ⟨_, _, rfl, rfl, hS⟩, hr⟩ := g
  exact lv_if_ge hF.1 hF.2.1 hd ht (fun q => (kt q) D dT H0 p l e R s m args below meth c H locs cells slots ls _ sb ws ads0 kc' ks' ⟨hF, hW, hL, hS, hr⟩) (fun q => (kf q) D dT H0 p l e R s m args below meth c H locs cells slots ls _ sb ws ads0 kc' ks' ⟨hF, hW, hL, hS, hr⟩)
theorem q_icmp_ge {x y : Int32} {off : Int} {tgt : Nat} (hd : decode (q_cc M) pc = .ok (.if_icmp .ge off, 3)) (ht : (pc : Int) + off = (tgt : Int)) (kt : y ≤ x → q_A Sc M tgt L st h n kc ks Q) (kf : ¬ (y ≤ x) → q_A Sc M (pc + 3) L st h n kc ks Q) : q_A Sc M pc L (.int y :: .int x :: st) h n kc ks Q := by
  intro D dT H0 p l e R s m args below meth c H locs cells slots ls st' sb ws ads0 kc' ks' g
  obtain ⟨hF, hW, hL, ⟨_, _, rfl, rfl, _, _, rfl, rfl, hS⟩, hr⟩ := g
  exact lv_icmp_ge hF.1 hF.2.1 hd ht (fun q => (kt q) D dT H0 p l e R s m args below meth c H locs cells slots ls _ sb ws ads0 kc' ks' ⟨hF, hW, hL, hS, hr⟩) (fun q => (kf q) D dT H0 p l e R s m args below meth c H locs cells slots ls _ sb ws ads0 kc' ks' ⟨hF, hW, hL, hS, hr⟩)
theorem q_if_gt {x : Int32} {off : Int} {tgt : Nat} (hd : decode (q_cc M) pc = .ok (.ifCond .gt off, 3)) (ht : (pc : Int) + off = (tgt : Int)) (kt : 0 < x → q_A Sc M tgt L st h n kc ks Q) (kf : ¬ (0 < x) → q_A Sc M (pc + 3) L st h n kc ks Q) : q_A Sc M pc L (.int x :: st) h n kc ks Q := by
  intro D dT H0 p l e R s m args below meth c H locs cells slots ls st' sb ws ads0 kc' ks' g
  obtain ⟨hF, hW, hL, ⟨_, _, rfl, rfl, hS⟩, hr⟩ := g
  exact lv_if_gt hF.1 hF.2.1 hd ht (fun q => (kt q) D dT H0 p l e R s m args below meth c H locs cells slots ls _ sb ws ads0 kc' ks' ⟨hF, hW, hL, hS, hr⟩) (fun q => (kf q) D dT H0 p l e R s m args below meth c H locs cells slots ls _ sb ws ads0 kc' ks' ⟨hF, hW, hL, hS, hr⟩)
theorem q_icmp_gt {x y : Int32} {off : Int} {tgt : Nat} (hd : decode (q_cc M) pc = .ok (.if_icmp .gt off, 3)) (ht : (pc : Int) + off = (tgt : Int)) (kt : y < x → q_A Sc M tgt L st h n kc ks Q) (kf : ¬ (y < x) → q_A Sc M (pc + 3) L st h n kc ks Q) : q_A Sc M pc L (.int y :: .int x :: st) h n kc ks Q := by
  intro D dT H0 p l e R s m args below meth c H locs cells slots ls st' sb ws ads0 kc' ks' g
  obtain ⟨hF, hW, hL, ⟨_, _, rfl, rfl, _, _, rfl, rfl, hS⟩, hr⟩ := g
  exact lv_icmp_gt hF.1 hF.2.1 hd ht (fun q => (kt q) D dT H0 p l e R s m args below meth c H locs cells slots ls _ sb ws ads0 kc' ks' ⟨hF, hW, hL, hS, hr⟩) (fun q => (kf q) D dT H0 p l e R s m args below meth c H locs cells slots ls _ sb ws ads0 kc' ks' ⟨hF, hW, hL, hS, hr⟩)
theorem q_if_le {x : Int32} {off : Int} {tgt : Nat} (hd : decode (q_cc M) pc = .ok (.ifCond .le off, 3)) (ht : (pc : Int) + off = (tgt : Int)) (kt : x ≤ 0 → q_A Sc M tgt L st h n kc ks Q) (kf : ¬ (x ≤ 0) → q_A Sc M (pc + 3) L st h n kc ks Q) : q_A Sc M pc L (.int x :: st) h n kc ks Q := by
  intro D dT H0 p l e R s m args below meth c H locs cells slots ls st' sb ws ads0 kc' ks' g
  obtain ⟨hF, hW, hL, ⟨_, _, rfl, rfl, hS⟩, hr⟩ := g
  exact lv_if_le hF.1 hF.2.1 hd ht (fun q => (kt q) D dT H0 p l e R s m args below meth c H locs cells slots ls _ sb ws ads0 kc' ks' ⟨hF, hW, hL, hS, hr⟩) (fun q => (kf q) D dT H0 p l e R s m args below meth c H locs cells slots ls _ sb ws ads0 kc' ks' ⟨hF, hW, hL, hS, hr⟩)
theorem q_icmp_le {x y : Int32} {off : Int} {tgt : Nat} (hd : decode (q_cc M) pc = .ok (.if_icmp .le off, 3)) (ht : (pc : Int) + off = (tgt : Int)) (kt : x ≤ y → q_A Sc M tgt L st h n kc ks Q) (kf : ¬ (x ≤ y) → q_A Sc M (pc + 3) L st h n kc ks Q) : q_A Sc M pc L (.int y :: .int x :: st) h n kc ks Q := by
  intro D dT H0 p l e R s m args below meth c H locs cells slots ls st' sb ws ads0 kc' ks' g
  obtain ⟨hF, hW, hL, ⟨_, _, rfl, rfl, _, _, rfl, rfl, hS⟩, hr⟩ := g
  exact lv_icmp_le hF.1 hF.2.1 hd ht (fun q => (kt q) D dT H0 p l e R s m args below meth c H locs cells slots ls _ sb ws ads0 kc' ks' ⟨hF, hW, hL, hS, hr⟩) (fun q => (kf q) D dT H0 p l e R s m args below meth c H locs cells slots ls _ sb ws ads0 kc' ks' ⟨hF, hW, hL, hS, hr⟩)
theorem q_lookup {dflt : Int} {ps : Array (Int × Int)} {len : Nat} {x : Int32} {off : Int} {tgt : Nat} (hd : decode (q_cc M) pc = .ok (.lookupswitch dflt ps, len)) (hp : (ps.toList.zip (ps.toList.drop 1)).all (fun (a, next) => a.1 < next.1) = true) (ho : Op.lookupswitch.offset ps.toList dflt x.toInt = off) (ht : (pc : Int) + off = (tgt : Int)) (k : q_A Sc M tgt L st h n kc ks Q) : q_A Sc M pc L (.int x :: st) h n kc ks Q := by
  intro D dT H0 p l e R s m args below meth c H locs cells slots ls st' sb ws ads0 kc' ks' g
  obtain ⟨hF, hW, hL, ⟨_, _, rfl, rfl, hS⟩, hr⟩ := g
  exact lv_lookup hF.1 hF.2.1 hd hp ho ht (k D dT H0 p l e R s m args below meth c H locs cells slots ls _ sb ws ads0 kc' ks' ⟨hF, hW, hL, hS, hr⟩)
theorem q_tableOut {dflt lo hi : Int} {offs : Array Int} {len : Nat} {x : Int32} {tgt : Nat} (hd : decode (q_cc M) pc = .ok (.tableswitch dflt lo hi offs, len)) (hx : x.toInt < lo ∨ hi < x.toInt) (ht : (pc : Int) + dflt = (tgt : Int)) (k : q_A Sc M tgt L st h n kc ks Q) : q_A Sc M pc L (.int x :: st) h n kc ks Q := by
  intro D dT H0 p l e R s m args below meth c H locs cells slots ls st' sb ws ads0 kc' ks' g
  obtain ⟨hF, hW, hL, ⟨_, _, rfl, rfl, hS⟩, hr⟩ := g
  exact lv_tableOut hF.1 hF.2.1 hd hx ht (k D dT H0 p l e R s m args below meth c H locs cells slots ls _ sb ws ads0 kc' ks' ⟨hF, hW, hL, hS, hr⟩)
theorem q_tableIn {dflt lo hi : Int} {offs : Array Int} {len : Nat} {x : Int32} {off : Int} {tgt : Nat} (hd : decode (q_cc M) pc = .ok (.tableswitch dflt lo hi offs, len)) (h1 : ¬ x.toInt < lo) (h2 : ¬ hi < x.toInt) (ho : offs[(x.toInt - lo).toNat]? = some off) (ht : (pc : Int) + off = (tgt : Int)) (k : q_A Sc M tgt L st h n kc ks Q) : q_A Sc M pc L (.int x :: st) h n kc ks Q := by
  intro D dT H0 p l e R s m args below meth c H locs cells slots ls st' sb ws ads0 kc' ks' g
  obtain ⟨hF, hW, hL, ⟨_, _, rfl, rfl, hS⟩, hr⟩ := g
  exact lv_tableIn hF.1 hF.2.1 hd h1 h2 ho ht (k D dT H0 p l e R s m args below meth c H locs cells slots ls _ sb ws ads0 kc' ks' ⟨hF, hW, hL, hS, hr⟩)
theorem q_i2l {x : Int32} (hd : decode (q_cc M) pc = .ok (.i2l, 1)) (k : q_A Sc M (pc + 1) L (.long x.toInt64 :: st) h n kc ks Q) : q_A Sc M pc L (.int x :: st) h n kc ks Q := by
  intro D dT H0 p l e R s m args below meth c H locs cells slots ls st' sb ws ads0 kc' ks' g
  obtain ⟨hF, hW, hL, ⟨_, _, rfl, rfl, hS⟩, hr⟩ := g
  exact lv_i2l hF.1 hF.2.1 hd rfl (k D dT H0 p l e R s m args below meth c H locs cells slots ls _ sb ws ads0 kc' ks' ⟨hF, hW, hL, ⟨_, _, rfl, rfl, hS⟩, hr⟩)
end QR
end
section
/-- a class of the worlds: its number, its name, its fields, their types -/
def q_cls (ci : Nat) (C : String) (T : u_T) (N : Nat) (ty : Nat → FieldType) : Prop := vwCl[ci]? = some (C, T, N) ∧ (∀ w ∈ u_ws C T N, q_in w) ∧ (∀ k, k < N → parseFieldDescriptor (T k).2.2.1 = some (ty k)) ∧ ∀ a, a < N → ∀ b, b < N → a ≠ b → (T a).2.1 ≠ (T b).2.1
theorem q_cls.hts {ci : Nat} {C : String} {T : u_T} {N : Nat} {ty : Nat → FieldType} (hC : q_cls ci C T N ty) {s : State} (h : q_T s) (args : Array Value) : ∀ w ∈ u_ws C T N, w.before args s = true := fun w hw => h.at (hC.2.1 w hw) args
theorem q_W.look {D : va_G} {dT : Nat → ClassId} {H0 : Heap} {s : State} {h : q_H} {n sb : Nat} {ws : va_W} {H : Heap} {locs : List Loc} (hW : q_W D dT H0 s h n sb ws H locs) {i a : Nat} (ha : (q_ads sb ws)[i + 1]? = some a) : i < n ∧ ∃ e, ws[i]? = some (a, e) ∧ q_E dT (q_ads sb ws) (h i) e := by
  rw [List.getElem?_cons_succ, List.getElem?_map] at ha
  cases hi : ws[i]? with
  | none => rw [hi] at ha; cases ha
  | some x =>
    rw [hi] at ha
    obtain ⟨a', e⟩ := x
    cases ha
    have hl : i < n := by rw [← hW.1]; exact (List.getElem?_eq_some_iff.mp hi).1
    obtain ⟨a2, e2, h1, h2⟩ := hW.2.1 i hl
    rw [hi] at h1
    cases h1
    exact ⟨hl, e, rfl, h2⟩
theorem q_W.upd {D : va_G} {dT : Nat → ClassId} {H0 : Heap} {s : State} {h : q_H} {n sb : Nat} {ws : va_W} {H : Heap} {locs : List Loc} (hW : q_W D dT H0 s h n sb ws H locs) {i a : Nat} {e e' : va_E} (hi : ws[i]? = some (a, e)) {c : q_C} (he : q_E dT (q_ads sb ws) c e') {H1 : Heap} {locs1 : List Loc} (h1 : va_P D vwCl (ws.set i (a, e')) H1) (h2 : va_D (q_Z H0 s) (ws.set i (a, e'))) (h3 : va_S (q_Z H0 s) s.heap H1 locs1) : q_W D dT H0 s (q_up h i c) n sb (ws.set i (a, e')) H1 locs1 := by
  refine ⟨by rw [List.length_set]; exact hW.1, fun j hj => ?_, h1, h2, h3⟩
  rw [q_ads_set hi]
  by_cases hji : j = i
  · subst hji
    refine ⟨a, e', List.getElem?_set_self (List.getElem?_eq_some_iff.mp hi).1, ?_⟩
    rw [show q_up h j c j = c from if_pos rfl]
    exact he
  · obtain ⟨a2, e2, k1, k2⟩ := hW.2.1 j hj
    refine ⟨a2, e2, by rw [List.getElem?_set_ne (Ne.symm hji)]; exact k1, ?_⟩
    rw [show q_up h i c j = h j from if_neg hji]
    exact k2
theorem q_W.push {D : va_G} {dT : Nat → ClassId} {H0 : Heap} {s : State} {h : q_H} {n sb : Nat} {ws : va_W} {H : Heap} {locs : List Loc} (hW : q_W D dT H0 s h n sb ws H locs) {a : Nat} {e' : va_E} {c : q_C} (he : q_E dT (q_ads sb ws) c e') {H1 : Heap} {locs1 : List Loc} (h1 : va_P D vwCl (ws ++ [(a, e')]) H1) (h2 : va_D (q_Z H0 s) (ws ++ [(a, e')])) (h3 : va_S (q_Z H0 s) s.heap H1 locs1) : q_W D dT H0 s (q_up h n c) (n + 1) sb (ws ++ [(a, e')]) H1 locs1 := by
  refine ⟨by rw [List.length_append, hW.1]; rfl, fun j hj => ?_, h1, h2, h3⟩
  by_cases hji : j = n
  · rw [hji]
    refine ⟨a, e', by rw [List.getElem?_append_right (by rw [hW.1]; exact Nat.le_refl _), hW.1, Nat.sub_self]; rfl, ?_⟩
    rw [show q_up h n c n = c from if_pos rfl]
    exact he.mono q_ads_push
  · obtain ⟨a2, e2, k1, k2⟩ := hW.2.1 j (by omega)
    refine ⟨a2, e2, by rw [List.getElem?_append_left (List.getElem?_eq_some_iff.mp k1).1]; exact k1, ?_⟩
    rw [show q_up h n c j = h j from if_neg hji]
    exact k2.mono q_ads_push
theorem q_Z_new {H0 : Heap} {s : State} (h : H0.size ≤ s.heap.size) : ∀ q : Nat, s.heap.size ≤ q → q_Z H0 s q := fun q hq => Nat.le_trans h hq
/-- a value fits a field or an array's element -/
def q_fit (ty : FieldType) (v : Value) : Prop := match v with
  | .int x => narrow ty (.int x) = .int x ∧ fits ty (.int x) = true
  | .ref _ => ∀ a, narrow ty (.ref a) = .ref a ∧ fits ty (.ref a) = true
  | .null => narrow ty .null = .null ∧ fits ty .null = true
  | _ => False
theorem q_fit.use {ty : FieldType} {v w : Value} {ads : List Nat} (h : q_fit ty v) (hv : q_v ads v w) : narrow ty w = w ∧ fits ty w = true := by
  cases v with
  | int x => rw [show w = .int x from hv]; exact h
  | null => rw [show w = .null from hv]; exact h
  | ref i =>
    obtain ⟨a, -, h2⟩ := hv
    rw [h2]
    exact h a
  | _ => exact h.elim
section QH
variable {Sc : q_S} {M : q_M} {pc : Nat} {L st : List Value} {h : q_H} {n kc ks : Nat} {Q : q_O → q_H → Nat → Prop}
theorem q_get {C : String} {T : u_T} {N ci i k ix : Nat} {ty : Nat → FieldType} {fs : List Value} {v : Value} (hC : q_cls ci C T N ty) (k0 : Nat) (hk0 : k0 = k) (hk : k < N) (hw : q_in (Cond.fieldLink (q_own M) ix (T k).1 (T k).2.1 (T k).2.2.1)) (hd : decode (q_cc M) pc = .ok (.getfield ix, 3)) (hh : h i = .inl (ci, fs)) (hv : fs[k]? = some v) (kk : q_A Sc M (pc + 3) L (v :: st) h n kc ks Q) : q_A Sc M pc L (.ref i :: st) h n kc ks Q := by
  intro D dT H0 p l e R s m args below meth c H locs cells slots ls st' sb ws ads0 kc' ks' g
  obtain ⟨hF, hW, hL, ⟨_, _, rfl, ⟨a, ha, rfl⟩, hS⟩, hr⟩ := g
  obtain ⟨hi, e0, h1, h2⟩ := hW.look ha
  rw [hh] at h2
  obtain ⟨gs, rfl, h3⟩ := h2
  obtain ⟨w, h4, h5⟩ := h3.at hv
  have hT := hF.2.2.2.2.2.2.1
  exact va_get hF.1 hF.2.1 (hC.hts hT args) (fun _ q => q) hF.2.2.2.2.2.1 hF.2.2.2.2.2.2.2.1 hW.2.2.1 i h1 hC.1 k hk (hT.at hw args) (fun _ q => q) h4 hd
    (kk D dT H0 p l e R s m args below meth c H locs cells slots ls _ sb ws ads0 kc' ks' ⟨hF, hW, hL, ⟨_, _, rfl, h5, hS⟩, hr⟩)
theorem q_getN {C host : String} {T : u_T} {N ci i k ix : Nat} {ty : Nat → FieldType} {fs : List Value} {v : Value} (hC : q_cls ci C T N ty) (k0 : Nat) (hk0 : k0 = k) (hk : k < N) (hw : q_in (Cond.fieldLinkNest (q_own M) ix (T k).1 (T k).2.1 (T k).2.2.1 host)) (hd : decode (q_cc M) pc = .ok (.getfield ix, 3)) (hh : h i = .inl (ci, fs)) (hv : fs[k]? = some v) (kk : q_A Sc M (pc + 3) L (v :: st) h n kc ks Q) : q_A Sc M pc L (.ref i :: st) h n kc ks Q := by
  intro D dT H0 p l e R s m args below meth c H locs cells slots ls st' sb ws ads0 kc' ks' g
  obtain ⟨hF, hW, hL, ⟨_, _, rfl, ⟨a, ha, rfl⟩, hS⟩, hr⟩ := g
  obtain ⟨hi, e0, h1, h2⟩ := hW.look ha
  rw [hh] at h2
  obtain ⟨gs, rfl, h3⟩ := h2
  obtain ⟨w, h4, h5⟩ := h3.at hv
  have hT := hF.2.2.2.2.2.2.1
  exact va_getN hF.1 hF.2.1 (hC.hts hT args) (fun _ q => q) hF.2.2.2.2.2.1 hF.2.2.2.2.2.2.2.1 hW.2.2.1 i h1 hC.1 k hk (hT.at hw args) (fun _ q => q) h4 hd
    (kk D dT H0 p l e R s m args below meth c H locs cells slots ls _ sb ws ads0 kc' ks' ⟨hF, hW, hL, ⟨_, _, rfl, h5, hS⟩, hr⟩)
theorem q_put {C : String} {T : u_T} {N ci i k ix : Nat} {ty : Nat → FieldType} {fs : List Value} {v : Value} (hC : q_cls ci C T N ty) (k0 : Nat) (hk0 : k0 = k) (hk : k < N) (hw : q_in (Cond.fieldLink (q_own M) ix (T k).1 (T k).2.1 (T k).2.2.1)) (hfin : (T k).2.2.2 = false) (hd : decode (q_cc M) pc = .ok (.putfield ix, 3)) (hh : h i = .inl (ci, fs)) (hl : k < fs.length) (hv : q_fit (ty k) v) (kk : q_A Sc M (pc + 3) L st (q_up h i (.inl (ci, fs.set k v))) n kc ks Q) : q_A Sc M pc L (v :: .ref i :: st) h n kc ks Q := by
  intro D dT H0 p l e R s m args below meth c H locs cells slots ls st' sb ws ads0 kc' ks' g
  obtain ⟨hF, hW, hL, ⟨w, _, rfl, hvw, _, _, rfl, ⟨a, ha, rfl⟩, hS⟩, hr⟩ := g
  obtain ⟨hi, e0, h1, h2⟩ := hW.look ha
  rw [hh] at h2
  obtain ⟨gs, rfl, h3⟩ := h2
  have hT := hF.2.2.2.2.2.2.1
  have hf := hv.use hvw
  refine va_put hF.1 hF.2.1 (hC.hts hT args) (fun _ q => q) ty hC.2.2.1 hC.2.2.2 hF.2.2.2.2.2.1 hF.2.2.2.2.2.2.2.1 hW.2.2.1 hW.2.2.2.1 hW.2.2.2.2 i h1 hC.1 k hk (hT.at hw args) (fun _ q => q) hfin (hC.2.2.1 k hk) hf.1 hf.2 (by rw [h3.len]; exact hl) hd (fun H1 locs1 p1 p2 p3 => ?_)
  have hW1 := hW.upd h1 (c := .inl (ci, fs.set k v)) ⟨_, rfl, h3.set hvw⟩ p1 p2 p3
  have he : q_ads sb (ws.set i (a, .inr (ci, gs.set k w))) = q_ads sb ws := q_ads_set h1
  exact kk D dT H0 p l e R s m args below meth c H1 locs1 cells slots ls _ sb _ ads0 kc' ks' ⟨hF, hW1, by rw [he]; exact hL, by rw [he]; exact hS, by rw [he]; exact hr⟩
theorem q_putN {C host : String} {T : u_T} {N ci i k ix : Nat} {ty : Nat → FieldType} {fs : List Value} {v : Value} (hC : q_cls ci C T N ty) (k0 : Nat) (hk0 : k0 = k) (hk : k < N) (hw : q_in (Cond.fieldLinkNest (q_own M) ix (T k).1 (T k).2.1 (T k).2.2.1 host)) (hfin : (T k).2.2.2 = false) (hd : decode (q_cc M) pc = .ok (.putfield ix, 3)) (hh : h i = .inl (ci, fs)) (hl : k < fs.length) (hv : q_fit (ty k) v) (kk : q_A Sc M (pc + 3) L st (q_up h i (.inl (ci, fs.set k v))) n kc ks Q) : q_A Sc M pc L (v :: .ref i :: st) h n kc ks Q := by
  intro D dT H0 p l e R s m args below meth c H locs cells slots ls st' sb ws ads0 kc' ks' g
  obtain ⟨hF, hW, hL, ⟨w, _, rfl, hvw, _, _, rfl, ⟨a, ha, rfl⟩, hS⟩, hr⟩ := g
  obtain ⟨hi, e0, h1, h2⟩ := hW.look ha
  rw [hh] at h2
  obtain ⟨gs, rfl, h3⟩ := h2
  have hT := hF.2.2.2.2.2.2.1
  have hf := hv.use hvw
  refine va_putN hF.1 hF.2.1 (hC.hts hT args) (fun _ q => q) ty hC.2.2.1 hC.2.2.2 hF.2.2.2.2.2.1 hF.2.2.2.2.2.2.2.1 hW.2.2.1 hW.2.2.2.1 hW.2.2.2.2 i h1 hC.1 k hk (hT.at hw args) (fun _ q => q) hfin (hC.2.2.1 k hk) hf.1 hf.2 (by rw [h3.len]; exact hl) hd (fun H1 locs1 p1 p2 p3 => ?_)
  have hW1 := hW.upd h1 (c := .inl (ci, fs.set k v)) ⟨_, rfl, h3.set hvw⟩ p1 p2 p3
  have he : q_ads sb (ws.set i (a, .inr (ci, gs.set k w))) = q_ads sb ws := q_ads_set h1
  exact kk D dT H0 p l e R s m args below meth c H1 locs1 cells slots ls _ sb _ ads0 kc' ks' ⟨hF, hW1, by rw [he]; exact hL, by rw [he]; exact hS, by rw [he]; exact hr⟩
theorem q_putF {C : String} {T : u_T} {N ci i k ix : Nat} {ty : Nat → FieldType} {fs : List Value} {v : Value} (hC : q_cls ci C T N ty) (k0 : Nat) (hk0 : k0 = k) (hk : k < N) (hw : q_in (Cond.fieldLink (q_own M) ix (T k).1 (T k).2.1 (T k).2.2.1)) (hfin : (T k).2.2.2 = true) (hin : (q_nm M).name = "<init>") (hdc : (T k).1 = q_own M) (hd : decode (q_cc M) pc = .ok (.putfield ix, 3)) (hh : h i = .inl (ci, fs)) (hl : k < fs.length) (hv : q_fit (ty k) v) (kk : q_A Sc M (pc + 3) L st (q_up h i (.inl (ci, fs.set k v))) n kc ks Q) : q_A Sc M pc L (v :: .ref i :: st) h n kc ks Q := by
  intro D dT H0 p l e R s m args below meth c H locs cells slots ls st' sb ws ads0 kc' ks' g
  obtain ⟨hF, hW, hL, ⟨w, _, rfl, hvw, _, _, rfl, ⟨a, ha, rfl⟩, hS⟩, hr⟩ := g
  obtain ⟨hi, e0, h1, h2⟩ := hW.look ha
  rw [hh] at h2
  obtain ⟨gs, rfl, h3⟩ := h2
  have hT := hF.2.2.2.2.2.2.1
  have hf := hv.use hvw
  refine va_putF hF.1 hF.2.1 (hC.hts hT args) (fun _ q => q) ty hC.2.2.1 hC.2.2.2 hF.2.2.2.2.2.1 hF.2.2.2.2.2.2.2.1 hW.2.2.1 hW.2.2.2.1 hW.2.2.2.2 i h1 hC.1 k hk (hT.at hw args) (fun _ q => q) hfin (hF.2.2.2.2.2.2.2.2.2.2.2.1.trans hin) hdc (hC.2.2.1 k hk) hf.1 hf.2 (by rw [h3.len]; exact hl) hd (fun H1 locs1 p1 p2 p3 => ?_)
  have hW1 := hW.upd h1 (c := .inl (ci, fs.set k v)) ⟨_, rfl, h3.set hvw⟩ p1 p2 p3
  have he : q_ads sb (ws.set i (a, .inr (ci, gs.set k w))) = q_ads sb ws := q_ads_set h1
  exact kk D dT H0 p l e R s m args below meth c H1 locs1 cells slots ls _ sb _ ads0 kc' ks' ⟨hF, hW1, by rw [he]; exact hL, by rw [he]; exact hS, by rw [he]; exact hr⟩
theorem q_iald {i t : Nat} {j : Int32} {a : List Int32} (hd : decode (q_cc M) pc = .ok (.iaload, 1)) (hh : h i = .inr (.inl (t, a))) (ht : q_ty[t]? = some .int) (hj : vp_in j a.length) (kk : q_A Sc M (pc + 1) L (.int (a.getD j.toNatClampNeg 0) :: st) h n kc ks Q) : q_A Sc M pc L (.int j :: .ref i :: st) h n kc ks Q := by
  intro D dT H0 p l e R s m args below meth c H locs cells slots ls st' sb ws ads0 kc' ks' g
  obtain ⟨hF, hW, hL, ⟨_, _, rfl, rfl, _, _, rfl, ⟨b, ha, rfl⟩, hS⟩, hr⟩ := g
  obtain ⟨hi, e0, h1, h2⟩ := hW.look ha
  rw [hh] at h2
  subst h2
  exact va_iald hF.1 hF.2.1 hF.2.2.2.2.2.2.2.1 hW.2.2.1 i t h1 (q_tys_at ht) hj hd (kk D dT H0 p l e R s m args below meth c H locs cells slots ls _ sb ws ads0 kc' ks' ⟨hF, hW, hL, ⟨_, _, rfl, rfl, hS⟩, hr⟩)
theorem q_zald {i t : Nat} {j : Int32} {a : List Int32} (hd : decode (q_cc M) pc = .ok (.baload, 1)) (hh : h i = .inr (.inl (t, a))) (ht : q_ty[t]? = some .boolean) (hj : vp_in j a.length) (kk : q_A Sc M (pc + 1) L (.int (a.getD j.toNatClampNeg 0) :: st) h n kc ks Q) : q_A Sc M pc L (.int j :: .ref i :: st) h n kc ks Q := by
  intro D dT H0 p l e R s m args below meth c H locs cells slots ls st' sb ws ads0 kc' ks' g
  obtain ⟨hF, hW, hL, ⟨_, _, rfl, rfl, _, _, rfl, ⟨b, ha, rfl⟩, hS⟩, hr⟩ := g
  obtain ⟨hi, e0, h1, h2⟩ := hW.look ha
  rw [hh] at h2
  subst h2
  exact va_zald hF.1 hF.2.1 hF.2.2.2.2.2.2.2.1 hW.2.2.1 i t h1 (q_tys_at ht) hj hd (kk D dT H0 p l e R s m args below meth c H locs cells slots ls _ sb ws ads0 kc' ks' ⟨hF, hW, hL, ⟨_, _, rfl, rfl, hS⟩, hr⟩)
theorem q_upd_list {a : List Int32} {j : Nat} (hj : j < a.length) (x : Int32) : upd (fun q => a.getD q 0) j x = fun q => (a.set j x).getD q 0 := by
  funext q
  unfold upd
  by_cases hq : q = j
  · subst hq
    rw [if_pos rfl, List.getD_eq_getElem?_getD, List.getElem?_set_self hj]
    rfl
  · rw [if_neg hq]
    show a.getD q 0 = (a.set j x).getD q 0
    rw [List.getD_eq_getElem?_getD, List.getD_eq_getElem?_getD, List.getElem?_set_ne (Ne.symm hq)]
theorem q_iast {i t : Nat} {j x : Int32} {a : List Int32} (hd : decode (q_cc M) pc = .ok (.iastore, 1)) (hh : h i = .inr (.inl (t, a))) (ht : q_ty[t]? = some .int) (hj : vp_in j a.length) (kk : q_A Sc M (pc + 1) L st (q_up h i (.inr (.inl (t, a.set j.toNatClampNeg x)))) n kc ks Q) : q_A Sc M pc L (.int x :: .int j :: .ref i :: st) h n kc ks Q := by
  intro D dT H0 p l e R s m args below meth c H locs cells slots ls st' sb ws ads0 kc' ks' g
  obtain ⟨hF, hW, hL, ⟨_, _, rfl, rfl, _, _, rfl, rfl, _, _, rfl, ⟨b, ha, rfl⟩, hS⟩, hr⟩ := g
  obtain ⟨hi, e0, h1, h2⟩ := hW.look ha
  rw [hh] at h2
  subst h2
  have hlt : j.toNatClampNeg < a.length := Nat.not_le.mp fun q => hj (Or.inr q)
  refine va_iast hF.1 hF.2.1 hF.2.2.2.2.2.2.2.1 hW.2.2.1 hW.2.2.2.1 hW.2.2.2.2 i t h1 (q_tys_at ht) hj hd (fun H1 locs1 p1 p2 p3 => ?_)
  rw [q_upd_list hlt] at p1 p2
  have hW1 := hW.upd h1 (c := .inr (.inl (t, a.set j.toNatClampNeg x))) (by show _ = _; rw [List.length_set]) p1 p2 p3
  have he := q_ads_set (sb := sb) (e' := (.inl (dT t, a.length, .inl (fun q => (a.set j.toNatClampNeg x).getD q 0)))) h1
  exact kk D dT H0 p l e R s m args below meth c H1 locs1 cells slots ls _ sb _ ads0 kc' ks' ⟨hF, hW1, by rw [he]; exact hL, by rw [he]; exact hS, by rw [he]; exact hr⟩
theorem q_zast {i t : Nat} {j x : Int32} {a : List Int32} (hd : decode (q_cc M) pc = .ok (.bastore, 1)) (hh : h i = .inr (.inl (t, a))) (ht : q_ty[t]? = some .boolean) (hj : vp_in j a.length) (hx : vp_nar .boolean x = x) (kk : q_A Sc M (pc + 1) L st (q_up h i (.inr (.inl (t, a.set j.toNatClampNeg x)))) n kc ks Q) : q_A Sc M pc L (.int x :: .int j :: .ref i :: st) h n kc ks Q := by
  intro D dT H0 p l e R s m args below meth c H locs cells slots ls st' sb ws ads0 kc' ks' g
  obtain ⟨hF, hW, hL, ⟨_, _, rfl, rfl, _, _, rfl, rfl, _, _, rfl, ⟨b, ha, rfl⟩, hS⟩, hr⟩ := g
  obtain ⟨hi, e0, h1, h2⟩ := hW.look ha
  rw [hh] at h2
  subst h2
  have hlt : j.toNatClampNeg < a.length := Nat.not_le.mp fun q => hj (Or.inr q)
  refine va_zast hF.1 hF.2.1 hF.2.2.2.2.2.2.2.1 hW.2.2.1 hW.2.2.2.1 hW.2.2.2.2 i t h1 (q_tys_at ht) hj hd (fun H1 locs1 p1 p2 p3 => ?_)
  rw [hx, q_upd_list hlt] at p1 p2
  have hW1 := hW.upd h1 (c := .inr (.inl (t, a.set j.toNatClampNeg x))) (by show _ = _; rw [List.length_set]) p1 p2 p3
  have he := q_ads_set (sb := sb) (e' := (.inl (dT t, a.length, .inl (fun q => (a.set j.toNatClampNeg x).getD q 0)))) h1
  exact kk D dT H0 p l e R s m args below meth c H1 locs1 cells slots ls _ sb _ ads0 kc' ks' ⟨hF, hW1, by rw [he]; exact hL, by rw [he]; exact hS, by rw [he]; exact hr⟩
theorem q_aald {i t : Nat} {C : String} {j : Int32} {a : List (Option Nat)} {v : Nat} (hd : decode (q_cc M) pc = .ok (.aaload, 1)) (hh : h i = .inr (.inr (.inl (t, a)))) (ht : q_ty[t]? = some (.object C)) (hj : vp_in j a.length) (hv : a[j.toNatClampNeg]? = some (some v)) (kk : q_A Sc M (pc + 1) L (.ref v :: st) h n kc ks Q) : q_A Sc M pc L (.int j :: .ref i :: st) h n kc ks Q := by
  intro D dT H0 p l e R s m args below meth c H locs cells slots ls st' sb ws ads0 kc' ks' g
  obtain ⟨hF, hW, hL, ⟨_, _, rfl, rfl, _, _, rfl, ⟨b, ha, rfl⟩, hS⟩, hr⟩ := g
  obtain ⟨hi, e0, h1, h2⟩ := hW.look ha
  rw [hh] at h2
  obtain ⟨f, rfl, h3⟩ := h2
  rcases h3 _ _ hv with ⟨q1, -⟩ | ⟨i2, a2, q1, q2, q3⟩
  · cases q1
  · cases q1
    refine va_aldq hF.1 hF.2.1 hF.2.2.2.2.2.2.2.1 hW.2.2.1 i t h1 (q_tys_at ht) hj hd ?_
    rw [q3]
    exact kk D dT H0 p l e R s m args below meth c H locs cells slots ls _ sb ws ads0 kc' ks' ⟨hF, hW, hL, ⟨_, _, rfl, ⟨a2, q2, rfl⟩, hS⟩, hr⟩
theorem q_alen_i {i t : Nat} {a : List Int32} {ty : FieldType} {v : Int32} (hd : decode (q_cc M) pc = .ok (.arraylength, 1)) (hh : h i = .inr (.inl (t, a))) (ht : q_ty[t]? = some ty) (hv : Int32.ofNat a.length = v) (kk : q_A Sc M (pc + 1) L (.int v :: st) h n kc ks Q) : q_A Sc M pc L (.ref i :: st) h n kc ks Q := by
  intro D dT H0 p l e R s m args below meth c H locs cells slots ls st' sb ws ads0 kc' ks' g
  obtain ⟨hF, hW, hL, ⟨_, _, rfl, ⟨b, ha, rfl⟩, hS⟩, hr⟩ := g
  obtain ⟨hi, e0, h1, h2⟩ := hW.look ha
  rw [hh] at h2
  subst h2
  exact va_alen hF.1 hF.2.1 hF.2.2.2.2.2.2.2.1 hW.2.2.1 i t h1 (q_tys_at ht) hv hd (kk D dT H0 p l e R s m args below meth c H locs cells slots ls _ sb ws ads0 kc' ks' ⟨hF, hW, hL, ⟨_, _, rfl, rfl, hS⟩, hr⟩)
theorem q_alen_r {i t : Nat} {a : List (Option Nat)} {ty : FieldType} {v : Int32} (hd : decode (q_cc M) pc = .ok (.arraylength, 1)) (hh : h i = .inr (.inr (.inl (t, a)))) (ht : q_ty[t]? = some ty) (hv : Int32.ofNat a.length = v) (kk : q_A Sc M (pc + 1) L (.int v :: st) h n kc ks Q) : q_A Sc M pc L (.ref i :: st) h n kc ks Q := by
  intro D dT H0 p l e R s m args below meth c H locs cells slots ls st' sb ws ads0 kc' ks' g
  obtain ⟨hF, hW, hL, ⟨_, _, rfl, ⟨b, ha, rfl⟩, hS⟩, hr⟩ := g
  obtain ⟨hi, e0, h1, h2⟩ := hW.look ha
  rw [hh] at h2
  obtain ⟨f, rfl, h3⟩ := h2
  exact va_alen hF.1 hF.2.1 hF.2.2.2.2.2.2.2.1 hW.2.2.1 i t h1 (q_tys_at ht) hv hd (kk D dT H0 p l e R s m args below meth c H locs cells slots ls _ sb ws ads0 kc' ks' ⟨hF, hW, hL, ⟨_, _, rfl, rfl, hS⟩, hr⟩)
theorem q_new {C : String} {T : u_T} {N ci ix : Nat} {ty : Nat → FieldType} {fs : List Value} (hC : q_cls ci C T N ty) (hw1 : q_in (Cond.classLink (q_own M) ix C)) (hw2 : q_in (Cond.instantiable C N)) (hw3 : q_in (Cond.initialized C)) (hd : decode (q_cc M) pc = .ok (.new ix, 3)) (hfs : ∀ j, j < N → defaultValue (ty j) = vp_V fs j) (hfv : ∀ ads, q_vs ads fs fs) (hk1 : 1 ≤ kc) (hk2 : N ≤ ks) (kk : q_A Sc M (pc + 3) L (.ref n :: st) (q_up h n (.inl (ci, fs))) (n + 1) (kc - 1) (ks - N) Q) : q_A Sc M pc L st h n kc ks Q := by
  intro D dT H0 p l e R s m args below meth c H locs cells slots ls st' sb ws ads0 kc' ks' g
  obtain ⟨hF, hW, hL, hS, ha, g6, g7, g8, g9⟩ := g
  have hT := hF.2.2.2.2.2.2.1
  refine va_new hF.1 hF.2.1 (hC.hts hT args) (fun _ q => q) ty hC.2.2.1 hF.2.2.2.2.2.1 (hT.at hw1 args) (hT.at hw2 args) (hT.at hw3 args) hF.2.2.2.2.2.2.2.1 hW.2.2.1 hW.2.2.2.1 hW.2.2.2.2 (q_Z_new hF.2.2.2.2.2.2.2.2.2.2.2.2.1) hC.1 hfs (by omega) (by omega) hd (fun q H1 p1 p2 p3 => ?_)
  have hW1 := hW.push (c := .inl (ci, fs)) ⟨fs, rfl, hfv _⟩ p1 p2 p3
  have hq : (q_ads sb (ws ++ [(q, (.inr (ci, fs) : va_E))]))[n + 1]? = some q := q_ads_at (e := .inr (ci, fs)) (by rw [List.getElem?_append_right (by rw [hW.1]; exact Nat.le_refl _), hW.1, Nat.sub_self]; rfl)
  exact kk D dT H0 p l e R s m args below meth c H1 locs (cells + 1) (slots + N) ls _ sb _ ads0 kc' ks' ⟨hF, hW1, hL.mono q_ads_push, ⟨_, _, rfl, ⟨q, hq, rfl⟩, hS.mono q_ads_push⟩, ha.tr q_ads_push, by omega, by omega, g8, g9⟩
end QH
end
section
section QM
variable {Sc : q_S} {M : q_M} {pc : Nat} {L st : List Value} {h : q_H} {n kc ks : Nat} {Q : q_O → q_H → Nat → Prop}
theorem q_rep_list (N : Nat) : (fun q => (List.replicate N (0 : Int32)).getD q 0) = fun _ => (0 : Int32) := by
  funext q
  rw [List.getD_eq_getElem?_getD, List.getElem?_replicate]
  split <;> rfl
theorem q_at_end {sb : Nat} {ws : va_W} {n q : Nat} {e : va_E} (h : ws.length = n) : (q_ads sb (ws ++ [(q, e)]))[n + 1]? = some q :=
  q_ads_at (e := e) (by rw [List.getElem?_append_right (by rw [h]; exact Nat.le_refl _), h, Nat.sub_self]; rfl)
theorem q_newa {atype : ArrayType} {ty : FieldType} {t N : Nat} {len : Int32} (hd : decode (q_cc M) pc = .ok (.newarray atype, 2)) (hty : newarray.typeOf atype = ty) (ht : q_ty[t]? = some ty) (hp : ty = .int ∨ ty = .boolean) (hw : q_in (Cond.arrayClass ty)) (hn : ¬ len < 0) (hN : len.toNatClampNeg = N) (hb : N ≤ 4096) (hk1 : 1 ≤ kc) (hk2 : N ≤ ks)
    (kk : q_A Sc M (pc + 2) L (.ref n :: st) (q_up h n (.inr (.inl (t, List.replicate N 0)))) (n + 1) (kc - 1) (ks - N) Q) : q_A Sc M pc L (.int len :: st) h n kc ks Q := by
  intro D dT H0 p l e R s m args below meth c H locs cells slots ls st' sb ws ads0 kc' ks' g
  obtain ⟨hF, hW, hL, ⟨_, _, rfl, rfl, hS⟩, ha, g6, g7, g8, g9⟩ := g
  have hT := hF.2.2.2.2.2.2.1
  have hK := hF.2.2.2.2.2.2.2.1
  refine va_newa (a0 := (N, .inl (fun _ => 0))) hF.1 hF.2.1 (by rw [hty]; exact hT.at hw args) hty hK hW.2.2.1 hW.2.2.2.1 hW.2.2.2.2 (q_Z_new hF.2.2.2.2.2.2.2.2.2.2.2.2.1) (fun cA => by rcases hp with rfl | rfl <;> rfl) hn hN (by rcases hp with rfl | rfl <;> simp [componentBytes] <;> omega) (by omega) (by omega) hd (fun q cA H1 k1 p1 p2 p3 => ?_)
  have hcA : cA = dT t := by
    have r1 := (hK.2 t _ (q_tys_at ht)).2
    have r2 := (k1.2 (q_tys dT).length (cA, ty) (by rw [List.getElem?_append_right (Nat.le_refl _), Nat.sub_self]; rfl)).2
    rcases hp with rfl | rfl
    · exact Option.some.inj ((show s.vm.findClass _ = some cA from r2).symm.trans r1)
    · exact Option.some.inj ((show s.vm.findClass _ = some cA from r2).symm.trans r1)
  subst hcA
  have hW1 := hW.push (c := .inr (.inl (t, List.replicate N 0))) (by show _ = _; rw [List.length_replicate, q_rep_list]) p1 p2 p3
  exact kk D dT H0 p l e R s m args below meth c H1 locs (cells + 1) (slots + N) ls _ sb _ ads0 kc' ks' ⟨hF, hW1, hL.mono q_ads_push, ⟨_, _, rfl, ⟨q, q_at_end hW.1, rfl⟩, hS.mono q_ads_push⟩, ha.tr q_ads_push, by omega, by omega, g8, g9⟩
theorem q_newq {C : String} {t N ix : Nat} {len : Int32} (hd : decode (q_cc M) pc = .ok (.anewarray ix, 3)) (ht : q_ty[t]? = some (.object C)) (hw1 : q_in (Cond.classLink (q_own M) ix C)) (hw2 : q_in (Cond.arrayOver (.object C))) (hn : ¬ len < 0) (hN : len.toNatClampNeg = N) (hb : N ≤ 4096) (hk1 : 1 ≤ kc) (hk2 : N ≤ ks)
    (kk : q_A Sc M (pc + 3) L (.ref n :: st) (q_up h n (.inr (.inr (.inl (t, List.replicate N none))))) (n + 1) (kc - 1) (ks - N) Q) : q_A Sc M pc L (.int len :: st) h n kc ks Q := by
  intro D dT H0 p l e R s m args below meth c H locs cells slots ls st' sb ws ads0 kc' ks' g
  obtain ⟨hF, hW, hL, ⟨_, _, rfl, rfl, hS⟩, ha, g6, g7, g8, g9⟩ := g
  have hT := hF.2.2.2.2.2.2.1
  have hK := hF.2.2.2.2.2.2.2.1
  refine va_newq hF.1 hF.2.1 hF.2.2.2.2.2.1 (hT.at hw1 args) (hT _ hw2) hK hW.2.2.1 hW.2.2.2.1 hW.2.2.2.2 (q_Z_new hF.2.2.2.2.2.2.2.2.2.2.2.2.1) hn hN (by omega) (by omega) (by omega) hd (fun q cA H1 k1 p1 p2 p3 => ?_)
  have hcA : cA = dT t := by
    obtain ⟨_, _, -, -, -, r1⟩ := (hK.2 t _ (q_tys_at ht)).2
    obtain ⟨_, _, -, -, -, r2⟩ := (k1.2 (q_tys dT).length (cA, .object C) (by rw [List.getElem?_append_right (Nat.le_refl _), Nat.sub_self]; rfl)).2
    exact Option.some.inj (r2.symm.trans r1)
  subst hcA
  have hrep : ∀ (j : Nat) (r : Option Nat), (List.replicate N (none : Option Nat))[j]? = some r → r = none := fun j r hr => by
    rw [List.getElem?_replicate] at hr
    split at hr
    · exact (Option.some.inj hr).symm
    · cases hr
  have hW1 := hW.push (c := .inr (.inr (.inl (t, List.replicate N none)))) ⟨fun _ => none, by rw [List.length_replicate], fun j r hr => Or.inl ⟨hrep j r hr, rfl⟩⟩ p1 p2 p3
  exact kk D dT H0 p l e R s m args below meth c H1 locs (cells + 1) (slots + N) ls _ sb _ ads0 kc' ks' ⟨hF, hW1, hL.mono q_ads_push, ⟨_, _, rfl, ⟨q, q_at_end hW.1, rfl⟩, hS.mono q_ads_push⟩, ha.tr q_ads_push, by omega, by omega, g8, g9⟩
theorem q_aast {C : String} {T : u_T} {N ci i i2 t : Nat} {ty : Nat → FieldType} {j : Int32} {a : List (Option Nat)} {fs : List Value} (hC : q_cls ci C T N ty) (hd : decode (q_cc M) pc = .ok (.aastore, 1)) (hh : h i = .inr (.inr (.inl (t, a)))) (ht : q_ty[t]? = some (.object C)) (hh2 : h i2 = .inl (ci, fs)) (hj : vp_in j a.length)
    (kk : q_A Sc M (pc + 1) L st (q_up h i (.inr (.inr (.inl (t, a.set j.toNatClampNeg (some i2)))))) n kc ks Q) : q_A Sc M pc L (.ref i2 :: .int j :: .ref i :: st) h n kc ks Q := by
  intro D dT H0 p l e R s m args below meth c H locs cells slots ls st' sb ws ads0 kc' ks' g
  obtain ⟨hF, hW, hL, ⟨_, _, rfl, ⟨b2, ha2, rfl⟩, _, _, rfl, rfl, _, _, rfl, ⟨b, ha, rfl⟩, hS⟩, hr⟩ := g
  obtain ⟨hi, e0, h1, h2⟩ := hW.look ha
  rw [hh] at h2
  obtain ⟨f, rfl, h3⟩ := h2
  obtain ⟨hi2, e2, h4, h5⟩ := hW.look ha2
  rw [hh2] at h5
  obtain ⟨gs, rfl, -⟩ := h5
  have hlt : j.toNatClampNeg < a.length := Nat.not_le.mp fun q => hj (Or.inr q)
  refine va_astq hF.1 hF.2.1 hF.2.2.2.2.2.2.2.1 hW.2.2.1 hW.2.2.2.1 hW.2.2.2.2 i t i2 ci h1 (q_tys_at ht) h4 hC.1 hj hd (fun H1 locs1 p1 p2 p3 => ?_)
  have hW1 := hW.upd h1 (c := .inr (.inr (.inl (t, a.set j.toNatClampNeg (some i2))))) ⟨_, by rw [List.length_set], fun q r hr => ?_⟩ p1 p2 p3
  · have he := q_ads_set (sb := sb) (e' := (.inl (dT t, a.length, .inr (.inr (.inr (.inr (va_up f j.toNatClampNeg (some b2)))))))) h1
    exact kk D dT H0 p l e R s m args below meth c H1 locs1 cells slots ls _ sb _ ads0 kc' ks' ⟨hF, hW1, by rw [he]; exact hL, by rw [he]; exact hS, by rw [he]; exact hr⟩
  · by_cases hq : j.toNatClampNeg = q
    · subst hq
      rw [List.getElem?_set_self hlt] at hr
      cases hr
      exact Or.inr ⟨i2, b2, rfl, ha2, if_pos rfl⟩
    · rw [List.getElem?_set_ne hq] at hr
      have := h3 q r hr
      rw [show va_up f j.toNatClampNeg (some b2) q = f q from if_neg (fun z => hq z.symm)]
      exact this
theorem q_Wmono {p : Program} {l : Launch} {e : Env} {R : Room} {s : State} {m : MethodId} {args : Array Value} {below : List Frame} {meth : Method} {c : Code} {H : Heap} {locs : List Loc} {cells slots : Nat} {Q1 Q2 : State → Prop} {g : JFrame} (hq : ∀ t, Q1 t → Q2 t) (k : W p l e R s m args below meth c H locs cells slots Q1 g) : W p l e R s m args below meth c H locs cells slots Q2 g := by
  intro T hT X
  obtain ⟨t, a, b⟩ := k T hT X
  exact ⟨t, a, hq t b⟩
theorem q_iret {ty : FieldType} {v : Int32} (hd : decode (q_cc M) pc = .ok (.ireturn, 1)) (hr : q_rt M = some ty) (hn : narrow ty (.int v) = .int v) (hq : Q (.inl (some (.int v))) h n) : q_A Sc M pc L [.int v] h n kc ks Q := by
  intro D dT H0 p l e R s m args below meth c H locs cells slots ls st' sb ws ads0 kc' ks' g
  obtain ⟨hF, hW, hL, ⟨_, _, rfl, rfl, rfl⟩, ha, g6, g7, g8, g9⟩ := g
  refine W.widen (k := kc') (n := ks') (by omega) (by omega) ?_
  refine q_Wmono ?_ (W.zret (Qc := fun _ _ o t => o = .returned (some (.int v)) ∧ t.heap = H) (free := q_Z H0 s) hF.1 hF.2.1 (hF.2.2.2.1.trans hr) hn (fun t ht _ => ⟨rfl, ht⟩) hW.2.2.2.2.2.2 hd hF.2.2.2.2.1)
  rintro t ⟨o, b1, b2, ⟨rfl, b4⟩, L', ⟨-, b5, b6⟩, b7⟩
  exact ⟨_, L', h, n, ws, .inl (some (.int v)), b1, b2, b5, b6, hq, ⟨hW.1, hW.2.1, by rw [b4]; exact hW.2.2.1, hW.2.2.2.1, by rw [b4]; exact ⟨hW.2.2.2.2.1, hW.2.2.2.2.2.1, b7⟩⟩, ha, ⟨_, rfl, rfl⟩⟩
theorem q_vret (hd : decode (q_cc M) pc = .ok (.return_, 1)) (hr : q_rt M = none) (hq : Q (.inl none) h n) : q_A Sc M pc L [] h n kc ks Q := by
  intro D dT H0 p l e R s m args below meth c H locs cells slots ls st' sb ws ads0 kc' ks' g
  obtain ⟨hF, hW, hL, rfl, ha, g6, g7, g8, g9⟩ := g
  refine W.widen (k := kc') (n := ks') (by omega) (by omega) ?_
  refine q_Wmono ?_ (W.vret (Qc := fun _ _ o t => o = .returned none ∧ t.heap = H) (free := q_Z H0 s) hF.1 hF.2.1 (hF.2.2.2.1.trans hr) (fun t ht _ => ⟨rfl, ht⟩) hW.2.2.2.2.2.2 hd hF.2.2.2.2.1)
  rintro t ⟨o, b1, b2, ⟨rfl, b4⟩, L', ⟨-, b5, b6⟩, b7⟩
  exact ⟨_, L', h, n, ws, .inl none, b1, b2, b5, b6, hq, ⟨hW.1, hW.2.1, by rw [b4]; exact hW.2.2.1, hW.2.2.2.1, by rw [b4]; exact ⟨hW.2.2.2.2.1, hW.2.2.2.2.2.1, b7⟩⟩, ha, rfl⟩
theorem q_aret {rt : FieldType} {i : Nat} (hd : decode (q_cc M) pc = .ok (.areturn, 1)) (hr : q_rt M = some rt) (hrt : (∃ x, rt = .object x) ∨ ∃ x, rt = .array x) (hq : Q (.inl (some (.ref i))) h n) : q_A Sc M pc L [.ref i] h n kc ks Q := by
  intro D dT H0 p l e R s m args below meth c H locs cells slots ls st' sb ws ads0 kc' ks' g
  obtain ⟨hF, hW, hL, ⟨_, _, rfl, ⟨a, ha1, rfl⟩, rfl⟩, ha, g6, g7, g8, g9⟩ := g
  refine W.widen (k := kc') (n := ks') (by omega) (by omega) ?_
  refine q_Wmono ?_ (W.aret (Qc := fun _ _ o t => o = .returned (some (.ref a)) ∧ t.heap = H) (free := q_Z H0 s) hF.1 hF.2.1 (hF.2.2.2.1.trans hr) hrt (Or.inr ⟨a, rfl⟩) (fun t ht _ => ⟨rfl, ht⟩) hW.2.2.2.2.2.2 hd hF.2.2.2.2.1)
  rintro t ⟨o, b1, b2, ⟨rfl, b4⟩, L', ⟨-, b5, b6⟩, b7⟩
  exact ⟨_, L', h, n, ws, .inl (some (.ref i)), b1, b2, b5, b6, hq, ⟨hW.1, hW.2.1, by rw [b4]; exact hW.2.2.1, hW.2.2.2.1, by rw [b4]; exact ⟨hW.2.2.2.2.1, hW.2.2.2.2.2.1, b7⟩⟩, ha, ⟨_, rfl, a, ha1, rfl⟩⟩
end QM
end
section
/-- the locals with which a method begins -/
def q_L0 (M : q_M) (vs : List Value) : List Value := vs ++ List.replicate (q_nL M - vs.length) (.retAddr 0)
def q_one : List Value → Bool
  | [] => true
  | v :: r => decide (v.category = 1) && q_one r
theorem q_one_c {v : Value} {r : List Value} (h : q_one (v :: r) = true) : v.category = 1 ∧ q_one r = true := by
  simpa [q_one] using h
theorem q_sl {ads : List Nat} : ∀ {vs ws : List Value}, q_one vs = true → q_vs ads vs ws → lg_sl ws = ws.map Slot.val
  | [], _, _, h => by rw [show _ = [] from h]; rfl
  | _ :: _, _, ho, ⟨w, r, e, h1, h2⟩ => by
    subst e
    have h3 := q_sl (q_one_c ho).2 h2
    have hc := h1.cat.trans (q_one_c ho).1
    show (w :: r).flatMap _ = _
    rw [List.flatMap_cons]
    have h4 : lg_sl r = r.map Slot.val := h3
    unfold lg_sl at h4
    rw [h4]
    simp [hc]
theorem q_args {ads : List Nat} : ∀ {vs ws : List Value} (k : Nat), q_one vs = true → q_vs ads vs ws → ∀ {i : Nat} {v : Value}, vs[i]? = some v → ∃ w, q_v ads v w ∧ w.category = 1 ∧ (k + i, w) ∈ lv_args k ws
  | [], _, _, _, _, _, _, h => by simp at h
  | _ :: _, _, k, ho, ⟨w, r, e, h1, h2⟩, i, v, h => by
    subst e
    have hc1 : w.category = 1 := h1.cat.trans (q_one_c ho).1
    have hc : ¬ w.category = 2 := by rw [hc1]; decide
    cases i with
    | zero =>
      rw [List.getElem?_cons_zero] at h
      cases h
      exact ⟨w, h1, hc1, by unfold lv_args; exact List.mem_cons_self⟩
    | succ i =>
      rw [List.getElem?_cons_succ] at h
      obtain ⟨w2, q1, q3, q2⟩ := q_args (k + 1) (q_one_c ho).2 h2 h
      refine ⟨w2, q1, q3, ?_⟩
      unfold lv_args
      rw [if_neg hc]
      rw [show k + (i + 1) = k + 1 + i by omega]
      exact List.mem_cons_of_mem _ q2
theorem q_L_entry {ads : List Nat} {M : q_M} {vs ws : List Value} (ho : q_one vs = true) (h : q_vs ads vs ws) (hn : vs.length ≤ q_nL M) : q_L ads (q_nL M) (q_L0 M vs) ((lg_sl ws ++ List.replicate (q_nL M - (lg_sl ws).length) Slot.unset).toArray) := by
  have hl : (lg_sl ws).length ≤ q_nL M := by rw [q_sl ho h, List.length_map, h.len]; exact hn
  have hh := lv_entry ws hl
  refine ⟨hh.1, hh.2.1, fun i v hv => ?_⟩
  unfold q_L0 at hv
  by_cases hi : i < vs.length
  · rw [List.getElem?_append_left hi] at hv
    obtain ⟨w, h1, h3, h2⟩ := q_args 0 ho h hv
    rw [Nat.zero_add] at h2
    exact Or.inr ⟨w, h1, h3, hh.2.2 (i, w) h2⟩
  · rw [List.getElem?_append_right (by omega), List.getElem?_replicate] at hv
    split at hv
    · exact Or.inl ⟨0, (Option.some.inj hv).symm⟩
    · cases hv
/-- the code of a method, as the tables have it -/
def q_code (M : q_M) (s : State) (mk : MethodId) : Prop := ∃ (methk : Method) (ck : Code), s.vm.method? mk = some methk ∧ methk.code = some ck ∧ ck.code = q_cc M ∧ ck.maxLocals = q_nL M ∧ methk.sig.returnType = q_rt M ∧ methk.locks = false ∧ ck.exceptionTable.toList.map (fun x => (x.startPc, x.endPc, x.handlerPc, x.catchType)) = q_hs M ∧ parseMethodDescriptor (q_nm M).desc = some methk.sig
theorem q_code_of {M : q_M} {s : State} {mk : MethodId} {a : Array Value} (hn : s.methodNamed? (q_nm M) = some mk) (hh : q_hs M = []) (h : (Cond.code (q_nm M) (q_cc M) (q_nL M) (q_rt M)).before a s = true) : q_code M s mk := by
  obtain ⟨methk, ck, h1, h2, h3, h4, h5, h6, h7, h8⟩ := Cond.code_spec hn h
  refine ⟨methk, ck, h1, h2, h3, h4, h5, h6, ?_, h8⟩
  rw [hh]
  have : ck.exceptionTable = #[] := by simpa using h7
  rw [this]
  rfl
/-- the class that a catch type of the law's pool names -/
def q_ct (t : Nat) : Option Nat := if t = 13 then some 0 else if t = 15 then some 1 else none
/-- the handler of a throw of the kind x at pc -/
def q_hfl (pc x : Nat) : List (Nat × Nat × Nat × Nat) → Option Nat
  | [] => none
  | r :: rs => if r.1 ≤ pc ∧ pc < r.2.1 then (if q_ct r.2.2.2 = some x then some r.2.2.1 else q_hfl pc x rs) else q_hfl pc x rs
def q_hf (M : q_M) (pc x : Nat) : Option Nat := q_hfl pc x (q_hs M)
/-- where a throw of the kind x at pc goes in the method M -/
def q_Th (Sc : q_S) (M : q_M) (pc : Nat) (L : List Value) (h : q_H) (n kc ks : Nat) (Q : q_O → q_H → Nat → Prop) (x : Nat) : Prop :=
  match q_hf M pc x with
  | none => (∀ r ∈ q_hs M, ¬ (r.1 ≤ pc ∧ pc < r.2.1)) ∧ Q (.inr x) h n
  | some hpc => (∀ r ∈ q_hs M, (q_ct r.2.2.2).isSome = true) ∧ q_own M = "GroupFiltersLaw" ∧ q_A Sc M hpc L [.float 0] h n kc ks Q
abbrev q_row (x : ExceptionTableEntry) : Nat × Nat × Nat × Nat := (x.startPc, x.endPc, x.handlerPc, x.catchType)
/-- one row of a table, its class cold or warm: taken or passed -/
theorem q_go_row {e : Env} {d : Bool} {acts : List Action} {S : State} {f : JFrame} {a : Addr} {Q : Handler → Pre} {E : CtlPost} {x : ExceptionTableEntry} {t : List ExceptionTableEntry} {c : ClassId} {cell : Cell} (hx : covers x f.pc = true) (h0 : x.catchType ≠ 0)
    (hl : S.vm.ClassLinks e.platform f.method.cls x.catchType c) (hcell : S.heap[a]? = some cell) (hobj : ∀ k, cell.vm ≠ .statics k) (hk : ∃ k, S.vm.classes[cell.cls]? = some k) (hc : ∃ k, S.vm.classes[c]? = some k) :
    wp (findHandler.go f a (x :: t)) Q E e d acts S ↔ (if S.vm.assignable cell.cls c = true then Q (.found x.handlerPc) d acts (S.setVm (S.vm.noted f.method.cls x.catchType (.cls c))) else wp (findHandler.go f a t) Q E e d acts (S.setVm (S.vm.noted f.method.cls x.catchType (.cls c)))) := by
  simp only [covers] at hx
  obtain ⟨ha, ht⟩ := (resolveClass_links e.toSetting hl).op (op := VmOp.resolveClass f.method.cls x.catchType) rfl
  have hal : S.vm.Alike (S.vm.noted f.method.cls x.catchType (.cls c)) := (Vm.Alike.refl S.vm).noted _ _ _
  obtain ⟨k1, hk1⟩ := hk
  obtain ⟨k2, hk2⟩ := hc
  obtain ⟨k1', hk1', -⟩ := hal.2.2 _ _ hk1
  obtain ⟨k2', hk2', -⟩ := hal.2.2 _ _ hk2
  have hfe := hal.assignable cell.cls c
  cases hfit : S.vm.assignable cell.cls c <;> rw [hfit] at hfe <;>
    simp [findHandler.go, hx, h0, ha, ht, hcell, hobj, hk1', hk2', hfe, VmOp.dirties, VmOp.acts]
/-- the whole search, rows with cold or warm classes -/
theorem q_go {e : Env} {s : State} {f : JFrame} {a : Addr} {cell : Cell} (hobj : ∀ k, cell.vm ≠ .statics k) {k0 : Class} (hk0 : s.vm.classes[cell.cls]? = some k0) {x : Nat}
    (hcs : ∀ t y, q_ct t = some y → ∃ c, s.vm.ClassLinks e.platform f.method.cls t c ∧ s.vm.assignable cell.cls c = decide (y = x)) :
    ∀ (es : List ExceptionTableEntry) (S : State), s.WarmedH S.vm → S.heap[a]? = some cell → (∀ z ∈ es, (q_ct z.catchType).isSome = true) →
      ∃ vm', s.WarmedH vm' ∧ ∀ (Q : Handler → Pre) (E : CtlPost) (d : Bool) (acts : List Action), wp (findHandler.go f a es) Q E e d acts S ↔ Q (match q_hfl f.pc x (es.map q_row) with | none => .none | some hp => .found hp) d acts (S.setVm vm') := by
  intro es
  induction es with
  | nil =>
    intro S hW hcell _
    exact ⟨S.vm, hW, fun Q E d acts => by rw [W.findHandler_go_nil]; rfl⟩
  | cons z zs ih =>
    intro S hW hcell hall
    have hrest : ∀ y ∈ zs, (q_ct y.catchType).isSome = true := fun y hy => hall y (List.mem_cons_of_mem _ hy)
    by_cases hcov : covers z f.pc = true
    · have hcov2 : z.startPc ≤ f.pc ∧ f.pc < z.endPc := by simpa [covers] using hcov
      obtain ⟨y, hy⟩ := Option.isSome_iff_exists.mp (hall z List.mem_cons_self)
      have h0 : z.catchType ≠ 0 := fun q => by rw [q] at hy; simp [q_ct] at hy
      obtain ⟨c, hl, hfit⟩ := hcs _ _ hy
      obtain ⟨dk, _, _, kt, hd, _, _, _, _, hkt, _, hopen⟩ := hl.here
      obtain ⟨kt', hkt', -⟩ := hW.alike.2.2 _ _ hkt
      obtain ⟨k0', hk0', -⟩ := hW.alike.2.2 _ _ hk0
      have hW2 : s.WarmedH (S.vm.noted f.method.cls z.catchType (.cls c)) := hW.noted hd hopen (State.rightAt_cls hl)
      have hfit2 : S.vm.assignable cell.cls c = decide (y = x) := by rw [hW.alike.assignable]; exact hfit
      by_cases hyx : y = x
      · refine ⟨_, hW2, fun Q E d acts => ?_⟩
        rw [q_go_row hcov h0 (hW.classLinks hl) hcell hobj ⟨k0', hk0'⟩ ⟨kt', hkt'⟩, hfit2, decide_eq_true hyx, if_pos rfl]
        have he : q_hfl f.pc x ((z :: zs).map q_row) = some z.handlerPc := by
          rw [List.map_cons, q_hfl, if_pos hcov2, if_pos (by rw [hy, hyx])]
        rw [he]
      · obtain ⟨vm', hW', hq⟩ := ih (S.setVm (S.vm.noted f.method.cls z.catchType (.cls c))) hW2 hcell hrest
        refine ⟨vm', hW', fun Q E d acts => ?_⟩
        rw [q_go_row hcov h0 (hW.classLinks hl) hcell hobj ⟨k0', hk0'⟩ ⟨kt', hkt'⟩, hfit2, decide_eq_false hyx, if_neg (by decide), hq]
        have he : q_hfl f.pc x ((z :: zs).map q_row) = q_hfl f.pc x (zs.map q_row) := by
          rw [List.map_cons, q_hfl, if_pos hcov2, if_neg (by rw [hy]; exact fun q => hyx (Option.some.inj q))]
        rw [he]
        exact Iff.rfl
    · obtain ⟨vm', hW', hq⟩ := ih S hW hcell hrest
      refine ⟨vm', hW', fun Q E d acts => ?_⟩
      rw [W.findHandler_go_skip (by simpa using hcov), hq]
      have he : q_hfl f.pc x ((z :: zs).map q_row) = q_hfl f.pc x (zs.map q_row) := by
        rw [List.map_cons, q_hfl, if_neg (by simpa [covers] using hcov)]
      rw [he]
end
section
theorem q_w13 : q_in (Cond.classLink "GroupFiltersLaw" 13 "java/lang/IndexOutOfBoundsException") := q_in_at 225 (by decide +kernel) rfl
theorem q_w15 : q_in (Cond.classLink "GroupFiltersLaw" 15 "java/lang/IllegalArgumentException") := q_in_at 226 (by decide +kernel) rfl
theorem q_wc0 : q_in (Cond.castable "java/lang/IndexOutOfBoundsException" "java/lang/IndexOutOfBoundsException") := q_in_at 236 (by decide +kernel) rfl
theorem q_wc1 : q_in (Cond.castable "java/lang/IllegalArgumentException" "java/lang/IllegalArgumentException") := q_in_at 306 (by decide +kernel) rfl
theorem q_caught {tb : Tables} {e : Env} {s target : State} {g : JFrame} {c : Code} {below : List Frame} {a : Addr} (h : At s g.method c below) {pc : Nat} {vm' : Vm}
    (hfind : ∀ (Q : Handler → Pre) (E : CtlPost) (d : Bool) (acts : List Action), wp (findHandler g a) Q E e d acts ((s.setTop g).pushFrame (.throwing a)) ↔ Q (.found pc) d acts (((s.setTop g).pushFrame (.throwing a)).setVm vm'))
    (hrest : Steps tb e below ((s.setVm vm').setTop { g with pc := pc, stack := [.ref a] }) target) : Steps tb e below ((s.setTop g).pushFrame (.throwing a)) target := by
  obtain ⟨hgo, hw⟩ := h.throwing a
  refine Steps.head hgo hw ?_
  have hst : ∀ r : List Frame, (stepThrowing e ((s.setTop g).pushFrame (.throwing a)) a (.java g :: r)).Is ((((s.setTop g).pushFrame (.throwing a)).setVm vm').setFrames (.java { g with pc := pc, stack := [.ref a] } :: r)) [] := by
    intro r
    simp only [stepThrowing, searchFrame, vmDo]
    generalize hr : Sem.go _ e false [] ((s.setTop g).pushFrame (.throwing a)) = res
    obtain ⟨as, rfl, ha⟩ := Sem.eq_ok_of hr (a := Handler.found pc) (s' := ((s.setTop g).pushFrame (.throwing a)).setVm vm') (acts' := []) (by simp [hfind _ _ _ _])
    exact ⟨rfl, ha⟩
  rw [stepThread_throwing (frames_entered h.top _), (hst _).1]
  obtain ⟨g₀, hg⟩ := Option.isSome_iff_exists.mp h.top
  obtain ⟨r, hr⟩ := State.topJava?_eq_some.mp hg
  have hr' : (s.setVm vm').frames = .java g₀ :: r := hr
  rw [State.setTop_of_frames _ hr'] at hrest
  have hc : ∀ (u : State) (F G : List Frame), ((u.setFrames F).setVm vm').setFrames G = (u.setVm vm').setFrames G := fun u F G => by
    show (((u.setVm vm').setFrames F)).setFrames G = _
    rw [State.setFrames_setFrames]
  rw [hr, List.tail_cons, State.pushFrame, hc, State.setTop_of_frames _ hr, hc]
  exact hrest
section QTH
variable {Sc : q_S} {sb : Nat} {M : q_M} {pc : Nat} {L : List Value} {h : q_H} {n kc ks : Nat} {Q : q_O → q_H → Nat → Prop}
variable {D : va_G} {dT : Nat → ClassId} {H0 : Heap} {p : Program} {l : Launch} {e : Env} {R : Room} {s : State} {m : MethodId} {args : Array Value} {below : List Frame} {meth : Method} {c : Code} {locs : List Loc} {cells slots : Nat} {ls : Array Slot} {ws : va_W} {ads0 : List Nat} {kc' ks' : Nat} {T : State}
theorem q_thrown (hF : q_F Sc M D dT H0 sb p l R s m meth c) (hW : q_W D dT H0 s h n sb ws T.heap locs) (hL : q_L (q_ads sb ws) (q_nL M) L ls) (ha : q_le ads0 (q_ads sb ws)) (g6 : cells + kc ≤ kc') (g7 : slots + ks ≤ ks') (g8 : kc' ≤ R.cells) (g9 : ks' ≤ R.slots)
    (X : Stand p l e R s m args below meth c T locs cells slots) {st : List Value} {x : Nat} {xa : Addr} {cell : Cell} {Xn : String} (e1 : q_ex[x]? = some Xn) (e3 : T.heap[xa]? = some cell) (e4 : T.vm.findClass Xn = some cell.cls) (e5 : cell.vm = .none)
    (k : q_Th Sc M pc L h n kc ks Q x) : ∃ t, Steps p.tables e below ((T.setTop (F0 m pc ls st)).pushFrame (.throwing xa)) t ∧ q_End D dT H0 s below sb ads0 kc' ks' Q t := by
  have hF0 := hF
  obtain ⟨f1, f2, f3, f4, f5, f6, f7, f8, f9, f10, f11, f12, f13, f14, f15, f16, f17⟩ := hF
  unfold q_Th at k
  split at k
  · obtain ⟨hout, hQ⟩ := k
    have hout' : ∀ y ∈ c.exceptionTable.toList, covers y pc = false := fun y hy => by
      have h1 : q_row y ∈ q_hs M := by rw [← f11]; exact List.mem_map.mpr ⟨y, hy, rfl⟩
      have h2 := hout _ h1
      simpa [covers] using h2
    obtain ⟨st1, hrun, hend, hWm, hsm⟩ := X.leaveThrown xa (g := F0 m pc ls st) rfl rfl rfl hout' f5
    exact ⟨_, st1, .threw xa, locs, h, n, ws, .inr x, hrun, hend, hWm, hsm.mono (by omega) (by omega), hQ, hW, ha, ⟨xa, cell, Xn, e1, rfl, e3, e4, e5⟩⟩
  · rename_i hpc hq
    obtain ⟨hall, hown, kA⟩ := k
    have hpl : e.platform.magicAccessors = ({} : Platform).magicAccessors := by rw [X.admits.platform]
    have hown' : s.vm.findClass "GroupFiltersLaw" = some m.cls := by rw [← hown]; exact f6
    obtain ⟨c0, hc0, hl0⟩ := Cond.classLink_spec hown' (f7.at q_w13 args) e.platform hpl
    obtain ⟨c1, hc1, hl1⟩ := Cond.classLink_spec hown' (f7.at q_w15 args) e.platform hpl
    obtain ⟨u1, u2, hu1, hu2, hu3⟩ := Cond.castable_spec (f7.at q_wc0 args)
    obtain ⟨v1, v2, hv1, hv2, hv3⟩ := Cond.castable_spec (f7.at q_wc1 args)
    obtain ⟨-, -, -, -, -, ⟨a1, a2, ha1, ha2, ha3⟩, ⟨b1, b2, hb1, hb2, hb3⟩⟩ := f15
    have e4' : s.vm.findClass Xn = some cell.cls := by rw [← X.warmed.alike.findClass]; exact e4
    obtain ⟨k0, hk0, -⟩ := Vm.findClass_spec e4'
    have hx2 : (x = 0 ∧ Xn = "java/lang/IndexOutOfBoundsException") ∨ (x = 1 ∧ Xn = "java/lang/IllegalArgumentException") := by
      match x, e1 with
      | 0, e1 => exact Or.inl ⟨rfl, (Option.some.inj e1).symm⟩
      | 1, e1 => exact Or.inr ⟨rfl, (Option.some.inj e1).symm⟩
      | k + 2, e1 => simp [q_ex] at e1
    have hcs : ∀ t y, q_ct t = some y → ∃ c, s.vm.ClassLinks e.platform (F0 m pc ls st).method.cls t c ∧ s.vm.assignable cell.cls c = decide (y = x) := by
      intro t y hty
      unfold q_ct at hty
      split at hty
      · rename_i ht
        subst ht
        cases hty
        refine ⟨c0, hl0, ?_⟩
        rcases hx2 with ⟨rfl, rfl⟩ | ⟨rfl, rfl⟩
        · cases hu1.symm.trans e4'
          cases hu2.symm.trans hc0
          exact hu3
        · cases ha1.symm.trans e4'
          cases ha2.symm.trans hc0
          exact ha3
      · split at hty
        · rename_i ht
          subst ht
          cases hty
          refine ⟨c1, hl1, ?_⟩
          rcases hx2 with ⟨rfl, rfl⟩ | ⟨rfl, rfl⟩
          · cases hb1.symm.trans e4'
            cases hb2.symm.trans hc1
            exact hb3
          · cases hv1.symm.trans e4'
            cases hv2.symm.trans hc1
            exact hv3
        · cases hty
    obtain ⟨vm', hWv, hgo⟩ := q_go (e := e) (s := s) (f := F0 m pc ls st) (a := xa) (cell := cell) (fun k q => by rw [e5] at q; cases q) hk0 (x := x) hcs c.exceptionTable.toList ((T.setTop (F0 m pc ls st)).pushFrame (.throwing xa)) X.warmed e3
      (fun z hz => hall (q_row z) (by rw [← f11]; exact List.mem_map.mpr ⟨z, hz, rfl⟩))
    have hq' : q_hfl pc x (c.exceptionTable.toList.map q_row) = some hpc := by
      rw [show c.exceptionTable.toList.map q_row = q_hs M from f11]
      exact hq
    obtain ⟨t, a1', a2'⟩ := kA D dT H0 p l e R s m args below meth c T.heap locs cells slots ls [.ref xa] sb ws ads0 kc' ks' ⟨hF0, hW, hL, ⟨_, _, rfl, ⟨xa, rfl, fun q => absurd q (by decide)⟩, rfl⟩, ha, g6, g7, g8, g9⟩ (T.setVm vm') rfl (X.noted hWv)
    refine ⟨t, q_caught (g := F0 m pc ls st) (pc := hpc) (vm' := vm') X.here (fun Q' E d acts => ?_) a1', a2'⟩
    rw [W.findHandler_eq (s := (T.setTop (F0 m pc ls st)).pushFrame (.throwing xa)) (f := F0 m pc ls st) (meth := meth) (code := c) X.method' X.code, hgo]
    show Q' (match q_hfl pc x (c.exceptionTable.toList.map q_row) with | none => .none | some hp => .found hp) d acts _ ↔ _
    rw [hq']
end QTH
section QCORE
variable {Sc : q_S} {sb : Nat} {M M' : q_M} {pc : Nat} {L rest vs : List Value} {h : q_H} {n kc ks kc1 ks1 : Nat} {Q P : q_O → q_H → Nat → Prop}
variable {D : va_G} {dT : Nat → ClassId} {H0 : Heap} {p : Program} {l : Launch} {e : Env} {R : Room} {s : State} {m : MethodId} {args : Array Value} {below : List Frame} {meth : Method} {c : Code} {H : Heap} {locs : List Loc} {cells slots : Nat} {ls : Array Slot} {rest' as' st' : List Value} {ws : va_W} {ads0 : List Nat} {kc' ks' : Nat}
theorem q_core (hG : q_G Sc M L rest h n kc ks D dT H0 p l R s m meth c H locs cells slots ls rest' sb ws ads0 kc' ks') (hvs : q_vs (q_ads sb ws) vs as')
    (hB : q_A Sc M' 0 (q_L0 M' vs) [] h n kc1 ks1 P) (hk1 : kc1 ≤ kc) (hk2 : ks1 ≤ ks) (hfr : q_fr M' + 1 ≤ q_fr M) (hlo : (rest.map fun v => v.category).sum + (q_nL M' + 11) + q_lo M' ≤ q_lo M) (hnl : vs.length ≤ q_nL M') (hone : q_one vs = true)
    {ig : Instr} (hdg : decode (q_cc M) pc = .ok (ig, 3)) {T : State} (hT : T.heap = H) {mk : MethodId} {vm₁ : Vm} (X : Stand p l e R s m args below meth c T locs cells slots) (X₁ : Stand p l e R s m args below meth c (T.setVm vm₁) locs cells slots)
    (hstep : ∀ target, (∀ acts, Steps p.tables e below (doInvoke e ((T.setVm vm₁).setTop (F0 m pc ls rest')) acts mk as'.toArray).1 target) → Steps p.tables e below (T.setTop (F0 m pc ls st')) target)
    (hnamed : s.methodNamed? (q_nm M') = some mk) (hcd : q_code M' s mk) (hpl : plainFor (q_nm M') = true) (hownM : (q_nm M').cls = q_own M')
    (k1 : ∀ v h' n', P (.inl v) h' n' → q_A Sc M (pc + 3) L (v.toList ++ rest) h' n' (kc - kc1) (ks - ks1) Q)
    (k2 : ∀ x h' n', P (.inr x) h' n' → q_Th Sc M pc L h' n' (kc - kc1) (ks - ks1) Q x) :
    ∃ t, Steps p.tables e below (T.setTop (F0 m pc ls st')) t ∧ q_End D dT H0 s below sb ads0 kc' ks' Q t := by
  obtain ⟨hF, hW, hL, hS, ha, g6, g7, g8, g9⟩ := hG
  obtain ⟨methk, ck, hmk, hck, hcb, hml, hrt, hlk, hex, hsg⟩ := hcd
  obtain ⟨f1, f2, f3, f4, f5, f6, f7, f8, f9, f10, f11, f12, f13, f14, f15, f16, f17⟩ := hF
  have hmk1 : (T.setVm vm₁).vm.method? mk = some methk := by rw [X₁.warmed.alike.method?]; exact hmk
  have hnm1 : (T.setVm vm₁).methodNamed? (q_nm M') = some mk := X₁.named hnamed
  have hpk : (T.setVm vm₁).plainMethod mk := State.plainMethod.of_named hpl hnm1 hmk1
  have hsum : (rest'.map fun v => v.category).sum = (rest.map fun v => v.category).sum := hS.sum
  obtain ⟨Y₀, hin⟩ := X₁.into (g := F0 m pc ls rest') rfl (by show ls.size = _; rw [hL.1, f3]) (by rw [f2]; exact hdg) as'.toArray (R' := { frames := q_fr M', cells := kc1, slots := ks1, locals := q_lo M' }) hmk1 hck hlk hpk
    (by show q_fr M' + 1 ≤ R.frames; omega) (by show 2 * 0 + (rest'.map fun v => v.category).sum + (ck.maxLocals + 11) + q_lo M' ≤ R.locals; rw [hsum, hml]; omega) (by show cells + kc1 ≤ R.cells; omega) (by show slots + ks1 ≤ R.slots; omega)
  rw [hml] at Y₀ hin
  generalize hU : ((T.setVm vm₁).setTop (F0 m pc ls rest')).pushFrame (.java (entryFrame mk as'.toArray (q_nL M'))) = U at Y₀ hin
  have hUh : U.heap = H := by rw [← hU, ← hT]; simp [State.pushFrame, State.setFrames, State.setTop, State.modifyTopJava]
  generalize hs' : (T.setVm vm₁).calling (F0 m pc ls rest') mk as'.toArray = s' at Y₀
  have hs'h : s'.heap = H := by rw [← hs', ← hT]; rfl
  have hs'v : s'.vm = vm₁ := by rw [← hs']; rfl
  have hsW : s.WarmedH s'.vm := by rw [hs'v]; exact X₁.warmed
  have hF' : q_F Sc M' D dT H0 sb p l { frames := q_fr M', cells := kc1, slots := ks1, locals := q_lo M' } s' mk methk ck := by
    refine ⟨f1, hcb, hml, hrt, hlk, ?_, q_T.moved hsW f7, va_K.moved hsW.alike f8, Nat.le_refl _, Nat.le_refl _, hex, ?_, ?_, ?_, q_X.moved hsW f15, f16, va_X.moved hsW.alike f17⟩
    · rw [hsW.alike.findClass, ← hownM]
      exact findClass_of_methodNamed hnamed
    · exact (name_of_methodNamed hnamed hmk).1
    · rw [hs'h]; exact Nat.le_trans f13 hW.2.2.2.2.1
    · intro q hq
      rw [hs'h, hW.2.2.2.2.2.1 q (Nat.lt_of_lt_of_le hq f13) (fun z => absurd z (Nat.not_le.mpr hq))]
      exact f14 q hq
  have hZ : ∀ (k : Nat) (q : Nat × va_E), ws[k]? = some q → q_Z H0 s' q.1 := fun k q hk => hW.2.2.2.1.2 k q hk
  have hW' : q_W D dT H0 s' h n sb ws H [] := ⟨hW.1, hW.2.1, hW.2.2.1, ⟨hW.2.2.2.1.1, hZ⟩, by rw [hs'h]; exact va_S.rf⟩
  have hent := lg_entry_eq mk as' (q_nL M')
  obtain ⟨t, hsteps, o, L1, h1, n1, ws1, O, b1, b2, b3, b4, b5, b6, b7, b8⟩ := hB D dT H0 p l e _ s' mk as'.toArray (.java (F0 m pc ls rest') :: below) methk ck H [] 0 0 _ [] sb ws (q_ads sb ws) kc1 ks1 ⟨hF', hW', q_L_entry hone hvs hnl, rfl, q_le.rf, by omega, by omega, Nat.le_refl _, Nat.le_refl _⟩ U hUh Y₀
  have hsteps2 : ∀ acts, Steps p.tables e below (doInvoke e ((T.setVm vm₁).setTop (F0 m pc ls rest')) acts mk as'.toArray).1 t := fun acts => by
    rw [hin acts, hent]
    exact Steps.weaken (mid := [.java (F0 m pc ls rest')]) hsteps
  have hZ2 : ∀ q, q_Z H0 s' q → q_Z H0 s q := fun q hq => hq
  have hW1 : q_W D dT H0 s h1 n1 sb ws1 t.heap (locs ++ L1) := by
    refine ⟨b6.1, b6.2.1, b6.2.2.1, ⟨b6.2.2.2.1.1, fun k q hk => hZ2 _ (b6.2.2.2.1.2 k q hk)⟩, ?_, fun q hq hn => ?_, fun q hq => ?_⟩
    · exact Nat.le_trans hW.2.2.2.2.1 (by rw [← hs'h]; exact b6.2.2.2.2.1)
    · rw [b6.2.2.2.2.2.1 q (by rw [hs'h]; exact Nat.lt_of_lt_of_le hq hW.2.2.2.2.1) (fun z => hn (hZ2 q z)), hs'h]
      exact hW.2.2.2.2.2.1 q hq hn
    · rcases List.mem_append.mp hq with z | z
      · exact hW.2.2.2.2.2.2 q z
      · exact hZ2 _ (b6.2.2.2.2.2.2 q z)
  subst hs'
  rcases O with v | x
  · have hv : ∃ v', o = .returned v' ∧ q_vs (q_ads sb ws1) v.toList v'.toList := by
      cases v with
      | none => exact ⟨none, b8, rfl⟩
      | some v =>
        obtain ⟨w, q1, q2⟩ := b8
        exact ⟨some w, q1, ⟨w, [], rfl, q2, rfl⟩⟩
    obtain ⟨v', rfl, hv'⟩ := hv
    obtain ⟨T', X', -, -, ht⟩ := X₁.outOf (g := F0 m pc ls rest') rfl (by rw [f2]; exact hdg) b2 b3 b4
    have hT' : T'.heap = t.heap := by rw [ht]; rfl
    obtain ⟨t2, a1, a2⟩ := k1 v h1 n1 b5 D dT H0 p l e R s m args below meth c t.heap (locs ++ L1) (cells + kc1) (slots + ks1) ls (v'.toList ++ rest') sb ws1 ads0 kc' ks'
      ⟨⟨f1, f2, f3, f4, f5, f6, f7, f8, f9, f10, f11, f12, f13, f14, f15, f16, f17⟩, hW1, hL.mono b7, hv'.app (hS.mono b7), ha.tr b7, by omega, by omega, g8, g9⟩ T' hT' X'
    refine ⟨t2, (hstep t hsteps2).trans ?_, a2⟩
    rw [ht]
    exact a1
  · obtain ⟨xa, cell, Xn, e1, rfl, e3, e4, e5⟩ := b8
    obtain ⟨T', X', -, -, ht⟩ := X₁.outOfThrown (g := F0 m pc ls rest') rfl b2 b3 b4
    have hT' : T'.heap = t.heap := by rw [ht]; simp [State.pushFrame, State.setFrames, State.setTop, State.modifyTopJava]
    have hTv : T'.vm = t.vm := by rw [ht]; simp [State.pushFrame, State.setFrames, State.setTop, State.modifyTopJava]
    obtain ⟨t2, a1, a2⟩ := q_thrown ⟨f1, f2, f3, f4, f5, f6, f7, f8, f9, f10, f11, f12, f13, f14, f15, f16, f17⟩ (hT' ▸ hW1) (hL.mono b7) (ha.tr b7) (by omega) (by omega) g8 g9 X' (st := rest') e1 (by rw [hT']; exact e3) (by rw [hTv]; exact e4) e5 (k2 x h1 n1 b5)
    refine ⟨t2, (hstep t hsteps2).trans ?_, a2⟩
    rw [ht]
    exact a1
end QCORE
end
section
/-- a method's code word -/
def q_inC (M : q_M) : Prop := (q_hs M = [] ∧ q_in (Cond.code (q_nm M) (q_cc M) (q_nL M) (q_rt M))) ∨ q_in (Cond.codeWith (q_nm M) (q_cc M) (q_nL M) (q_rt M) (q_hs M))
def q_mok (M : q_M) (k : Nat) : Prop := plainFor (q_nm M) = true ∧ (q_nm M).cls = q_own M ∧ ((q_nm M).cls ≠ "java/lang/invoke/MethodHandle" ∧ (q_nm M).cls ≠ "java/lang/invoke/VarHandle") ∧ (parseMethodDescriptor (q_nm M).desc).map (fun d => d.parameters.length) = some k
theorem q_code_at {M : q_M} {s : State} (hT : q_T s) (h : q_inC M) : ∃ mk, s.methodNamed? (q_nm M) = some mk ∧ q_code M s mk := by
  rcases h with ⟨hh, h⟩ | h
  · have hc := hT.at h #[]
    obtain ⟨mk, hn⟩ := Cond.code_named hc
    exact ⟨mk, hn, q_code_of hn hh hc⟩
  · obtain ⟨mk, meth, c, hn, h1, h2, h3, h4, h5, h6, h7, h8⟩ := Cond.codeWith_spec (hT.at h #[])
    exact ⟨mk, hn, meth, c, h1, h2, h3, h4, h6, h7, h5, h8⟩
theorem q_plen {M : q_M} {k : Nat} (h : q_mok M k) {sig : MethodDescriptor} (hs : parseMethodDescriptor (q_nm M).desc = some sig) : k = sig.parameters.length := by
  have h2 := h.2.2.2
  rw [hs] at h2
  exact (Option.some.inj h2).symm
section QCALL
variable {Sc : q_S} {M M' : q_M} {pc : Nat} {L st : List Value} {h : q_H} {n kc ks kc1 ks1 : Nat} {Q P : q_O → q_H → Nat → Prop}
theorem q_callS {ix : Nat} (vs rest : List Value) (hd : decode (q_cc M) pc = .ok (.invokestatic ix, 3)) (hw1 : q_in (Cond.methodLink (q_own M) ix (q_nm M'))) (hw2 : q_in (Cond.static (q_nm M'))) (hw3 : q_in (Cond.initialized (q_nm M').cls)) (hcd : q_inC M') (hok : q_mok M' vs.length) (hst : st = vs.reverse ++ rest)
    (hB : q_A Sc M' 0 (q_L0 M' vs) [] h n kc1 ks1 P) (hk1 : kc1 ≤ kc) (hk2 : ks1 ≤ ks) (hfr : q_fr M' + 1 ≤ q_fr M) (hlo : (rest.map fun v => v.category).sum + (q_nL M' + 11) + q_lo M' ≤ q_lo M) (hnl : vs.length ≤ q_nL M') (hone : q_one vs = true)
    (k1 : ∀ v h' n', P (.inl v) h' n' → q_A Sc M (pc + 3) L (v.toList ++ rest) h' n' (kc - kc1) (ks - ks1) Q)
    (k2 : ∀ x h' n', P (.inr x) h' n' → q_Th Sc M pc L h' n' (kc - kc1) (ks - ks1) Q x) : q_A Sc M pc L st h n kc ks Q := by
  intro D dT H0 p l e R s m args below meth c H locs cells slots ls st' sb ws ads0 kc' ks' g T hT X
  obtain ⟨hF, hW, hL, hS, hr⟩ := g
  subst hst
  obtain ⟨as', rest', rfl, h1, h2⟩ := hS.split
  have hvs : q_vs (q_ads sb ws) vs as'.reverse := by
    have := h1.rev
    rwa [List.reverse_reverse] at this
  have hTb := hF.2.2.2.2.2.2.1
  obtain ⟨mk, hn, hcode⟩ := q_code_at hTb hcd
  obtain ⟨methM, cM, hmM, q2, q3, q4, q5, q6, q7, hsig⟩ := id hcode
  have hstatic : methM.isStatic = true := Cond.static_spec hn hmM (hTb.at hw2 args)
  obtain ⟨kP, hkP, -⟩ := className_of_methodNamed hn
  have hinitP : kP.init = .initialized := Cond.initialized_spec (findClass_of_methodNamed hn) hkP (hTb.at hw3 args)
  obtain ⟨vm₁, X₁, hstep₁⟩ := X.invokestatic hF.1 hF.2.2.2.2.2.1 (hTb.at hw1 args) hn hmM hstatic hkP hinitP hok.2.2.1 (g := F0 m pc ls (as' ++ rest')) rfl (argsL := as'.reverse) (rest := rest') (by rw [hvs.len]; exact q_plen hok hsig) (by rw [List.reverse_reverse]) (by rw [hF.2.1]; exact hd)
  exact q_core ⟨hF, hW, hL, h2, hr⟩ hvs hB hk1 hk2 hfr hlo hnl hone hd hT X X₁ hstep₁ hn hcode hok.1 hok.2.1 k1 k2
theorem q_callSN {ix : Nat} {host : String} (vs rest : List Value) (hd : decode (q_cc M) pc = .ok (.invokestatic ix, 3)) (hw1 : q_in (Cond.methodLinkNest (q_own M) ix (q_nm M') host)) (hw2 : q_in (Cond.static (q_nm M'))) (hw3 : q_in (Cond.initialized (q_nm M').cls)) (hcd : q_inC M') (hok : q_mok M' vs.length) (hst : st = vs.reverse ++ rest)
    (hB : q_A Sc M' 0 (q_L0 M' vs) [] h n kc1 ks1 P) (hk1 : kc1 ≤ kc) (hk2 : ks1 ≤ ks) (hfr : q_fr M' + 1 ≤ q_fr M) (hlo : (rest.map fun v => v.category).sum + (q_nL M' + 11) + q_lo M' ≤ q_lo M) (hnl : vs.length ≤ q_nL M') (hone : q_one vs = true)
    (k1 : ∀ v h' n', P (.inl v) h' n' → q_A Sc M (pc + 3) L (v.toList ++ rest) h' n' (kc - kc1) (ks - ks1) Q)
    (k2 : ∀ x h' n', P (.inr x) h' n' → q_Th Sc M pc L h' n' (kc - kc1) (ks - ks1) Q x) : q_A Sc M pc L st h n kc ks Q := by
  intro D dT H0 p l e R s m args below meth c H locs cells slots ls st' sb ws ads0 kc' ks' g T hT X
  obtain ⟨hF, hW, hL, hS, hr⟩ := g
  subst hst
  obtain ⟨as', rest', rfl, h1, h2⟩ := hS.split
  have hvs : q_vs (q_ads sb ws) vs as'.reverse := by
    have := h1.rev
    rwa [List.reverse_reverse] at this
  have hTb := hF.2.2.2.2.2.2.1
  obtain ⟨mk, hn, hcode⟩ := q_code_at hTb hcd
  obtain ⟨methM, cM, hmM, q2, q3, q4, q5, q6, q7, hsig⟩ := id hcode
  have hstatic : methM.isStatic = true := Cond.static_spec hn hmM (hTb.at hw2 args)
  obtain ⟨kP, hkP, -⟩ := className_of_methodNamed hn
  have hinitP : kP.init = .initialized := Cond.initialized_spec (findClass_of_methodNamed hn) hkP (hTb.at hw3 args)
  obtain ⟨vm₁, X₁, hstep₁⟩ := X.invokestaticNest hF.1 hF.2.2.2.2.2.1 (hTb.at hw1 args) hn hmM hstatic hkP hinitP hok.2.2.1 (g := F0 m pc ls (as' ++ rest')) rfl (argsL := as'.reverse) (rest := rest') (by rw [hvs.len]; exact q_plen hok hsig) (by rw [List.reverse_reverse]) (by rw [hF.2.1]; exact hd)
  exact q_core ⟨hF, hW, hL, h2, hr⟩ hvs hB hk1 hk2 hfr hlo hnl hone hd hT X X₁ hstep₁ hn hcode hok.1 hok.2.1 k1 k2
theorem q_callV {ix i ci N : Nat} {C : String} {T0 : u_T} {ty : Nat → FieldType} {fs : List Value} (vs rest : List Value) (hC : q_cls ci C T0 N ty) (hd : decode (q_cc M) pc = .ok (.invokevirtual ix, 3)) (hw1 : q_in (Cond.methodLink (q_own M) ix (q_nm M'))) (hw2 : q_in (Cond.instanceMethod (q_nm M'))) (hw3 : q_in (Cond.selects C (q_nm M') (q_nm M'))) (hcd : q_inC M') (hok : q_mok M' vs.length) (hst : st = vs.reverse ++ .ref i :: rest) (hh : h i = .inl (ci, fs))
    (hB : q_A Sc M' 0 (q_L0 M' (.ref i :: vs)) [] h n kc1 ks1 P) (hk1 : kc1 ≤ kc) (hk2 : ks1 ≤ ks) (hfr : q_fr M' + 1 ≤ q_fr M) (hlo : (rest.map fun v => v.category).sum + (q_nL M' + 11) + q_lo M' ≤ q_lo M) (hnl : (Value.ref i :: vs).length ≤ q_nL M') (hone : q_one vs = true)
    (k1 : ∀ v h' n', P (.inl v) h' n' → q_A Sc M (pc + 3) L (v.toList ++ rest) h' n' (kc - kc1) (ks - ks1) Q)
    (k2 : ∀ x h' n', P (.inr x) h' n' → q_Th Sc M pc L h' n' (kc - kc1) (ks - ks1) Q x) : q_A Sc M pc L st h n kc ks Q := by
  intro D dT H0 p l e R s m args below meth c H locs cells slots ls st' sb ws ads0 kc' ks' g T hT X
  obtain ⟨hF, hW, hL, hS, hr⟩ := g
  subst hst
  obtain ⟨as', r9, rfl, h1, _, rest', rfl, ⟨b, hb, rfl⟩, h2⟩ := hS.split
  have hvs : q_vs (q_ads sb ws) vs as'.reverse := by
    have := h1.rev
    rwa [List.reverse_reverse] at this
  have hvs2 : q_vs (q_ads sb ws) (.ref i :: vs) (.ref b :: as'.reverse) := ⟨_, _, rfl, ⟨b, hb, rfl⟩, hvs⟩
  have hTb := hF.2.2.2.2.2.2.1
  obtain ⟨mk, hn, hcode⟩ := q_code_at hTb hcd
  obtain ⟨methM, cM, hmM, q2, q3, q4, q5, q6, q7, hsig⟩ := id hcode
  obtain ⟨mk2, meth2, hn2, hm2, hstM, habM⟩ := Cond.instanceMethod_spec (hTb.at hw2 args)
  cases hn.symm.trans hn2
  cases hmM.symm.trans hm2
  obtain ⟨hi, e0, h3, h4⟩ := hW.look hb
  rw [hh] at h4
  obtain ⟨gs, rfl, -⟩ := h4
  obtain ⟨cellB, hcB, hoB, hclB⟩ := va_recv hF.2.2.2.2.2.2.2.1 hW.2.2.1 hC.1 h3
  obtain ⟨c2, r2, m2, z1, z2, z3, z4, kP, hkP, hkPi⟩ := Cond.selects_spec (hTb.at hw3 args)
  cases hclB.symm.trans z1
  cases (State.methodFound?_of_named hn hok.2.2.1).symm.trans z2
  cases hn.symm.trans z3
  have hselP : selectMethod e.platform s.vm cellB.cls mk = .method mk := by rw [Launch.admits_selectMethod X.admits]; exact z4
  obtain ⟨vm₁, X₁, hstep₁⟩ := X.invokevirtual hF.1 hF.2.2.2.2.2.1 (hTb.at hw1 args) hn hmM hstM hkP hkPi hok.2.2.1 (a := b) (cell := cellB) (by rw [hT]; exact hcB)
    (fun z h => by rw [h] at hoB; cases hoB) hselP hmM habM hkP hkPi (g := F0 m pc ls (as' ++ .ref b :: rest')) rfl (argsL := as'.reverse) (rest := rest') (by rw [hvs.len]; exact q_plen hok hsig) (by rw [List.reverse_reverse]) (by rw [hF.2.1]; exact hd)
  have hone2 : q_one (.ref i :: vs) = true := by
    show (decide _ && q_one vs) = true
    rw [hone]; rfl
  exact q_core ⟨hF, hW, hL, h2, hr⟩ hvs2 hB hk1 hk2 hfr hlo hnl hone2 hd hT X X₁ hstep₁ hn hcode hok.1 hok.2.1 k1 k2
theorem q_callI {ix i : Nat} (vs rest : List Value) (hd : decode (q_cc M) pc = .ok (.invokespecial ix, 3)) (hw1 : q_in (Cond.methodLink (q_own M) ix (q_nm M'))) (hw2 : q_in (Cond.instanceMethod (q_nm M'))) (hcw : q_in (Cond.code (q_nm M') (q_cc M') (q_nL M') none)) (hrt : q_rt M' = none) (hhs : q_hs M' = []) (hname : (q_nm M').name = "<init>") (hok : q_mok M' vs.length) (hst : st = vs.reverse ++ .ref i :: rest)
    (hB : q_A Sc M' 0 (q_L0 M' (.ref i :: vs)) [] h n kc1 ks1 P) (hk1 : kc1 ≤ kc) (hk2 : ks1 ≤ ks) (hfr : q_fr M' + 1 ≤ q_fr M) (hlo : (rest.map fun v => v.category).sum + (q_nL M' + 11) + q_lo M' ≤ q_lo M) (hnl : (Value.ref i :: vs).length ≤ q_nL M') (hone : q_one vs = true)
    (k1 : ∀ v h' n', P (.inl v) h' n' → q_A Sc M (pc + 3) L (v.toList ++ rest) h' n' (kc - kc1) (ks - ks1) Q)
    (k2 : ∀ x h' n', P (.inr x) h' n' → q_Th Sc M pc L h' n' (kc - kc1) (ks - ks1) Q x) : q_A Sc M pc L st h n kc ks Q := by
  intro D dT H0 p l e R s m args below meth c H locs cells slots ls st' sb ws ads0 kc' ks' g T hT X
  obtain ⟨hF, hW, hL, hS, hr⟩ := g
  subst hst
  obtain ⟨as', r9, rfl, h1, _, rest', rfl, ⟨b, hb, rfl⟩, h2⟩ := hS.split
  have hvs : q_vs (q_ads sb ws) vs as'.reverse := by
    have := h1.rev
    rwa [List.reverse_reverse] at this
  have hvs2 : q_vs (q_ads sb ws) (.ref i :: vs) (.ref b :: as'.reverse) := ⟨_, _, rfl, ⟨b, hb, rfl⟩, hvs⟩
  have hTb := hF.2.2.2.2.2.2.1
  obtain ⟨mk, hn, hcode⟩ := q_code_at hTb (Or.inl ⟨hhs, by rw [hrt]; exact hcw⟩)
  have hpl : e.platform.magicAccessors = ({} : Platform).magicAccessors := by rw [X.admits.platform]
  obtain ⟨mk2, methM, cM, kP, vm₁, hn2, -, -, -, -, -, -, -, hW₁, hstep₁⟩ := Steps.initColdArgs (e := e) (args := args) (s := s) (U := T) X.here hF.1 X.warmed hpl hF.2.2.2.2.2.1 hname hok.2.2.1 (hTb.at hw1 args) (hTb.at hw2 args) (hTb.at hcw args) (f := F0 m pc ls (as' ++ .ref b :: rest')) rfl (argsL := as'.reverse) (rest := rest')
    (fun sig hs => by rw [hvs.len]; exact q_plen hok hs) (by rw [List.reverse_reverse]) (by rw [hF.2.1]; exact hd)
  cases hn.symm.trans hn2
  have hone2 : q_one (.ref i :: vs) = true := by
    show (decide _ && q_one vs) = true
    rw [hone]; rfl
  exact q_core ⟨hF, hW, hL, h2, hr⟩ hvs2 hB hk1 hk2 hfr hlo hnl hone2 hd hT X (X.noted hW₁) hstep₁ hn hcode hok.1 hok.2.1 k1 k2
theorem q_callIN {ix i : Nat} {host : String} (vs rest : List Value) (hd : decode (q_cc M) pc = .ok (.invokespecial ix, 3)) (hw1 : q_in (Cond.methodLinkNest (q_own M) ix (q_nm M') host)) (hw2 : q_in (Cond.instanceMethod (q_nm M'))) (hcw : q_in (Cond.code (q_nm M') (q_cc M') (q_nL M') none)) (hrt : q_rt M' = none) (hhs : q_hs M' = []) (hname : (q_nm M').name = "<init>") (hok : q_mok M' vs.length) (hst : st = vs.reverse ++ .ref i :: rest)
    (hB : q_A Sc M' 0 (q_L0 M' (.ref i :: vs)) [] h n kc1 ks1 P) (hk1 : kc1 ≤ kc) (hk2 : ks1 ≤ ks) (hfr : q_fr M' + 1 ≤ q_fr M) (hlo : (rest.map fun v => v.category).sum + (q_nL M' + 11) + q_lo M' ≤ q_lo M) (hnl : (Value.ref i :: vs).length ≤ q_nL M') (hone : q_one vs = true)
    (k1 : ∀ v h' n', P (.inl v) h' n' → q_A Sc M (pc + 3) L (v.toList ++ rest) h' n' (kc - kc1) (ks - ks1) Q)
    (k2 : ∀ x h' n', P (.inr x) h' n' → q_Th Sc M pc L h' n' (kc - kc1) (ks - ks1) Q x) : q_A Sc M pc L st h n kc ks Q := by
  intro D dT H0 p l e R s m args below meth c H locs cells slots ls st' sb ws ads0 kc' ks' g T hT X
  obtain ⟨hF, hW, hL, hS, hr⟩ := g
  subst hst
  obtain ⟨as', r9, rfl, h1, _, rest', rfl, ⟨b, hb, rfl⟩, h2⟩ := hS.split
  have hvs : q_vs (q_ads sb ws) vs as'.reverse := by
    have := h1.rev
    rwa [List.reverse_reverse] at this
  have hvs2 : q_vs (q_ads sb ws) (.ref i :: vs) (.ref b :: as'.reverse) := ⟨_, _, rfl, ⟨b, hb, rfl⟩, hvs⟩
  have hTb := hF.2.2.2.2.2.2.1
  obtain ⟨mk, hn, hcode⟩ := q_code_at hTb (Or.inl ⟨hhs, by rw [hrt]; exact hcw⟩)
  have hpl : e.platform.magicAccessors = ({} : Platform).magicAccessors := by rw [X.admits.platform]
  obtain ⟨mk2, methM, cM, kP, vm₁, hn2, -, -, -, -, -, -, -, hW₁, hstep₁⟩ := Steps.initColdArgsNest (e := e) (args := args) (s := s) (U := T) X.here hF.1 X.warmed hpl hF.2.2.2.2.2.1 hname hok.2.2.1 (hTb.at hw1 args) (hTb.at hw2 args) (hTb.at hcw args) (f := F0 m pc ls (as' ++ .ref b :: rest')) rfl (argsL := as'.reverse) (rest := rest')
    (fun sig hs => by rw [hvs.len]; exact q_plen hok hs) (by rw [List.reverse_reverse]) (by rw [hF.2.1]; exact hd)
  cases hn.symm.trans hn2
  have hone2 : q_one (.ref i :: vs) = true := by
    show (decide _ && q_one vs) = true
    rw [hone]; rfl
  exact q_core ⟨hF, hW, hL, h2, hr⟩ hvs2 hB hk1 hk2 hfr hlo hnl hone2 hd hT X (X.noted hW₁) hstep₁ hn hcode hok.1 hok.2.1 k1 k2
theorem q_obj {ix i : Nat} (hd : decode (q_cc M) pc = .ok (.invokespecial ix, 3)) (hw1 : q_in (Cond.methodLink (q_own M) ix Lib.objectInit)) (hw2 : q_in (Cond.instanceMethod Lib.objectInit)) (hw3 : q_in (Cond.code Lib.objectInit ⟨#[0xb1]⟩ 1 none)) (hf : 1 ≤ q_fr M) (hl : (st.map fun v => v.category).sum + 12 ≤ q_lo M) (k : q_A Sc M (pc + 3) L st h n kc ks Q) : q_A Sc M pc L (.ref i :: st) h n kc ks Q := by
  intro D dT H0 p l e R s m args below meth c H locs cells slots ls st' sb ws ads0 kc' ks' g
  obtain ⟨hF, hW, hL, ⟨_, rest', rfl, ⟨b, hb, rfl⟩, hS⟩, hr⟩ := g
  have hTb := hF.2.2.2.2.2.2.1
  have h9 := hF.2.2.2.2.2.2.2.2.1
  have h10 := hF.2.2.2.2.2.2.2.2.2.1
  have hsum := hS.sum
  exact W.objInit hF.1 hF.2.1 hF.2.2.2.2.2.1 (hTb.at hw1 args) (hTb.at hw2 args) (hTb.at hw3 args) (g := F0 m pc ls (.ref b :: rest')) rfl (by show ls.size = _; rw [hL.1, hF.2.2.1]) rfl hd (by omega) (by show 2 * 0 + (rest'.map fun v => v.category).sum + 12 ≤ _; rw [hsum]; omega)
    (k D dT H0 p l e R s m args below meth c H locs cells slots ls _ sb ws ads0 kc' ks' ⟨hF, hW, hL, hS, hr⟩)
end QCALL
end
section
section QX
variable {Sc : q_S} {M : q_M} {pc : Nat} {L st : List Value} {h : q_H} {n kc ks : Nat} {Q : q_O → q_H → Nat → Prop}
theorem q_L.flt {ads : List Nat} {nL : Nat} {L : List Value} {ls : Array Slot} (h : q_L ads nL L ls) {i : Nat} {b : UInt32} (hi : L[i]? = some (.float b)) : ∃ a, (b = 1 → ads[0]? = some a) ∧ ls[i]? = some (.val (.ref a)) := by
  rcases h.2.2 i _ hi with ⟨k, e⟩ | ⟨w, ⟨a, h1, h3⟩, -, h2⟩
  · cases e
  · exact ⟨a, h3, by rw [h2, h1]⟩
theorem q_aload_n_x {j : Fin 4} {b : UInt32} (hd : decode (q_cc M) pc = .ok (.aload_n j, 1)) (hl : L[(j : Nat)]? = some (.float b)) (k : q_A Sc M (pc + 1) L (.float b :: st) h n kc ks Q) : q_A Sc M pc L st h n kc ks Q := by
  intro D dT H0 p l e R s m args below meth c H locs cells slots ls st' sb ws ads0 kc' ks' g
  obtain ⟨hF, hW, hL, hS, hr⟩ := g
  obtain ⟨a, h1, h2⟩ := hL.flt hl
  exact lv_aload_n hF.1 hF.2.1 hd rfl h2 (k D dT H0 p l e R s m args below meth c H locs cells slots ls _ sb ws ads0 kc' ks' ⟨hF, hW, hL, ⟨_, _, rfl, ⟨a, rfl, h1⟩, hS⟩, hr⟩)
theorem q_sld {j : Int32} (hd : decode (q_cc M) pc = .ok (.iaload, 1)) (hj : vp_in j Sc.1) (k : q_A Sc M (pc + 1) L (.int (Sc.2 j.toNatClampNeg) :: st) h n kc ks Q) : q_A Sc M pc L (.int j :: .float 1 :: st) h n kc ks Q := by
  intro D dT H0 p l e R s m args below meth c H locs cells slots ls st' sb ws ads0 kc' ks' g
  obtain ⟨hF, hW, hL, ⟨_, _, rfl, rfl, _, _, rfl, ⟨b, rfl, hb⟩, hS⟩, hr⟩ := g
  have hb2 : sb = b := Option.some.inj (hb rfl)
  subst hb2
  obtain ⟨f1, f2, f3, f4, f5, f6, f7, f8, f9, f10, f11, f12, f13, f14, f15, f16, f17⟩ := id hF
  exact va_sld f1 f2 (f17.kept (f14 sb f16)) (Nat.lt_of_lt_of_le f16 f13) (Nat.not_le.mpr f16) hW.2.2.2.2 hj hd (k D dT H0 p l e R s m args below meth c H locs cells slots ls _ sb ws ads0 kc' ks' ⟨hF, hW, hL, ⟨_, _, rfl, rfl, hS⟩, hr⟩)
theorem q_slen (hd : decode (q_cc M) pc = .ok (.arraylength, 1)) (k : q_A Sc M (pc + 1) L (.int (nI Sc.1) :: st) h n kc ks Q) : q_A Sc M pc L (.float 1 :: st) h n kc ks Q := by
  intro D dT H0 p l e R s m args below meth c H locs cells slots ls st' sb ws ads0 kc' ks' g
  obtain ⟨hF, hW, hL, ⟨_, _, rfl, ⟨b, rfl, hb⟩, hS⟩, hr⟩ := g
  have hb2 : sb = b := Option.some.inj (hb rfl)
  subst hb2
  obtain ⟨f1, f2, f3, f4, f5, f6, f7, f8, f9, f10, f11, f12, f13, f14, f15, f16, f17⟩ := id hF
  exact va_slen f1 f2 (f17.kept (f14 sb f16)) (Nat.lt_of_lt_of_le f16 f13) (Nat.not_le.mpr f16) hW.2.2.2.2 hd (k D dT H0 p l e R s m args below meth c H locs cells slots ls _ sb ws ads0 kc' ks' ⟨hF, hW, hL, ⟨_, _, rfl, rfl, hS⟩, hr⟩)
theorem q_lald {i t : Nat} {j : Int32} {a : List Int64} (hd : decode (q_cc M) pc = .ok (.laload, 1)) (hh : h i = .inr (.inr (.inr (t, a)))) (ht : q_ty[t]? = some .long) (hj : vp_in j a.length) (kk : q_A Sc M (pc + 1) L (.long (a.getD j.toNatClampNeg 0) :: st) h n kc ks Q) : q_A Sc M pc L (.int j :: .ref i :: st) h n kc ks Q := by
  intro D dT H0 p l e R s m args below meth c H locs cells slots ls st' sb ws ads0 kc' ks' g
  obtain ⟨hF, hW, hL, ⟨_, _, rfl, rfl, _, _, rfl, ⟨b, ha, rfl⟩, hS⟩, hr⟩ := g
  obtain ⟨hi, e0, h1, h2⟩ := hW.look ha
  rw [hh] at h2
  subst h2
  exact va_lald hF.1 hF.2.1 hF.2.2.2.2.2.2.2.1 hW.2.2.1 i t h1 (q_tys_at ht) hj hd (kk D dT H0 p l e R s m args below meth c H locs cells slots ls _ sb ws ads0 kc' ks' ⟨hF, hW, hL, ⟨_, _, rfl, rfl, hS⟩, hr⟩)
theorem q_upd_listL {a : List Int64} {j : Nat} (hj : j < a.length) (x : Int64) : vp_updL (fun q => a.getD q 0) j x = fun q => (a.set j x).getD q 0 := by
  funext q
  unfold vp_updL
  by_cases hq : q = j
  · subst hq
    rw [if_pos rfl, List.getD_eq_getElem?_getD, List.getElem?_set_self hj]
    rfl
  · rw [if_neg hq]
    show a.getD q 0 = (a.set j x).getD q 0
    rw [List.getD_eq_getElem?_getD, List.getD_eq_getElem?_getD, List.getElem?_set_ne (Ne.symm hq)]
theorem q_last {i t : Nat} {j : Int32} {x : Int64} {a : List Int64} (hd : decode (q_cc M) pc = .ok (.lastore, 1)) (hh : h i = .inr (.inr (.inr (t, a)))) (ht : q_ty[t]? = some .long) (hj : vp_in j a.length) (kk : q_A Sc M (pc + 1) L st (q_up h i (.inr (.inr (.inr (t, a.set j.toNatClampNeg x))))) n kc ks Q) : q_A Sc M pc L (.long x :: .int j :: .ref i :: st) h n kc ks Q := by
  intro D dT H0 p l e R s m args below meth c H locs cells slots ls st' sb ws ads0 kc' ks' g
  obtain ⟨hF, hW, hL, ⟨_, _, rfl, rfl, _, _, rfl, rfl, _, _, rfl, ⟨b, ha, rfl⟩, hS⟩, hr⟩ := g
  obtain ⟨hi, e0, h1, h2⟩ := hW.look ha
  rw [hh] at h2
  subst h2
  have hlt : j.toNatClampNeg < a.length := Nat.not_le.mp fun q => hj (Or.inr q)
  refine va_last hF.1 hF.2.1 hF.2.2.2.2.2.2.2.1 hW.2.2.1 hW.2.2.2.1 hW.2.2.2.2 i t h1 (q_tys_at ht) hj hd (fun H1 locs1 p1 p2 p3 => ?_)
  rw [q_upd_listL hlt] at p1 p2
  have hW1 := hW.upd h1 (c := .inr (.inr (.inr (t, a.set j.toNatClampNeg x)))) (by show _ = _; rw [List.length_set]) p1 p2 p3
  have he := q_ads_set (sb := sb) (e' := (.inl (dT t, a.length, .inr (.inl (fun q => (a.set j.toNatClampNeg x).getD q 0))))) h1
  exact kk D dT H0 p l e R s m args below meth c H1 locs1 cells slots ls _ sb _ ads0 kc' ks' ⟨hF, hW1, by rw [he]; exact hL, by rw [he]; exact hS, by rw [he]; exact hr⟩
theorem q_rep_listL (N : Nat) : (fun q => (List.replicate N (0 : Int64)).getD q 0) = fun _ => (0 : Int64) := by
  funext q
  rw [List.getD_eq_getElem?_getD, List.getElem?_replicate]
  split <;> rfl
theorem q_newl {atype : ArrayType} {t N : Nat} {len : Int32} (hd : decode (q_cc M) pc = .ok (.newarray atype, 2)) (hty : newarray.typeOf atype = .long) (ht : q_ty[t]? = some .long) (hw : q_in (Cond.arrayClass .long)) (hn : ¬ len < 0) (hN : len.toNatClampNeg = N) (hb : N ≤ 4096) (hk1 : 1 ≤ kc) (hk2 : N ≤ ks)
    (kk : q_A Sc M (pc + 2) L (.ref n :: st) (q_up h n (.inr (.inr (.inr (t, List.replicate N 0))))) (n + 1) (kc - 1) (ks - N) Q) : q_A Sc M pc L (.int len :: st) h n kc ks Q := by
  intro D dT H0 p l e R s m args below meth c H locs cells slots ls st' sb ws ads0 kc' ks' g
  obtain ⟨hF, hW, hL, ⟨_, _, rfl, rfl, hS⟩, ha, g6, g7, g8, g9⟩ := g
  have hT := hF.2.2.2.2.2.2.1
  have hK := hF.2.2.2.2.2.2.2.1
  refine va_newa (a0 := (N, .inr (.inl (fun _ => 0)))) hF.1 hF.2.1 (by rw [hty]; exact hT.at hw args) hty hK hW.2.2.1 hW.2.2.2.1 hW.2.2.2.2 (q_Z_new hF.2.2.2.2.2.2.2.2.2.2.2.2.1) (fun cA => rfl) hn hN (by simp [componentBytes]; omega) (by omega) (by omega) hd (fun q cA H1 k1 p1 p2 p3 => ?_)
  have hcA : cA = dT t := by
    have r1 := (hK.2 t _ (q_tys_at ht)).2
    have r2 := (k1.2 (q_tys dT).length (cA, .long) (by rw [List.getElem?_append_right (Nat.le_refl _), Nat.sub_self]; rfl)).2
    exact Option.some.inj ((show s.vm.findClass _ = some cA from r2).symm.trans r1)
  subst hcA
  have hW1 := hW.push (c := .inr (.inr (.inr (t, List.replicate N 0)))) (by show _ = _; rw [List.length_replicate, q_rep_listL]) p1 p2 p3
  exact kk D dT H0 p l e R s m args below meth c H1 locs (cells + 1) (slots + N) ls _ sb _ ads0 kc' ks' ⟨hF, hW1, hL.mono q_ads_push, ⟨_, _, rfl, ⟨q, q_at_end hW.1, rfl⟩, hS.mono q_ads_push⟩, ha.tr q_ads_push, by omega, by omega, g8, g9⟩
theorem q_throw {ik is ic x : Nat} {cls text : String} {names : List String} (hown : q_own M = "GroupFilters") (hx : (x = 0 ∧ cls = "java/lang/IndexOutOfBoundsException" ∧ is = 147 ∧ text = q_tx0) ∨ (x = 1 ∧ cls = "java/lang/IllegalArgumentException" ∧ is = 154 ∧ text = q_tx1))
    (hcls : Bundle.fit cls = true) (hnames : ∀ n ∈ names, Bundle.fit n = true) (hw1 : q_in (Cond.classLink "GroupFilters" ik cls)) (hw2 : q_in (Cond.initialized cls)) (hat : ∀ w ∈ vx_atS "GroupFilters" ic cls names, q_in w) (hgood : ∀ w ∈ Cond.classLink "GroupFilters" ik cls :: Cond.initialized cls :: vx_atS "GroupFilters" ic cls names, vx_ot w = true)
    (d0 : decode (q_cc M) pc = .ok (.new ik, 3)) (d3 : decode (q_cc M) (pc + 3) = .ok (.dup, 1)) (d4 : decode (q_cc M) (pc + 4) = .ok (.ldc is, 2)) (d6 : decode (q_cc M) (pc + 6) = .ok (.invokespecial ic, 3)) (d9 : decode (q_cc M) (pc + 9) = .ok (.athrow, 1))
    (hhs : q_hs M = []) (hfr : names.length + 3 < q_fr M) (hlo : (st.map fun v => v.category).sum + (13 * (names.length + 1) + 43) ≤ q_lo M) (hk1 : 1 ≤ kc) (hk2 : 6 ≤ ks) (hq : Q (.inr x) h n) : q_A Sc M pc L st h n kc ks Q := by
  intro D dT H0 p l e R s m args below meth c H locs cells slots ls st' sb ws ads0 kc' ks' g
  obtain ⟨hF, hW, hL, hS, ha, g6, g7, g8, g9⟩ := g
  obtain ⟨f1, f2, f3, f4, f5, f6, f7, f8, f9, f10, f11, f12, f13, f14, f15, f16, f17⟩ := id hF
  obtain ⟨x1, x2, x3, x4, x5, -⟩ := f15
  have hown' : s.vm.findClass "GroupFilters" = some m.cls := by rw [← hown]; exact f6
  have hout : ∀ y ∈ c.exceptionTable.toList, covers y (pc + 9) = false := fun y hy => by
    have h1 : q_row y ∈ q_hs M := by rw [← f11]; exact List.mem_map.mpr ⟨y, hy, rfl⟩
    rw [hhs] at h1
    cases h1
  have hstr : ∃ sa, vk_R "GroupFilters" is text sa s := by
    rcases hx with ⟨-, -, rfl, rfl⟩ | ⟨-, -, rfl, rfl⟩
    · exact x4
    · exact x5
  obtain ⟨sa, hstr⟩ := hstr
  have hsum := hS.sum
  have hkU : ∀ a : Nat, a < H0.size → ¬ (fun q => H0.size ≤ q) a → s.heap[a]? = H0[a]? := fun a h1 _ => f14 a h1
  refine q_Wmono ?_ (vx_throwS (Qc := fun _ _ _ _ => False) (XC := fun E _ t => E = cls ∧ H.size ≤ t.heap.size ∧ ∀ q : Nat, q < H.size → t.heap[q]? = H[q]?) (free := q_Z H0 s) (mc := kc') (ms := ks') (A := fun q => H0.size ≤ q) f1 f2 x1 hown' hcls hnames (f7.at hw1 args) (f7.at hw2 args) hstr (fun w hw => f7.at (hat w hw) args) hgood (x2.kept hkU) (x3.kept hkU) hW.2.2.2.2 (hL.1.trans f3.symm)
    d0 d3 d4 d6 d9 hout (by omega) (by rw [hsum]; omega) (by omega) (by omega) f5 (fun t _ h1 h2 => ⟨rfl, h1, h2⟩) hW.2.2.2.2.2.2 (by omega) (by omega))
  rintro t ⟨o, b1, b2, ⟨b3, -⟩ | ⟨q, rfl, E, ce, L', ⟨rfl, c1, c2⟩, c3, c4, c5, c6, c7, c8⟩⟩
  · exact b3.elim
  · refine ⟨_, L', h, n, ws, .inr x, b1, b2, c6, c7, hq, ⟨hW.1, hW.2.1, hW.2.2.1.kept (fun k y hy => c2 _ (hW.2.2.1 k y hy).lt), hW.2.2.2.1, Nat.le_trans hW.2.2.2.2.1 c1, fun q h1 h2 => ?_, c8⟩, ha, ⟨q, ce, E, ?_, rfl, c3, by rw [c6.alike.findClass]; exact c5, c4⟩⟩
    · rw [c2 q (Nat.lt_of_lt_of_le h1 hW.2.2.2.2.1)]
      exact hW.2.2.2.2.2.1 q h1 h2
    · rcases hx with ⟨rfl, rfl, -⟩ | ⟨rfl, rfl, -⟩ <;> rfl
end QX
end
section
/-! ===== TYPED HEAPS: what every cell is, by its number; for safety ===== -/
abbrev q_K : Type := Nat × Nat × List (Nat × Nat)
def q_f1 (p : Nat × Nat) (f : Value) : Prop := match p.1 with
  | 0 => ∃ x, f = .int x
  | 1 => f = .ref p.2
  | 3 => f = .null
  | _ => f = .int (nI p.2)
def q_fm : List (Nat × Nat) → List Value → Prop
  | [], fs => fs = []
  | p :: ps, fs => ∃ f r, fs = f :: r ∧ q_f1 p f ∧ q_fm ps r
theorem q_fm.at : ∀ {ps : List (Nat × Nat)} {fs : List Value}, q_fm ps fs → ∀ {k : Nat} {p : Nat × Nat}, ps[k]? = some p → ∃ f, fs[k]? = some f ∧ q_f1 p f
  | [], _, _, k, p, hk => by simp at hk
  | _ :: _, _, ⟨f, r, e, h1, h2⟩, k, p, hk => by
    subst e
    cases k with
    | zero =>
      rw [List.getElem?_cons_zero] at hk
      cases hk
      exact ⟨f, rfl, h1⟩
    | succ k =>
      rw [List.getElem?_cons_succ] at hk
      obtain ⟨f2, q1, q2⟩ := q_fm.at h2 hk
      exact ⟨f2, by rw [List.getElem?_cons_succ]; exact q1, q2⟩
theorem q_fm.set : ∀ {ps : List (Nat × Nat)} {fs : List Value}, q_fm ps fs → ∀ {k : Nat} {p : Nat × Nat} {f : Value}, q_f1 p f → q_fm (ps.set k p) (fs.set k f)
  | [], _, h, k, p, f, hf => by rw [show _ = [] from h]; rfl
  | _ :: _, _, ⟨f0, r, e, h1, h2⟩, k, p, f, hf => by
    subst e
    cases k with
    | zero => exact ⟨f, r, rfl, hf, h2⟩
    | succ k => exact ⟨f0, _, rfl, h1, q_fm.set h2 hf⟩
theorem q_fm.len : ∀ {ps : List (Nat × Nat)} {fs : List Value}, q_fm ps fs → fs.length = ps.length
  | [], _, h => by rw [show _ = [] from h]; rfl
  | _ :: _, _, ⟨f, r, e, h1, h2⟩ => by
    subst e
    rw [List.length_cons, List.length_cons, q_fm.len h2]
theorem q_set_same {α : Type} : ∀ {l : List α} {k : Nat} {a : α}, l[k]? = some a → l.set k a = l
  | [], _, _, h => by simp at h
  | b :: l, k, a, h => by
    cases k with
    | zero =>
      rw [List.getElem?_cons_zero] at h
      cases h
      rfl
    | succ k =>
      rw [List.getElem?_cons_succ] at h
      rw [List.set_cons_succ, q_set_same h]
def q_okc (k : q_K) (c : q_C) : Prop := match k.1 with
  | 1 => ∃ a, c = .inr (.inl (0, a)) ∧ a.length = k.2.1
  | 2 => ∃ a, c = .inr (.inl (1, a)) ∧ a.length = k.2.1
  | 3 => c = .inr (.inr (.inl (k.2.1, k.2.2.map (fun p => some p.2))))
  | 4 => ∃ fs, c = .inl (k.2.1, fs) ∧ q_fm k.2.2 fs
  | 5 => ∃ a, c = .inr (.inr (.inr (5, a))) ∧ a.length = k.2.1
  | 6 => c = .inr (.inr (.inl (k.2.1, k.2.2.map (fun p => if p.1 = 1 then some p.2 else none))))
  | 7 => c = .inr (.inr (.inr (5, [(nI k.2.1).toInt64])))
  | 8 => c = .inr (.inl (0, k.2.2.map (fun p => nI p.2)))
  | 9 => c = .inr (.inl (1, k.2.2.map (fun p => nI p.2)))
  | _ => True
def q_ok (Γ : Nat → q_K) (h : q_H) : Prop := ∀ i, q_okc (Γ i) (h i)
theorem q_ok.up {Γ : Nat → q_K} {h : q_H} (hok : q_ok Γ h) {i : Nat} {c : q_C} (hc : q_okc (Γ i) c) : q_ok Γ (q_up h i c) := fun j => by
  by_cases hj : j = i
  · subst hj
    rw [show q_up h j c j = c from if_pos rfl]
    exact hc
  · rw [show q_up h i c j = h j from if_neg hj]
    exact hok j
theorem q_ok.o {Γ : Nat → q_K} {h : q_H} (hok : q_ok Γ h) {i ci : Nat} {ps : List (Nat × Nat)} (hg : Γ i = (4, ci, ps)) : ∃ fs, h i = .inl (ci, fs) ∧ q_fm ps fs := by
  have := hok i
  rw [hg] at this
  exact this
theorem q_ok.i {Γ : Nat → q_K} {h : q_H} (hok : q_ok Γ h) {i N : Nat} {ps : List (Nat × Nat)} (hg : Γ i = (1, N, ps)) : ∃ a, h i = .inr (.inl (0, a)) ∧ a.length = N := by
  have := hok i
  rw [hg] at this
  exact this
theorem q_ok.z {Γ : Nat → q_K} {h : q_H} (hok : q_ok Γ h) {i N : Nat} {ps : List (Nat × Nat)} (hg : Γ i = (2, N, ps)) : ∃ a, h i = .inr (.inl (1, a)) ∧ a.length = N := by
  have := hok i
  rw [hg] at this
  exact this
theorem q_ok.r {Γ : Nat → q_K} {h : q_H} (hok : q_ok Γ h) {i t : Nat} {ps : List (Nat × Nat)} (hg : Γ i = (3, t, ps)) : h i = .inr (.inr (.inl (t, ps.map (fun p => some p.2)))) := by
  have := hok i
  rw [hg] at this
  exact this
theorem q_ok.l {Γ : Nat → q_K} {h : q_H} (hok : q_ok Γ h) {i N : Nat} {ps : List (Nat × Nat)} (hg : Γ i = (5, N, ps)) : ∃ a, h i = .inr (.inr (.inr (5, a))) ∧ a.length = N := by
  have := hok i
  rw [hg] at this
  exact this
/-- the field's entry links, by either road -/
def q_fl (own : String) (ix : Nat) (T : u_T) (k : Nat) : Prop := q_in (Cond.fieldLink own ix (T k).1 (T k).2.1 (T k).2.2.1) ∨ ∃ host, q_in (Cond.fieldLinkNest own ix (T k).1 (T k).2.1 (T k).2.2.1 host)
/-- a method is safe at these arguments: it ends with R, the heap as well typed as before -/
def q_safe (Sc : q_S) (Γ : Nat → q_K) (M : q_M) (vs : List Value) (n kc ks : Nat) (R : q_O → Prop) : Prop := ∀ h, q_ok Γ h → q_A Sc M 0 (q_L0 M vs) [] h n kc ks (fun O h' n' => R O ∧ q_ok Γ h' ∧ n' = n)
def q_RV : q_O → Prop := fun O => O = .inl none
def q_RI : q_O → Prop := fun O => ∃ x, O = .inl (some (.int x))
def q_bl (x : Int32) : Prop := x = nI 0 ∨ x = nI 1
theorem q_bl.nar {x : Int32} (h : q_bl x) : narrow .boolean (.int x) = .int x := by rcases h with rfl | rfl <;> rfl
theorem q_bl.vp {x : Int32} (h : q_bl x) : vp_nar .boolean x = x := by rcases h with rfl | rfl <;> rfl
theorem q_bl.fit {x : Int32} (h : q_bl x) : q_fit .boolean (.int x) := by rcases h with rfl | rfl <;> exact ⟨rfl, rfl⟩
def q_RB : q_O → Prop := fun O => ∃ x, O = .inl (some (.int x)) ∧ q_bl x
section QT
variable {Sc : q_S} {M M' : q_M} {pc : Nat} {L st : List Value} {h : q_H} {n kc ks kc1 ks1 : Nat} {Q : q_O → q_H → Nat → Prop} {Γ : Nat → q_K}
variable {C : String} {T : u_T} {N ci i ix : Nat} {ty : Nat → FieldType} {ps : List (Nat × Nat)}
theorem t_look (k : Nat) {v : Value} {fs : List Value} (hC : q_cls ci C T N ty) (hk : k < N) (hw : q_fl (q_own M) ix T k) (hd : decode (q_cc M) pc = .ok (.getfield ix, 3)) (hh : h i = .inl (ci, fs)) (hv : fs[k]? = some v) (kk : q_A Sc M (pc + 3) L (v :: st) h n kc ks Q) : q_A Sc M pc L (.ref i :: st) h n kc ks Q := by
  rcases hw with hw | ⟨host, hw⟩
  · exact q_get hC k rfl hk hw hd hh hv kk
  · exact q_getN hC k rfl hk hw hd hh hv kk
theorem t_geti (k : Nat) {z : Nat} (hC : q_cls ci C T N ty) (hk : k < N) (hw : q_fl (q_own M) ix T k) (hd : decode (q_cc M) pc = .ok (.getfield ix, 3)) (hok : q_ok Γ h) (hg : Γ i = (4, ci, ps)) (hp : ps[k]? = some (0, z)) (kk : ∀ x, q_A Sc M (pc + 3) L (.int x :: st) h n kc ks Q) : q_A Sc M pc L (.ref i :: st) h n kc ks Q := by
  obtain ⟨fs, h1, h2⟩ := hok.o hg
  obtain ⟨f, h3, x, rfl⟩ := h2.at hp
  exact t_look k hC hk hw hd h1 h3 (kk x)
theorem t_getr (k : Nat) {z : Nat} (hC : q_cls ci C T N ty) (hk : k < N) (hw : q_fl (q_own M) ix T k) (hd : decode (q_cc M) pc = .ok (.getfield ix, 3)) (hok : q_ok Γ h) (hg : Γ i = (4, ci, ps)) (hp : ps[k]? = some (1, z)) (kk : q_A Sc M (pc + 3) L (.ref z :: st) h n kc ks Q) : q_A Sc M pc L (.ref i :: st) h n kc ks Q := by
  obtain ⟨fs, h1, h2⟩ := hok.o hg
  obtain ⟨f, h3, h4⟩ := h2.at hp
  cases h4
  exact t_look k hC hk hw hd h1 h3 kk
theorem t_getc (k : Nat) {z : Nat} (hC : q_cls ci C T N ty) (hk : k < N) (hw : q_fl (q_own M) ix T k) (hd : decode (q_cc M) pc = .ok (.getfield ix, 3)) (hok : q_ok Γ h) (hg : Γ i = (4, ci, ps)) (hp : ps[k]? = some (2, z)) (kk : q_A Sc M (pc + 3) L (.int (nI z) :: st) h n kc ks Q) : q_A Sc M pc L (.ref i :: st) h n kc ks Q := by
  obtain ⟨fs, h1, h2⟩ := hok.o hg
  obtain ⟨f, h3, h4⟩ := h2.at hp
  cases h4
  exact t_look k hC hk hw hd h1 h3 kk
theorem t_puti (k : Nat) {z : Nat} {x : Int32} (hC : q_cls ci C T N ty) (hk : k < N) (hw : q_fl (q_own M) ix T k) (hfin : (T k).2.2.2 = false) (hd : decode (q_cc M) pc = .ok (.putfield ix, 3)) (hok : q_ok Γ h) (hg : Γ i = (4, ci, ps)) (hp : ps[k]? = some (0, z)) (hv : q_fit (ty k) (.int x)) (kk : ∀ h', q_ok Γ h' → q_A Sc M (pc + 3) L st h' n kc ks Q) : q_A Sc M pc L (.int x :: .ref i :: st) h n kc ks Q := by
  obtain ⟨fs, h1, h2⟩ := hok.o hg
  have hl : k < fs.length := by rw [h2.len]; exact (List.getElem?_eq_some_iff.mp hp).1
  have h3 := h2.set (k := k) (p := (0, z)) (f := .int x) ⟨x, rfl⟩
  rw [q_set_same hp] at h3
  have h4 := kk _ (hok.up (i := i) (c := .inl (ci, fs.set k (.int x))) (by rw [hg]; exact ⟨_, rfl, h3⟩))
  rcases hw with hw | ⟨host, hw⟩
  · exact q_put hC k rfl hk hw hfin hd h1 hl hv h4
  · exact q_putN hC k rfl hk hw hfin hd h1 hl hv h4
theorem t_putc (k : Nat) {z z' : Nat} (hC : q_cls ci C T N ty) (hk : k < N) (hw : q_fl (q_own M) ix T k) (hfin : (T k).2.2.2 = false) (hd : decode (q_cc M) pc = .ok (.putfield ix, 3)) (hok : q_ok Γ h) (hg : Γ i = (4, ci, ps)) (hp : ps[k]? = some (2, z)) (hv : q_fit (ty k) (.int (nI z'))) (kk : ∀ h', q_ok (fun j => if j = i then (4, ci, ps.set k (2, z')) else Γ j) h' → q_A Sc M (pc + 3) L st h' n kc ks Q) : q_A Sc M pc L (.int (nI z') :: .ref i :: st) h n kc ks Q := by
  obtain ⟨fs, h1, h2⟩ := hok.o hg
  have hl : k < fs.length := by rw [h2.len]; exact (List.getElem?_eq_some_iff.mp hp).1
  have h3 := h2.set (k := k) (p := (2, z')) (f := .int (nI z')) rfl
  have h4 := kk (q_up h i (.inl (ci, fs.set k (.int (nI z'))))) (fun j => by
    by_cases hj : j = i
    · subst hj
      rw [show q_up h j _ j = _ from if_pos rfl]
      show q_okc (if j = j then _ else _) _
      rw [if_pos rfl]
      exact ⟨_, rfl, h3⟩
    · rw [show q_up h i _ j = h j from if_neg hj]
      show q_okc (if j = i then _ else _) _
      rw [if_neg hj]
      exact hok j)
  rcases hw with hw | ⟨host, hw⟩
  · exact q_put hC k rfl hk hw hfin hd h1 hl hv h4
  · exact q_putN hC k rfl hk hw hfin hd h1 hl hv h4
theorem t_iald {j : Int32} (hd : decode (q_cc M) pc = .ok (.iaload, 1)) (hok : q_ok Γ h) (hg : Γ i = (1, N, ps)) (hj : vp_in j N) (kk : ∀ x, q_A Sc M (pc + 1) L (.int x :: st) h n kc ks Q) : q_A Sc M pc L (.int j :: .ref i :: st) h n kc ks Q := by
  obtain ⟨a, h1, h2⟩ := hok.i hg
  exact q_iald hd h1 rfl (by rw [h2]; exact hj) (kk _)
theorem t_zald {j : Int32} (hd : decode (q_cc M) pc = .ok (.baload, 1)) (hok : q_ok Γ h) (hg : Γ i = (2, N, ps)) (hj : vp_in j N) (kk : ∀ x, q_A Sc M (pc + 1) L (.int x :: st) h n kc ks Q) : q_A Sc M pc L (.int j :: .ref i :: st) h n kc ks Q := by
  obtain ⟨a, h1, h2⟩ := hok.z hg
  exact q_zald hd h1 rfl (by rw [h2]; exact hj) (kk _)
theorem t_iast {j x : Int32} (hd : decode (q_cc M) pc = .ok (.iastore, 1)) (hok : q_ok Γ h) (hg : Γ i = (1, N, ps)) (hj : vp_in j N) (kk : ∀ h', q_ok Γ h' → q_A Sc M (pc + 1) L st h' n kc ks Q) : q_A Sc M pc L (.int x :: .int j :: .ref i :: st) h n kc ks Q := by
  obtain ⟨a, h1, h2⟩ := hok.i hg
  exact q_iast hd h1 rfl (by rw [h2]; exact hj) (kk _ (hok.up (by rw [hg]; exact ⟨_, rfl, by rw [List.length_set]; exact h2⟩)))
theorem t_zast {j x : Int32} (hd : decode (q_cc M) pc = .ok (.bastore, 1)) (hok : q_ok Γ h) (hg : Γ i = (2, N, ps)) (hj : vp_in j N) (hx : vp_nar .boolean x = x) (kk : ∀ h', q_ok Γ h' → q_A Sc M (pc + 1) L st h' n kc ks Q) : q_A Sc M pc L (.int x :: .int j :: .ref i :: st) h n kc ks Q := by
  obtain ⟨a, h1, h2⟩ := hok.z hg
  exact q_zast hd h1 rfl (by rw [h2]; exact hj) hx (kk _ (hok.up (by rw [hg]; exact ⟨_, rfl, by rw [List.length_set]; exact h2⟩)))
theorem t_last {j : Int32} {x : Int64} (hd : decode (q_cc M) pc = .ok (.lastore, 1)) (hok : q_ok Γ h) (hg : Γ i = (5, N, ps)) (hj : vp_in j N) (kk : ∀ h', q_ok Γ h' → q_A Sc M (pc + 1) L st h' n kc ks Q) : q_A Sc M pc L (.long x :: .int j :: .ref i :: st) h n kc ks Q := by
  obtain ⟨a, h1, h2⟩ := hok.l hg
  exact q_last hd h1 rfl (by rw [h2]; exact hj) (kk _ (hok.up (by rw [hg]; exact ⟨_, rfl, by rw [List.length_set]; exact h2⟩)))
theorem t_aald {t : Nat} {j : Int32} (C2 : String) (hd : decode (q_cc M) pc = .ok (.aaload, 1)) (hok : q_ok Γ h) (hg : Γ i = (3, t, ps)) (ht : q_ty[t]? = some (.object C2)) (hj : vp_in j ps.length) (kk : ∀ p, ps[j.toNatClampNeg]? = some p → q_A Sc M (pc + 1) L (.ref p.2 :: st) h n kc ks Q) : q_A Sc M pc L (.int j :: .ref i :: st) h n kc ks Q := by
  have h1 := hok.r hg
  have hlt : j.toNatClampNeg < ps.length := Nat.not_le.mp fun q => hj (Or.inr q)
  have h2 : ps[j.toNatClampNeg]? = some ps[j.toNatClampNeg] := List.getElem?_eq_getElem hlt
  exact q_aald hd h1 ht (by rw [List.length_map]; exact hj) (by rw [List.getElem?_map, h2]; rfl) (kk _ h2)
theorem t_alen {t : Nat} {tt : FieldType} (hd : decode (q_cc M) pc = .ok (.arraylength, 1)) (hok : q_ok Γ h) (hg : Γ i = (3, t, ps)) (ht : q_ty[t]? = some tt) (kk : q_A Sc M (pc + 1) L (.int (nI ps.length) :: st) h n kc ks Q) : q_A Sc M pc L (.ref i :: st) h n kc ks Q := by
  have h1 := hok.r hg
  exact q_alen_r hd h1 ht (by rw [List.length_map]; rfl) kk
/-- a call of a safe method -/
theorem t_callV (vs rest : List Value) {R : q_O → Prop} (hC : q_cls ci C T N ty) (hd : decode (q_cc M) pc = .ok (.invokevirtual ix, 3)) (hw1 : q_in (Cond.methodLink (q_own M) ix (q_nm M'))) (hw2 : q_in (Cond.instanceMethod (q_nm M'))) (hw3 : q_in (Cond.selects C (q_nm M') (q_nm M'))) (hcd : q_inC M') (hmk : q_mok M' vs.length) (hst : st = vs.reverse ++ .ref i :: rest) (hok : q_ok Γ h) (hg : Γ i = (4, ci, ps))
    (hB : q_safe Sc Γ M' (.ref i :: vs) n kc1 ks1 R) (hk1 : kc1 ≤ kc) (hk2 : ks1 ≤ ks) (hfr : q_fr M' + 1 ≤ q_fr M) (hlo : (rest.map fun v => v.category).sum + (q_nL M' + 11) + q_lo M' ≤ q_lo M) (hnl : (Value.ref i :: vs).length ≤ q_nL M') (hone : q_one vs = true)
    (k1 : ∀ v h', R (.inl v) → q_ok Γ h' → q_A Sc M (pc + 3) L (v.toList ++ rest) h' n (kc - kc1) (ks - ks1) Q)
    (k2 : ∀ x h', R (.inr x) → q_ok Γ h' → q_Th Sc M pc L h' n (kc - kc1) (ks - ks1) Q x) : q_A Sc M pc L st h n kc ks Q := by
  obtain ⟨fs, h1, -⟩ := hok.o hg
  exact q_callV vs rest hC hd hw1 hw2 hw3 hcd hmk hst h1 (hB h hok) hk1 hk2 hfr hlo hnl hone (fun v h' n' hp => by obtain ⟨p1, p2, rfl⟩ := hp; exact k1 v h' p1 p2) (fun x h' n' hp => by obtain ⟨p1, p2, rfl⟩ := hp; exact k2 x h' p1 p2)
/-- a static entry, by either road -/
def q_sl2 (own : String) (ix : Nat) (y : MethodName) : Prop := q_in (Cond.methodLink own ix y) ∨ ∃ host, q_in (Cond.methodLinkNest own ix y host)
theorem t_callS (vs rest : List Value) {R : q_O → Prop} (hd : decode (q_cc M) pc = .ok (.invokestatic ix, 3)) (hw1 : q_sl2 (q_own M) ix (q_nm M')) (hw2 : q_in (Cond.static (q_nm M'))) (hw3 : q_in (Cond.initialized (q_nm M').cls)) (hcd : q_inC M') (hmk : q_mok M' vs.length) (hst : st = vs.reverse ++ rest) (hok : q_ok Γ h)
    (hB : q_safe Sc Γ M' vs n kc1 ks1 R) (hk1 : kc1 ≤ kc) (hk2 : ks1 ≤ ks) (hfr : q_fr M' + 1 ≤ q_fr M) (hlo : (rest.map fun v => v.category).sum + (q_nL M' + 11) + q_lo M' ≤ q_lo M) (hnl : vs.length ≤ q_nL M') (hone : q_one vs = true)
    (k1 : ∀ v h', R (.inl v) → q_ok Γ h' → q_A Sc M (pc + 3) L (v.toList ++ rest) h' n (kc - kc1) (ks - ks1) Q)
    (k2 : ∀ x h', R (.inr x) → q_ok Γ h' → q_Th Sc M pc L h' n (kc - kc1) (ks - ks1) Q x) : q_A Sc M pc L st h n kc ks Q := by
  rcases hw1 with hw1 | ⟨host, hw1⟩
  · exact q_callS vs rest hd hw1 hw2 hw3 hcd hmk hst (hB h hok) hk1 hk2 hfr hlo hnl hone (fun v h' n' hp => by obtain ⟨p1, p2, rfl⟩ := hp; exact k1 v h' p1 p2) (fun x h' n' hp => by obtain ⟨p1, p2, rfl⟩ := hp; exact k2 x h' p1 p2)
  · exact q_callSN vs rest hd hw1 hw2 hw3 hcd hmk hst (hB h hok) hk1 hk2 hfr hlo hnl hone (fun v h' n' hp => by obtain ⟨p1, p2, rfl⟩ := hp; exact k1 v h' p1 p2) (fun x h' n' hp => by obtain ⟨p1, p2, rfl⟩ := hp; exact k2 x h' p1 p2)
theorem t_istore {j : Nat} {x : Int32} {ln : Nat} (L' : List Value) (hd : (∃ q : Fin 4, (q : Nat) = j ∧ ln = 1 ∧ decode (q_cc M) pc = .ok (.istore_n q, 1)) ∨ (ln = 2 ∧ decode (q_cc M) pc = .ok (.istore j, 2))) (hn : j < q_nL M) (hs : L.set j (.int x) = L') (k : q_A Sc M (pc + ln) L' st h n kc ks Q) : q_A Sc M pc L (.int x :: st) h n kc ks Q := by
  subst hs
  rcases hd with ⟨q, rfl, rfl, hd⟩ | ⟨rfl, hd⟩
  · exact q_istore_n hd hn k
  · exact q_istore hd hn k
theorem t_iinc {j : Nat} {z : Int} {x y : Int32} (L' : List Value) (hd : decode (q_cc M) pc = .ok (.iinc j z, 3)) (hl : L[j]? = some (.int x)) (hy : x + Int32.ofInt z = y) (hn : j < q_nL M) (hs : L.set j (.int y) = L') (k : q_A Sc M (pc + 3) L' st h n kc ks Q) : q_A Sc M pc L st h n kc ks Q := by
  subst hs
  subst hy
  exact q_iinc hd hl hn k
end QT
section QN
variable {Sc : q_S} {M : q_M} {pc : Nat} {L st : List Value} {h : q_H} {n kc ks : Nat} {Q : q_O → q_H → Nat → Prop}
theorem t_iadd_n {a b : Nat} (hd : decode (q_cc M) pc = .ok (.iadd, 1)) (k : q_A Sc M (pc + 1) L (.int (nI (a + b)) :: st) h n kc ks Q) : q_A Sc M pc L (.int (nI b) :: .int (nI a) :: st) h n kc ks Q := q_iadd hd (by rw [nI_add]; exact k)
theorem t_imul_n {a b : Nat} (hd : decode (q_cc M) pc = .ok (.imul, 1)) (k : q_A Sc M (pc + 1) L (.int (nI (a * b)) :: st) h n kc ks Q) : q_A Sc M pc L (.int (nI b) :: .int (nI a) :: st) h n kc ks Q := q_imul hd (by rw [pk_mul]; exact k)
theorem t_iinc_n {j a : Nat} (L' : List Value) (hd : decode (q_cc M) pc = .ok (.iinc j 1, 3)) (hl : L[j]? = some (.int (nI a))) (hn : j < q_nL M) (hs : L.set j (.int (nI (a + 1))) = L') (k : q_A Sc M (pc + 3) L' st h n kc ks Q) : q_A Sc M pc L st h n kc ks Q := t_iinc L' hd hl (by rw [← nI_1]; rfl) hn hs k
theorem t_icmp_ge_n {a b : Nat} {off : Int} {tgt : Nat} (ha : a < 2 ^ 31) (hb : b < 2 ^ 31) (hd : decode (q_cc M) pc = .ok (.if_icmp .ge off, 3)) (ht : (pc : Int) + off = (tgt : Int)) (kt : b ≤ a → q_A Sc M tgt L st h n kc ks Q) (kf : a < b → q_A Sc M (pc + 3) L st h n kc ks Q) : q_A Sc M pc L (.int (nI b) :: .int (nI a) :: st) h n kc ks Q :=
  q_icmp_ge hd ht (fun q => kt ((nI_leI hb ha).mp q)) (fun q => kf (Nat.lt_of_not_le fun z => q ((nI_leI hb ha).mpr z)))
end QN
/-! what the class's cells are -/
def kF (Γ : Nat → q_K) (i : Nat) : Prop := ∃ t, Γ i = (4, 0, [(1, t), (0, 0), (0, 0), (0, 0), (0, 0)]) ∧ Γ t = (1, 16, [])
def kMb (Γ : Nat → q_K) (i : Nat) : Prop := ∃ a b, Γ i = (4, 2, [(1, a), (1, b)]) ∧ Γ a = (1, 8, []) ∧ Γ b = (2, 8, [])
def kLg (Γ : Nat → q_K) (i : Nat) : Prop := ∃ a b c d, Γ i = (4, 3, [(1, a), (1, b), (1, c), (1, d), (0, 0), (0, 0)]) ∧ Γ a = (1, 40, []) ∧ Γ b = (1, 40, []) ∧ Γ c = (1, 40, []) ∧ Γ d = (1, 40, [])
def kLk (Γ : Nat → q_K) (i : Nat) : Prop := ∃ fa ma fl ml, Γ i = (4, 1, [(0, 0), (1, fa), (1, ma), (0, 0), (0, 0), (0, 0), (0, 0), (0, 0)]) ∧ Γ fa = (3, 3, fl) ∧ fl.length = 8 ∧ (∀ (k : Nat) (p : Nat × Nat), fl[k]? = some p → kF Γ p.2) ∧ Γ ma = (3, 4, ml) ∧ ml.length = 6 ∧ ∀ (k : Nat) (p : Nat × Nat), ml[k]? = some p → True
def kGF (Γ : Nat → q_K) (i many : Nat) : Prop := ∃ la lg ll, Γ i = (4, 4, [(1, la), (1, lg)]) ∧ Γ la = (3, 2, ll) ∧ ll.length = many ∧ (∀ (k : Nat) (p : Nat × Nat), ll[k]? = some p → kLk Γ p.2) ∧ kLg Γ lg
end
section
theorem kaX0 : ∀ w ∈ u_ws RX0 TX0 5, w ∈ lw_tbl := by decide +kernel
theorem kbX0 : ∀ w ∈ u_ws RX0 TX0 5, q_okw w = true := by decide +kernel
theorem kX0 : q_cls 0 RX0 TX0 5 tyX0 := ⟨rfl, fun w hw => ⟨kaX0 w hw, kbX0 w hw⟩, tyX0_ok, nmX0⟩
theorem kaX1 : ∀ w ∈ u_ws RX1 TX1 8, w ∈ lw_tbl := by decide +kernel
theorem kbX1 : ∀ w ∈ u_ws RX1 TX1 8, q_okw w = true := by decide +kernel
theorem kX1 : q_cls 1 RX1 TX1 8 tyX1 := ⟨rfl, fun w hw => ⟨kaX1 w hw, kbX1 w hw⟩, tyX1_ok, nmX1⟩
theorem kaX2 : ∀ w ∈ u_ws RX2 TX2 2, w ∈ lw_tbl := by decide +kernel
theorem kbX2 : ∀ w ∈ u_ws RX2 TX2 2, q_okw w = true := by decide +kernel
theorem kX2 : q_cls 2 RX2 TX2 2 tyX2 := ⟨rfl, fun w hw => ⟨kaX2 w hw, kbX2 w hw⟩, tyX2_ok, nmX2⟩
theorem kaX3 : ∀ w ∈ u_ws RX3 TX3 6, w ∈ lw_tbl := by decide +kernel
theorem kbX3 : ∀ w ∈ u_ws RX3 TX3 6, q_okw w = true := by decide +kernel
theorem kX3 : q_cls 3 RX3 TX3 6 tyX3 := ⟨rfl, fun w hw => ⟨kaX3 w hw, kbX3 w hw⟩, tyX3_ok, nmX3⟩
theorem kaX4 : ∀ w ∈ u_ws RX4 TX4 2, w ∈ lw_tbl := by decide +kernel
theorem kbX4 : ∀ w ∈ u_ws RX4 TX4 2, q_okw w = true := by decide +kernel
theorem kX4 : q_cls 4 RX4 TX4 2 tyX4 := ⟨rfl, fun w hw => ⟨kaX4 w hw, kbX4 w hw⟩, tyX4_ok, nmX4⟩
theorem kaX5 : ∀ w ∈ u_ws RX5 TX5 20, w ∈ lw_tbl := by decide +kernel
theorem kbX5 : ∀ w ∈ u_ws RX5 TX5 20, q_okw w = true := by decide +kernel
theorem kX5 : q_cls 5 RX5 TX5 20 tyX5 := ⟨rfl, fun w hw => ⟨kaX5 w hw, kbX5 w hw⟩, tyX5_ok, nmX5⟩
abbrev mX0_init : q_M := (RX0, yX0_init, cX0_init, 1, none, 1, 40, [])
theorem iX0_init : q_inC mX0_init := Or.inl ⟨rfl, q_in_at 71 (by decide +kernel) rfl⟩
theorem oX0_init : q_mok mX0_init 0 := ⟨by decide +kernel, rfl, by decide +kernel, by decide +kernel⟩
abbrev mX0_reset : q_M := (RX0, yX0_reset, cX0_reset, 1, none, 3, 84, [])
theorem iX0_reset : q_inC mX0_reset := Or.inl ⟨rfl, q_in_at 119 (by decide +kernel) rfl⟩
theorem oX0_reset : q_mok mX0_reset 0 := ⟨by decide +kernel, rfl, by decide +kernel, by decide +kernel⟩
abbrev mX0_state : q_M := (RX0, yX0_state, cX0_state, 1, (some FieldType.int), 1, 40, [])
theorem iX0_state : q_inC mX0_state := Or.inl ⟨rfl, q_in_at 506 (by decide +kernel) rfl⟩
theorem oX0_state : q_mok mX0_state 0 := ⟨by decide +kernel, rfl, by decide +kernel, by decide +kernel⟩
abbrev mX0_lets : q_M := (RX0, yX0_lets, cX0_lets, 2, (some FieldType.boolean), 2, 61, [])
theorem iX0_lets : q_inC mX0_lets := Or.inl ⟨rfl, q_in_at 491 (by decide +kernel) rfl⟩
theorem oX0_lets : q_mok mX0_lets 1 := ⟨by decide +kernel, rfl, by decide +kernel, by decide +kernel⟩
abbrev mX0_doubted : q_M := (RX0, yX0_doubted, cX0_doubted, 2, (some FieldType.int), 1, 40, [])
theorem iX0_doubted : q_inC mX0_doubted := Or.inl ⟨rfl, q_in_at 385 (by decide +kernel) rfl⟩
theorem oX0_doubted : q_mok mX0_doubted 1 := ⟨by decide +kernel, rfl, by decide +kernel, by decide +kernel⟩
abbrev mX0_allow : q_M := (RX0, yX0_allow, cX0_allow, 3, none, 3, 84, [])
theorem iX0_allow : q_inC mX0_allow := Or.inl ⟨rfl, q_in_at 349 (by decide +kernel) rfl⟩
theorem oX0_allow : q_mok mX0_allow 2 := ⟨by decide +kernel, rfl, by decide +kernel, by decide +kernel⟩
abbrev mX0_exclude : q_M := (RX0, yX0_exclude, cX0_exclude, 6, none, 3, 84, [])
theorem iX0_exclude : q_inC mX0_exclude := Or.inl ⟨rfl, q_in_at 341 (by decide +kernel) rfl⟩
theorem oX0_exclude : q_mok mX0_exclude 3 := ⟨by decide +kernel, rfl, by decide +kernel, by decide +kernel⟩
abbrev mX0_block : q_M := (RX0, yX0_block, cX0_block, 3, none, 3, 84, [])
theorem iX0_block : q_inC mX0_block := Or.inl ⟨rfl, q_in_at 393 (by decide +kernel) rfl⟩
theorem oX0_block : q_mok mX0_block 1 := ⟨by decide +kernel, rfl, by decide +kernel, by decide +kernel⟩
abbrev mX0_age : q_M := (RX0, yX0_age, cX0_age, 3, none, 2, 63, [])
theorem iX0_age : q_inC mX0_age := Or.inl ⟨rfl, q_in_at 425 (by decide +kernel) rfl⟩
theorem oX0_age : q_mok mX0_age 1 := ⟨by decide +kernel, rfl, by decide +kernel, by decide +kernel⟩
abbrev mX0_ageTimers : q_M := (RX0, yX0_ageTimers, cX0_ageTimers, 4, (some FieldType.int), 1, 40, [])
theorem iX0_ageTimers : q_inC mX0_ageTimers := Or.inl ⟨rfl, q_in_at 429 (by decide +kernel) rfl⟩
theorem oX0_ageTimers : q_mok mX0_ageTimers 1 := ⟨by decide +kernel, rfl, by decide +kernel, by decide +kernel⟩
abbrev mX0_include : q_M := (RX0, yX0_include, cX0_include, 1, none, 1, 40, [])
theorem iX0_include : q_inC mX0_include := Or.inl ⟨rfl, q_in_at 131 (by decide +kernel) rfl⟩
theorem oX0_include : q_mok mX0_include 0 := ⟨by decide +kernel, rfl, by decide +kernel, by decide +kernel⟩
abbrev mX0_setTimers : q_M := (RX0, yX0_setTimers, cX0_setTimers, 4, none, 2, 61, [])
theorem iX0_setTimers : q_inC mX0_setTimers := Or.inl ⟨rfl, q_in_at 124 (by decide +kernel) rfl⟩
theorem oX0_setTimers : q_mok mX0_setTimers 2 := ⟨by decide +kernel, rfl, by decide +kernel, by decide +kernel⟩
abbrev mX0_lowerTimers : q_M := (RX0, yX0_lowerTimers, cX0_lowerTimers, 4, none, 2, 61, [])
theorem iX0_lowerTimers : q_inC mX0_lowerTimers := Or.inl ⟨rfl, q_in_at 368 (by decide +kernel) rfl⟩
theorem oX0_lowerTimers : q_mok mX0_lowerTimers 2 := ⟨by decide +kernel, rfl, by decide +kernel, by decide +kernel⟩
abbrev mX0_lowerOwnTimer : q_M := (RX0, yX0_lowerOwnTimer, cX0_lowerOwnTimer, 2, none, 2, 61, [])
theorem iX0_lowerOwnTimer : q_inC mX0_lowerOwnTimer := Or.inl ⟨rfl, q_in_at 377 (by decide +kernel) rfl⟩
theorem oX0_lowerOwnTimer : q_mok mX0_lowerOwnTimer 1 := ⟨by decide +kernel, rfl, by decide +kernel, by decide +kernel⟩
abbrev mX1_init : q_M := (RX1, yX1_init, cX1_init, 3, none, 5, 125, [])
theorem iX1_init : q_inC mX1_init := Or.inl ⟨rfl, q_in_at 62 (by decide +kernel) rfl⟩
theorem oX1_init : q_mok mX1_init 1 := ⟨by decide +kernel, rfl, by decide +kernel, by decide +kernel⟩
abbrev mX1_reset : q_M := (RX1, yX1_reset, cX1_reset, 2, none, 4, 104, [])
theorem iX1_reset : q_inC mX1_reset := Or.inl ⟨rfl, q_in_at 115 (by decide +kernel) rfl⟩
theorem oX1_reset : q_mok mX1_reset 0 := ⟨by decide +kernel, rfl, by decide +kernel, by decide +kernel⟩
abbrev mX1_set : q_M := (RX1, yX1_set, cX1_set, 4, none, 2, 60, [])
theorem iX1_set : q_inC mX1_set := Or.inl ⟨rfl, q_in_at 139 (by decide +kernel) rfl⟩
theorem oX1_set : q_mok mX1_set 3 := ⟨by decide +kernel, rfl, by decide +kernel, by decide +kernel⟩
abbrev mX1_grace : q_M := (RX1, yX1_grace, cX1_grace, 1, (some FieldType.int), 1, 40, [])
theorem iX1_grace : q_inC mX1_grace := Or.inl ⟨rfl, q_in_at 324 (by decide +kernel) rfl⟩
theorem oX1_grace : q_mok mX1_grace 0 := ⟨by decide +kernel, rfl, by decide +kernel, by decide +kernel⟩
abbrev mX1_last : q_M := (RX1, yX1_last, cX1_last, 1, (some FieldType.int), 1, 40, [])
theorem iX1_last : q_inC mX1_last := Or.inl ⟨rfl, q_in_at 364 (by decide +kernel) rfl⟩
theorem oX1_last : q_mok mX1_last 0 := ⟨by decide +kernel, rfl, by decide +kernel, by decide +kernel⟩
abbrev mX1_asks : q_M := (RX1, yX1_asks, cX1_asks, 1, (some FieldType.boolean), 1, 40, [])
theorem iX1_asks : q_inC mX1_asks := Or.inl ⟨rfl, q_in_at 143 (by decide +kernel) rfl⟩
theorem oX1_asks : q_mok mX1_asks 0 := ⟨by decide +kernel, rfl, by decide +kernel, by decide +kernel⟩
abbrev mX1_records : q_M := (RX1, yX1_records, cX1_records, 3, (some FieldType.int), 2, 60, [])
theorem iX1_records : q_inC mX1_records := Or.inl ⟨rfl, q_in_at 550 (by decide +kernel) rfl⟩
theorem oX1_records : q_mok mX1_records 0 := ⟨by decide +kernel, rfl, by decide +kernel, by decide +kernel⟩
abbrev mX1_yieldTo : q_M := (RX1, yX1_yieldTo, cX1_yieldTo, 2, none, 2, 61, [])
theorem iX1_yieldTo : q_inC mX1_yieldTo := Or.inl ⟨rfl, q_in_at 404 (by decide +kernel) rfl⟩
theorem oX1_yieldTo : q_mok mX1_yieldTo 1 := ⟨by decide +kernel, rfl, by decide +kernel, by decide +kernel⟩
abbrev mX1_ageFilters : q_M := (RX1, yX1_ageFilters, cX1_ageFilters, 3, none, 3, 85, [])
theorem iX1_ageFilters : q_inC mX1_ageFilters := Or.inl ⟨rfl, q_in_at 421 (by decide +kernel) rfl⟩
theorem oX1_ageFilters : q_mok mX1_ageFilters 1 := ⟨by decide +kernel, rfl, by decide +kernel, by decide +kernel⟩
abbrev mX1_runClock : q_M := (RX1, yX1_runClock, cX1_runClock, 3, none, 3, 86, [])
theorem iX1_runClock : q_inC mX1_runClock := Or.inl ⟨rfl, q_in_at 437 (by decide +kernel) rfl⟩
theorem oX1_runClock : q_mok mX1_runClock 2 := ⟨by decide +kernel, rfl, by decide +kernel, by decide +kernel⟩
abbrev mX1_hearReport : q_M := (RX1, yX1_hearReport, cX1_hearReport, 5, none, 5, 134, [])
theorem iX1_hearReport : q_inC mX1_hearReport := Or.inl ⟨rfl, q_in_at 336 (by decide +kernel) rfl⟩
theorem oX1_hearReport : q_mok mX1_hearReport 4 := ⟨by decide +kernel, rfl, by decide +kernel, by decide +kernel⟩
abbrev mX1_hearToIn : q_M := (RX1, yX1_hearToIn, cX1_hearToIn, 6, none, 4, 109, [])
theorem iX1_hearToIn : q_inC mX1_hearToIn := Or.inl ⟨rfl, q_in_at 345 (by decide +kernel) rfl⟩
theorem oX1_hearToIn : q_mok mX1_hearToIn 3 := ⟨by decide +kernel, rfl, by decide +kernel, by decide +kernel⟩
abbrev mX1_hearToEx : q_M := (RX1, yX1_hearToEx, cX1_hearToEx, 6, none, 4, 109, [])
theorem iX1_hearToEx : q_inC mX1_hearToEx := Or.inl ⟨rfl, q_in_at 381 (by decide +kernel) rfl⟩
theorem oX1_hearToEx : q_mok mX1_hearToEx 3 := ⟨by decide +kernel, rfl, by decide +kernel, by decide +kernel⟩
abbrev mX1_hearBlock : q_M := (RX1, yX1_hearBlock, cX1_hearBlock, 6, none, 4, 109, [])
theorem iX1_hearBlock : q_inC mX1_hearBlock := Or.inl ⟨rfl, q_in_at 389 (by decide +kernel) rfl⟩
theorem oX1_hearBlock : q_mok mX1_hearBlock 3 := ⟨by decide +kernel, rfl, by decide +kernel, by decide +kernel⟩
abbrev mX1_askSources : q_M := (RX1, yX1_askSources, cX1_askSources, 4, none, 3, 86, [])
theorem iX1_askSources : q_inC mX1_askSources := Or.inl ⟨rfl, q_in_at 353 (by decide +kernel) rfl⟩
theorem oX1_askSources : q_mok mX1_askSources 3 := ⟨by decide +kernel, rfl, by decide +kernel, by decide +kernel⟩
abbrev mX1_askGroup : q_M := (RX1, yX1_askGroup, cX1_askGroup, 3, none, 3, 86, [])
theorem iX1_askGroup : q_inC mX1_askGroup := Or.inl ⟨rfl, q_in_at 373 (by decide +kernel) rfl⟩
theorem oX1_askGroup : q_mok mX1_askGroup 2 := ⟨by decide +kernel, rfl, by decide +kernel, by decide +kernel⟩
abbrev mX1_hearQuery : q_M := (RX1, yX1_hearQuery, cX1_hearQuery, 3, none, 3, 84, [])
theorem iX1_hearQuery : q_inC mX1_hearQuery := Or.inl ⟨rfl, q_in_at 409 (by decide +kernel) rfl⟩
theorem oX1_hearQuery : q_mok mX1_hearQuery 2 := ⟨by decide +kernel, rfl, by decide +kernel, by decide +kernel⟩
abbrev mX1_changeWish : q_M := (RX1, yX1_changeWish, cX1_changeWish, 13, none, 6, 158, [])
theorem iX1_changeWish : q_inC mX1_changeWish := Or.inl ⟨rfl, q_in_at 448 (by decide +kernel) rfl⟩
theorem oX1_changeWish : q_mok mX1_changeWish 5 := ⟨by decide +kernel, rfl, by decide +kernel, by decide +kernel⟩
abbrev mX1_letAnswer : q_M := (RX1, yX1_letAnswer, cX1_letAnswer, 6, (some FieldType.int), 6, 158, [])
theorem iX1_letAnswer : q_inC mX1_letAnswer := Or.inl ⟨rfl, q_in_at 460 (by decide +kernel) rfl⟩
theorem oX1_letAnswer : q_mok mX1_letAnswer 2 := ⟨by decide +kernel, rfl, by decide +kernel, by decide +kernel⟩
abbrev mX1_hasMemberFor : q_M := (RX1, yX1_hasMemberFor, cX1_hasMemberFor, 4, (some FieldType.boolean), 3, 83, [])
theorem iX1_hasMemberFor : q_inC mX1_hasMemberFor := Or.inl ⟨rfl, q_in_at 475 (by decide +kernel) rfl⟩
theorem oX1_hasMemberFor : q_mok mX1_hasMemberFor 2 := ⟨by decide +kernel, rfl, by decide +kernel, by decide +kernel⟩
abbrev mX2_init : q_M := (RX2, yX2_init, cX2_init, 1, none, 1, 40, [])
theorem iX2_init : q_inC mX2_init := Or.inl ⟨rfl, q_in_at 100 (by decide +kernel) rfl⟩
theorem oX2_init : q_mok mX2_init 0 := ⟨by decide +kernel, rfl, by decide +kernel, by decide +kernel⟩
abbrev mX2_reset : q_M := (RX2, yX2_reset, cX2_reset, 2, none, 1, 40, [])
theorem iX2_reset : q_inC mX2_reset := Or.inl ⟨rfl, q_in_at 135 (by decide +kernel) rfl⟩
theorem oX2_reset : q_mok mX2_reset 0 := ⟨by decide +kernel, rfl, by decide +kernel, by decide +kernel⟩
abbrev mX2_wants : q_M := (RX2, yX2_wants, cX2_wants, 3, (some FieldType.boolean), 2, 61, [])
theorem iX2_wants : q_inC mX2_wants := Or.inl ⟨rfl, q_in_at 479 (by decide +kernel) rfl⟩
theorem oX2_wants : q_mok mX2_wants 2 := ⟨by decide +kernel, rfl, by decide +kernel, by decide +kernel⟩
abbrev mX3_init : q_M := (RX3, yX3_init, cX3_init, 1, none, 1, 40, [])
theorem iX3_init : q_inC mX3_init := Or.inl ⟨rfl, q_in_at 176 (by decide +kernel) rfl⟩
theorem oX3_init : q_mok mX3_init 0 := ⟨by decide +kernel, rfl, by decide +kernel, by decide +kernel⟩
abbrev mX3_reset : q_M := (RX3, yX3_reset, cX3_reset, 1, none, 1, 40, [])
theorem iX3_reset : q_inC mX3_reset := Or.inl ⟨rfl, q_in_at 218 (by decide +kernel) rfl⟩
theorem oX3_reset : q_mok mX3_reset 0 := ⟨by decide +kernel, rfl, by decide +kernel, by decide +kernel⟩
abbrev mX3_add : q_M := (RX3, yX3_add, cX3_add, 5, none, 2, 62, [])
theorem iX3_add : q_inC mX3_add := Or.inl ⟨rfl, q_in_at 357 (by decide +kernel) rfl⟩
theorem oX3_add : q_mok mX3_add 3 := ⟨by decide +kernel, rfl, by decide +kernel, by decide +kernel⟩
abbrev mX3_look : q_M := (RX3, yX3_look, cX3_look, 4, (some FieldType.int), 2, 62, [])
theorem iX3_look : q_inC mX3_look := Or.inl ⟨rfl, q_in_at 538 (by decide +kernel) rfl⟩
theorem oX3_look : q_mok mX3_look 2 := ⟨by decide +kernel, rfl, by decide +kernel, by decide +kernel⟩
abbrev mX4_init : q_M := (RX4, yX4_init, cX4_init, 4, none, 6, 147, [])
theorem iX4_init : q_inC mX4_init := Or.inl ⟨rfl, q_in_at 47 (by decide +kernel) rfl⟩
theorem oX4_init : q_mok mX4_init 1 := ⟨by decide +kernel, rfl, by decide +kernel, by decide +kernel⟩
abbrev mX4_settings : q_M := (RX4, yX4_settings, cX4_settings, 5, (some FieldType.int), 7, 122, [])
theorem iX4_settings : q_inC mX4_settings := Or.inl ⟨rfl, q_in_at 230 (by decide +kernel) rfl⟩
theorem oX4_settings : q_mok mX4_settings 4 := ⟨by decide +kernel, rfl, by decide +kernel, by decide +kernel⟩
abbrev mX4_report : q_M := (RX4, yX4_report, cX4_report, 6, (some FieldType.int), 7, 158, [])
theorem iX4_report : q_inC mX4_report := Or.inl ⟨rfl, q_in_at 331 (by decide +kernel) rfl⟩
theorem oX4_report : q_mok mX4_report 4 := ⟨by decide +kernel, rfl, by decide +kernel, by decide +kernel⟩
abbrev mX4_query : q_M := (RX4, yX4_query, cX4_query, 6, (some FieldType.boolean), 7, 122, [])
theorem iX4_query : q_inC mX4_query := Or.inl ⟨rfl, q_in_at 400 (by decide +kernel) rfl⟩
theorem oX4_query : q_mok mX4_query 5 := ⟨by decide +kernel, rfl, by decide +kernel, by decide +kernel⟩
abbrev mX4_tick : q_M := (RX4, yX4_tick, cX4_tick, 4, (some FieldType.int), 7, 133, [])
theorem iX4_tick : q_inC mX4_tick := Or.inl ⟨rfl, q_in_at 417 (by decide +kernel) rfl⟩
theorem oX4_tick : q_mok mX4_tick 1 := ⟨by decide +kernel, rfl, by decide +kernel, by decide +kernel⟩
abbrev mX4_member : q_M := (RX4, yX4_member, cX4_member, 7, (some FieldType.int), 7, 190, [])
theorem iX4_member : q_inC mX4_member := Or.inl ⟨rfl, q_in_at 444 (by decide +kernel) rfl⟩
theorem oX4_member : q_mok mX4_member 5 := ⟨by decide +kernel, rfl, by decide +kernel, by decide +kernel⟩
abbrev mX4_answer : q_M := (RX4, yX4_answer, cX4_answer, 3, (some FieldType.int), 7, 183, [])
theorem iX4_answer : q_inC mX4_answer := Or.inl ⟨rfl, q_in_at 456 (by decide +kernel) rfl⟩
theorem oX4_answer : q_mok mX4_answer 2 := ⟨by decide +kernel, rfl, by decide +kernel, by decide +kernel⟩
abbrev mX4_wanted : q_M := (RX4, yX4_wanted, cX4_wanted, 4, (some FieldType.boolean), 8, 144, [])
theorem iX4_wanted : q_inC mX4_wanted := Or.inl ⟨rfl, q_in_at 467 (by decide +kernel) rfl⟩
theorem oX4_wanted : q_mok mX4_wanted 3 := ⟨by decide +kernel, rfl, by decide +kernel, by decide +kernel⟩
abbrev mX4_passed : q_M := (RX4, yX4_passed, cX4_passed, 6, (some FieldType.int), 8, 144, [])
theorem iX4_passed : q_inC mX4_passed := Or.inl ⟨rfl, q_in_at 487 (by decide +kernel) rfl⟩
theorem oX4_passed : q_mok mX4_passed 3 := ⟨by decide +kernel, rfl, by decide +kernel, by decide +kernel⟩
abbrev mX4_mode : q_M := (RX4, yX4_mode, cX4_mode, 3, (some FieldType.int), 8, 143, [])
theorem iX4_mode : q_inC mX4_mode := Or.inl ⟨rfl, q_in_at 498 (by decide +kernel) rfl⟩
theorem oX4_mode : q_mok mX4_mode 2 := ⟨by decide +kernel, rfl, by decide +kernel, by decide +kernel⟩
abbrev mX4_sources : q_M := (RX4, yX4_sources, cX4_sources, 5, (some FieldType.int), 8, 143, [])
theorem iX4_sources : q_inC mX4_sources := Or.inl ⟨rfl, q_in_at 513 (by decide +kernel) rfl⟩
theorem oX4_sources : q_mok mX4_sources 3 := ⟨by decide +kernel, rfl, by decide +kernel, by decide +kernel⟩
abbrev mX4_timer : q_M := (RX4, yX4_timer, cX4_timer, 4, (some FieldType.int), 8, 144, [])
theorem iX4_timer : q_inC mX4_timer := Or.inl ⟨rfl, q_in_at 520 (by decide +kernel) rfl⟩
theorem oX4_timer : q_mok mX4_timer 3 := ⟨by decide +kernel, rfl, by decide +kernel, by decide +kernel⟩
abbrev mX4_groupTimer : q_M := (RX4, yX4_groupTimer, cX4_groupTimer, 3, (some FieldType.int), 8, 143, [])
theorem iX4_groupTimer : q_inC mX4_groupTimer := Or.inl ⟨rfl, q_in_at 527 (by decide +kernel) rfl⟩
theorem oX4_groupTimer : q_mok mX4_groupTimer 2 := ⟨by decide +kernel, rfl, by decide +kernel, by decide +kernel⟩
abbrev mX4_sent : q_M := (RX4, yX4_sent, cX4_sent, 1, (some FieldType.int), 1, 40, [])
theorem iX4_sent : q_inC mX4_sent := Or.inl ⟨rfl, q_in_at 209 (by decide +kernel) rfl⟩
theorem oX4_sent : q_mok mX4_sent 0 := ⟨by decide +kernel, rfl, by decide +kernel, by decide +kernel⟩
abbrev mX4_asked : q_M := (RX4, yX4_asked, cX4_asked, 3, (some FieldType.int), 7, 122, [])
theorem iX4_asked : q_inC mX4_asked := Or.inl ⟨rfl, q_in_at 534 (by decide +kernel) rfl⟩
theorem oX4_asked : q_mok mX4_asked 2 := ⟨by decide +kernel, rfl, by decide +kernel, by decide +kernel⟩
abbrev mX4_told : q_M := (RX4, yX4_told, cX4_told, 4, (some FieldType.int), 7, 122, [])
theorem iX4_told : q_inC mX4_told := Or.inl ⟨rfl, q_in_at 545 (by decide +kernel) rfl⟩
theorem oX4_told : q_mok mX4_told 2 := ⟨by decide +kernel, rfl, by decide +kernel, by decide +kernel⟩
abbrev mX4_clear : q_M := (RX4, yX4_clear, cX4_clear, 2, none, 5, 125, [])
theorem iX4_clear : q_inC mX4_clear := Or.inl ⟨rfl, q_in_at 213 (by decide +kernel) rfl⟩
theorem oX4_clear : q_mok mX4_clear 0 := ⟨by decide +kernel, rfl, by decide +kernel, by decide +kernel⟩
abbrev mX4_runClocks : q_M := (RX4, yX4_runClocks, cX4_runClocks, 6, none, 4, 108, [])
theorem iX4_runClocks : q_inC mX4_runClocks := Or.inl ⟨rfl, q_in_at 433 (by decide +kernel) rfl⟩
theorem oX4_runClocks : q_mok mX4_runClocks 1 := ⟨by decide +kernel, rfl, by decide +kernel, by decide +kernel⟩
abbrev mX4_filterAt : q_M := (RX4, yX4_filterAt, cX4_filterAt, 3, (some (FieldType.object "GroupFilters$Filter")), 7, 121, [])
theorem iX4_filterAt : q_inC mX4_filterAt := Or.inl ⟨rfl, q_in_at 502 (by decide +kernel) rfl⟩
theorem oX4_filterAt : q_mok mX4_filterAt 2 := ⟨by decide +kernel, rfl, by decide +kernel, by decide +kernel⟩
abbrev mX4_checkPlace : q_M := (RX4, yX4_checkPlace, cX4_checkPlace, 4, none, 7, 121, [])
theorem iX4_checkPlace : q_inC mX4_checkPlace := Or.inl ⟨rfl, q_in_at 471 (by decide +kernel) rfl⟩
theorem oX4_checkPlace : q_mok mX4_checkPlace 3 := ⟨by decide +kernel, rfl, by decide +kernel, by decide +kernel⟩
abbrev mX4_checkIndex : q_M := (RX4, yX4_checkIndex, cX4_checkIndex, 2, none, 6, 100, [])
theorem iX4_checkIndex : q_inC mX4_checkIndex := Or.inl ⟨rfl, q_in_at 233 (by decide +kernel) rfl⟩
theorem oX4_checkIndex : q_mok mX4_checkIndex 2 := ⟨by decide +kernel, rfl, by decide +kernel, by decide +kernel⟩
abbrev mX4_checkNumber : q_M := (RX4, yX4_checkNumber, cX4_checkNumber, 3, none, 6, 100, [])
theorem iX4_checkNumber : q_inC mX4_checkNumber := Or.inl ⟨rfl, q_in_at 303 (by decide +kernel) rfl⟩
theorem oX4_checkNumber : q_mok mX4_checkNumber 3 := ⟨by decide +kernel, rfl, by decide +kernel, by decide +kernel⟩
abbrev mX4_holds : q_M := (RX4, yX4_holds, cX4_holds, 2, (some FieldType.boolean), 1, 40, [])
theorem iX4_holds : q_inC mX4_holds := Or.inl ⟨rfl, q_in_at 127 (by decide +kernel) rfl⟩
theorem oX4_holds : q_mok mX4_holds 2 := ⟨by decide +kernel, rfl, by decide +kernel, by decide +kernel⟩
abbrev mX5_init : q_M := (RX5, yX5_init, cX5_init, 2, none, 2, 61, [])
theorem iX5_init : q_inC mX5_init := Or.inl ⟨rfl, q_in_at 556 (by decide +kernel) rfl⟩
theorem oX5_init : q_mok mX5_init 1 := ⟨by decide +kernel, rfl, by decide +kernel, by decide +kernel⟩
abbrev mX5_thrown : q_M := (RX5, yX5_thrown, cX5_thrown, 1, (some FieldType.int), 1, 40, [])
theorem iX5_thrown : q_inC mX5_thrown := Or.inl ⟨rfl, q_in_at 626 (by decide +kernel) rfl⟩
theorem oX5_thrown : q_mok mX5_thrown 0 := ⟨by decide +kernel, rfl, by decide +kernel, by decide +kernel⟩
abbrev mX5_begin : q_M := (RX5, yX5_begin, cX5_begin, 2, none, 1, 40, [])
theorem iX5_begin : q_inC mX5_begin := Or.inl ⟨rfl, q_in_at 561 (by decide +kernel) rfl⟩
theorem oX5_begin : q_mok mX5_begin 0 := ⟨by decide +kernel, rfl, by decide +kernel, by decide +kernel⟩
abbrev mX5_isLink : q_M := (RX5, yX5_isLink, cX5_isLink, 2, (some FieldType.boolean), 1, 40, [])
theorem iX5_isLink : q_inC mX5_isLink := Or.inl ⟨rfl, q_in_at 634 (by decide +kernel) rfl⟩
theorem oX5_isLink : q_mok mX5_isLink 1 := ⟨by decide +kernel, rfl, by decide +kernel, by decide +kernel⟩
abbrev mX5_in : q_M := (RX5, yX5_in, cX5_in, 3, (some FieldType.boolean), 1, 40, [])
theorem iX5_in : q_inC mX5_in := Or.inl ⟨rfl, q_in_at 637 (by decide +kernel) rfl⟩
theorem oX5_in : q_mok mX5_in 3 := ⟨by decide +kernel, rfl, by decide +kernel, by decide +kernel⟩
abbrev mX5_grace : q_M := (RX5, yX5_grace, cX5_grace, 2, (some FieldType.int), 1, 40, [])
theorem iX5_grace : q_inC mX5_grace := Or.inl ⟨rfl, q_in_at 641 (by decide +kernel) rfl⟩
theorem oX5_grace : q_mok mX5_grace 1 := ⟨by decide +kernel, rfl, by decide +kernel, by decide +kernel⟩
abbrev mX5_setOf : q_M := (RX5, yX5_setOf, cX5_setOf, 5, (some FieldType.int), 1, 40, [])
theorem iX5_setOf : q_inC mX5_setOf := Or.inl ⟨rfl, q_in_at 658 (by decide +kernel) rfl⟩
theorem oX5_setOf : q_mok mX5_setOf 2 := ⟨by decide +kernel, rfl, by decide +kernel, by decide +kernel⟩
abbrev mX5_become : q_M := (RX5, yX5_become, cX5_become, 7, none, 1, 40, [])
theorem iX5_become : q_inC mX5_become := Or.inl ⟨rfl, q_in_at 662 (by decide +kernel) rfl⟩
theorem oX5_become : q_mok mX5_become 4 := ⟨by decide +kernel, rfl, by decide +kernel, by decide +kernel⟩
abbrev mX5_setTimers : q_M := (RX5, yX5_setTimers, cX5_setTimers, 5, none, 1, 40, [])
theorem iX5_setTimers : q_inC mX5_setTimers := Or.inl ⟨rfl, q_in_at 666 (by decide +kernel) rfl⟩
theorem oX5_setTimers : q_mok mX5_setTimers 3 := ⟨by decide +kernel, rfl, by decide +kernel, by decide +kernel⟩
abbrev mX5_lower : q_M := (RX5, yX5_lower, cX5_lower, 7, none, 1, 40, [])
theorem iX5_lower : q_inC mX5_lower := Or.inl ⟨rfl, q_in_at 682 (by decide +kernel) rfl⟩
theorem oX5_lower : q_mok mX5_lower 3 := ⟨by decide +kernel, rfl, by decide +kernel, by decide +kernel⟩
abbrev mX5_lowerGroup : q_M := (RX5, yX5_lowerGroup, cX5_lowerGroup, 3, none, 1, 40, [])
theorem iX5_lowerGroup : q_inC mX5_lowerGroup := Or.inl ⟨rfl, q_in_at 690 (by decide +kernel) rfl⟩
theorem oX5_lowerGroup : q_mok mX5_lowerGroup 2 := ⟨by decide +kernel, rfl, by decide +kernel, by decide +kernel⟩
abbrev mX5_send : q_M := (RX5, yX5_send, cX5_send, 5, none, 1, 40, [])
theorem iX5_send : q_inC mX5_send := Or.inl ⟨rfl, q_in_at 678 (by decide +kernel) rfl⟩
theorem oX5_send : q_mok mX5_send 3 := ⟨by decide +kernel, rfl, by decide +kernel, by decide +kernel⟩
abbrev mX5_asks : q_M := (RX5, yX5_asks, cX5_asks, 2, (some FieldType.boolean), 1, 40, [])
theorem iX5_asks : q_inC mX5_asks := Or.inl ⟨rfl, q_in_at 674 (by decide +kernel) rfl⟩
theorem oX5_asks : q_mok mX5_asks 1 := ⟨by decide +kernel, rfl, by decide +kernel, by decide +kernel⟩
abbrev mX5_ask : q_M := (RX5, yX5_ask, cX5_ask, 4, none, 2, 66, [])
theorem iX5_ask : q_inC mX5_ask := Or.inl ⟨rfl, q_in_at 670 (by decide +kernel) rfl⟩
theorem oX5_ask : q_mok mX5_ask 3 := ⟨by decide +kernel, rfl, by decide +kernel, by decide +kernel⟩
abbrev mX5_askGroup : q_M := (RX5, yX5_askGroup, cX5_askGroup, 3, none, 2, 64, [])
theorem iX5_askGroup : q_inC mX5_askGroup := Or.inl ⟨rfl, q_in_at 686 (by decide +kernel) rfl⟩
theorem oX5_askGroup : q_mok mX5_askGroup 2 := ⟨by decide +kernel, rfl, by decide +kernel, by decide +kernel⟩
abbrev mX5_including : q_M := (RX5, yX5_including, cX5_including, 7, none, 3, 89, [])
theorem iX5_including : q_inC mX5_including := Or.inl ⟨rfl, q_in_at 694 (by decide +kernel) rfl⟩
theorem oX5_including : q_mok mX5_including 4 := ⟨by decide +kernel, rfl, by decide +kernel, by decide +kernel⟩
abbrev mX5_excluding : q_M := (RX5, yX5_excluding, cX5_excluding, 10, none, 3, 89, [])
theorem iX5_excluding : q_inC mX5_excluding := Or.inl ⟨rfl, q_in_at 654 (by decide +kernel) rfl⟩
theorem oX5_excluding : q_mok mX5_excluding 4 := ⟨by decide +kernel, rfl, by decide +kernel, by decide +kernel⟩
abbrev mX5_reported : q_M := (RX5, yX5_reported, cX5_reported, 6, (some FieldType.int), 4, 118, [])
theorem iX5_reported : q_inC mX5_reported := Or.inl ⟨rfl, q_in_at 650 (by decide +kernel) rfl⟩
theorem oX5_reported : q_mok mX5_reported 4 := ⟨by decide +kernel, rfl, by decide +kernel, by decide +kernel⟩
abbrev mX5_settings : q_M := (RX5, yX5_settings, cX5_settings, 5, (some FieldType.int), 2, 62, [])
theorem iX5_settings : q_inC mX5_settings := Or.inl ⟨rfl, q_in_at 630 (by decide +kernel) rfl⟩
theorem oX5_settings : q_mok mX5_settings 4 := ⟨by decide +kernel, rfl, by decide +kernel, by decide +kernel⟩
abbrev mX5_report : q_M := (RX5, yX5_report, cX5_report, 5, (some FieldType.int), 5, 143, [])
theorem iX5_report : q_inC mX5_report := Or.inl ⟨rfl, q_in_at 645 (by decide +kernel) rfl⟩
theorem oX5_report : q_mok mX5_report 4 := ⟨by decide +kernel, rfl, by decide +kernel, by decide +kernel⟩
abbrev mX5_query : q_M := (RX5, yX5_query, cX5_query, 6, (some FieldType.boolean), 2, 66, [])
theorem iX5_query : q_inC mX5_query := Or.inl ⟨rfl, q_in_at 698 (by decide +kernel) rfl⟩
theorem oX5_query : q_mok mX5_query 5 := ⟨by decide +kernel, rfl, by decide +kernel, by decide +kernel⟩
abbrev mX5_tickRecord : q_M := (RX5, yX5_tickRecord, cX5_tickRecord, 6, none, 2, 66, [])
theorem iX5_tickRecord : q_inC mX5_tickRecord := Or.inl ⟨rfl, q_in_at 706 (by decide +kernel) rfl⟩
theorem oX5_tickRecord : q_mok mX5_tickRecord 1 := ⟨by decide +kernel, rfl, by decide +kernel, by decide +kernel⟩
abbrev mX5_tickLink : q_M := (RX5, yX5_tickLink, cX5_tickLink, 2, (some FieldType.boolean), 2, 64, [])
theorem iX5_tickLink : q_inC mX5_tickLink := Or.inl ⟨rfl, q_in_at 710 (by decide +kernel) rfl⟩
theorem oX5_tickLink : q_mok mX5_tickLink 1 := ⟨by decide +kernel, rfl, by decide +kernel, by decide +kernel⟩
abbrev mX5_tick : q_M := (RX5, yX5_tick, cX5_tick, 5, (some FieldType.int), 3, 91, [])
theorem iX5_tick : q_inC mX5_tick := Or.inl ⟨rfl, q_in_at 702 (by decide +kernel) rfl⟩
theorem oX5_tick : q_mok mX5_tick 1 := ⟨by decide +kernel, rfl, by decide +kernel, by decide +kernel⟩
abbrev mX5_member : q_M := (RX5, yX5_member, cX5_member, 13, (some FieldType.int), 5, 143, [])
theorem iX5_member : q_inC mX5_member := Or.inl ⟨rfl, q_in_at 714 (by decide +kernel) rfl⟩
theorem oX5_member : q_mok mX5_member 5 := ⟨by decide +kernel, rfl, by decide +kernel, by decide +kernel⟩
abbrev mX5_answer : q_M := (RX5, yX5_answer, cX5_answer, 7, (some FieldType.int), 5, 143, [])
theorem iX5_answer : q_inC mX5_answer := Or.inl ⟨rfl, q_in_at 718 (by decide +kernel) rfl⟩
theorem oX5_answer : q_mok mX5_answer 2 := ⟨by decide +kernel, rfl, by decide +kernel, by decide +kernel⟩
abbrev mX5_wanted : q_M := (RX5, yX5_wanted, cX5_wanted, 7, (some FieldType.boolean), 2, 62, [])
theorem iX5_wanted : q_inC mX5_wanted := Or.inl ⟨rfl, q_in_at 722 (by decide +kernel) rfl⟩
theorem oX5_wanted : q_mok mX5_wanted 3 := ⟨by decide +kernel, rfl, by decide +kernel, by decide +kernel⟩
abbrev mX5_passed : q_M := (RX5, yX5_passed, cX5_passed, 9, (some FieldType.int), 2, 62, [])
theorem iX5_passed : q_inC mX5_passed := Or.inl ⟨rfl, q_in_at 726 (by decide +kernel) rfl⟩
theorem oX5_passed : q_mok mX5_passed 3 := ⟨by decide +kernel, rfl, by decide +kernel, by decide +kernel⟩
abbrev mX5_knows : q_M := (RX5, yX5_knows, cX5_knows, 3, (some FieldType.boolean), 2, 62, [])
theorem iX5_knows : q_inC mX5_knows := Or.inl ⟨rfl, q_in_at 734 (by decide +kernel) rfl⟩
theorem oX5_knows : q_mok mX5_knows 2 := ⟨by decide +kernel, rfl, by decide +kernel, by decide +kernel⟩
abbrev mX5_mode : q_M := (RX5, yX5_mode, cX5_mode, 3, (some FieldType.int), 3, 84, [])
theorem iX5_mode : q_inC mX5_mode := Or.inl ⟨rfl, q_in_at 730 (by decide +kernel) rfl⟩
theorem oX5_mode : q_mok mX5_mode 2 := ⟨by decide +kernel, rfl, by decide +kernel, by decide +kernel⟩
abbrev mX5_sources : q_M := (RX5, yX5_sources, cX5_sources, 4, (some FieldType.int), 3, 84, [])
theorem iX5_sources : q_inC mX5_sources := Or.inl ⟨rfl, q_in_at 738 (by decide +kernel) rfl⟩
theorem oX5_sources : q_mok mX5_sources 3 := ⟨by decide +kernel, rfl, by decide +kernel, by decide +kernel⟩
abbrev mX5_timer : q_M := (RX5, yX5_timer, cX5_timer, 4, (some FieldType.int), 2, 62, [])
theorem iX5_timer : q_inC mX5_timer := Or.inl ⟨rfl, q_in_at 742 (by decide +kernel) rfl⟩
theorem oX5_timer : q_mok mX5_timer 3 := ⟨by decide +kernel, rfl, by decide +kernel, by decide +kernel⟩
abbrev mX5_groupTimer : q_M := (RX5, yX5_groupTimer, cX5_groupTimer, 3, (some FieldType.int), 3, 84, [])
theorem iX5_groupTimer : q_inC mX5_groupTimer := Or.inl ⟨rfl, q_in_at 746 (by decide +kernel) rfl⟩
theorem oX5_groupTimer : q_mok mX5_groupTimer 2 := ⟨by decide +kernel, rfl, by decide +kernel, by decide +kernel⟩
abbrev mX5_sent : q_M := (RX5, yX5_sent, cX5_sent, 1, (some FieldType.int), 1, 40, [])
theorem iX5_sent : q_inC mX5_sent := Or.inl ⟨rfl, q_in_at 750 (by decide +kernel) rfl⟩
theorem oX5_sent : q_mok mX5_sent 0 := ⟨by decide +kernel, rfl, by decide +kernel, by decide +kernel⟩
abbrev mX5_asked : q_M := (RX5, yX5_asked, cX5_asked, 4, (some FieldType.int), 2, 62, [])
theorem iX5_asked : q_inC mX5_asked := Or.inl ⟨rfl, q_in_at 754 (by decide +kernel) rfl⟩
theorem oX5_asked : q_mok mX5_asked 2 := ⟨by decide +kernel, rfl, by decide +kernel, by decide +kernel⟩
abbrev mX5_told : q_M := (RX5, yX5_told, cX5_told, 5, (some FieldType.int), 2, 62, [])
theorem iX5_told : q_inC mX5_told := Or.inl ⟨rfl, q_in_at 758 (by decide +kernel) rfl⟩
theorem oX5_told : q_mok mX5_told 2 := ⟨by decide +kernel, rfl, by decide +kernel, by decide +kernel⟩
abbrev mX5_clear : q_M := (RX5, yX5_clear, cX5_clear, 1, none, 2, 61, [])
theorem iX5_clear : q_inC mX5_clear := Or.inl ⟨rfl, q_in_at 762 (by decide +kernel) rfl⟩
theorem oX5_clear : q_mok mX5_clear 0 := ⟨by decide +kernel, rfl, by decide +kernel, by decide +kernel⟩
abbrev mJ9_floorMod_7cf53 : q_M := (RJ9, yJ9_floorMod_7cf53, cJ9_floorMod_7cf53, 3, (some FieldType.int), 1, 40, [])
theorem iJ9_floorMod_7cf53 : q_inC mJ9_floorMod_7cf53 := Or.inl ⟨rfl, q_in_at 360 (by decide +kernel) rfl⟩
theorem oJ9_floorMod_7cf53 : q_mok mJ9_floorMod_7cf53 2 := ⟨by decide +kernel, rfl, by decide +kernel, by decide +kernel⟩
abbrev mJ9_max_7cf53 : q_M := (RJ9, yJ9_max_7cf53, cJ9_max_7cf53, 2, (some FieldType.int), 1, 40, [])
theorem iJ9_max_7cf53 : q_inC mJ9_max_7cf53 := Or.inl ⟨rfl, q_in_at 56 (by decide +kernel) rfl⟩
theorem oJ9_max_7cf53 : q_mok mJ9_max_7cf53 2 := ⟨by decide +kernel, rfl, by decide +kernel, by decide +kernel⟩
abbrev mJ9_min_7cf53 : q_M := (RJ9, yJ9_min_7cf53, cJ9_min_7cf53, 2, (some FieldType.int), 1, 40, [])
theorem iJ9_min_7cf53 : q_inC mJ9_min_7cf53 := Or.inl ⟨rfl, q_in_at 53 (by decide +kernel) rfl⟩
theorem oJ9_min_7cf53 : q_mok mJ9_min_7cf53 2 := ⟨by decide +kernel, rfl, by decide +kernel, by decide +kernel⟩
abbrev mL_cell : q_M := (RL, yL_cell, cL_cell, 2, (some FieldType.int), 1, 40, [])
theorem iL_cell : q_inC mL_cell := Or.inl ⟨rfl, q_in_at 221 (by decide +kernel) rfl⟩
theorem oL_cell : q_mok mL_cell 2 := ⟨by decide +kernel, rfl, by decide +kernel, by decide +kernel⟩
abbrev mL_settings : q_M := (RL, yL_settings, cL_settings, 7, (some FieldType.int), 8, 146, [(0, 14, 17, 13), (0, 14, 21, 15)])
theorem iL_settings : q_inC mL_settings := Or.inr (q_in_at 224 (by decide +kernel) rfl)
theorem oL_settings : q_mok mL_settings 6 := ⟨by decide +kernel, rfl, by decide +kernel, by decide +kernel⟩
abbrev mL_report : q_M := (RL, yL_report, cL_report, 7, (some FieldType.int), 8, 183, [(0, 14, 17, 13), (0, 14, 21, 15)])
theorem iL_report : q_inC mL_report := Or.inr (q_in_at 327 (by decide +kernel) rfl)
theorem oL_report : q_mok mL_report 6 := ⟨by decide +kernel, rfl, by decide +kernel, by decide +kernel⟩
abbrev mL_query : q_M := (RL, yL_query, cL_query, 8, (some FieldType.int), 8, 147, [(0, 23, 26, 13), (0, 23, 30, 15)])
theorem iL_query : q_inC mL_query := Or.inr (q_in_at 396 (by decide +kernel) rfl)
theorem oL_query : q_mok mL_query 7 := ⟨by decide +kernel, rfl, by decide +kernel, by decide +kernel⟩
abbrev mL_tick : q_M := (RL, yL_tick, cL_tick, 4, (some FieldType.int), 8, 156, [(0, 9, 12, 15)])
theorem iL_tick : q_inC mL_tick := Or.inr (q_in_at 413 (by decide +kernel) rfl)
theorem oL_tick : q_mok mL_tick 3 := ⟨by decide +kernel, rfl, by decide +kernel, by decide +kernel⟩
abbrev mL_member : q_M := (RL, yL_member, cL_member, 8, (some FieldType.int), 8, 216, [(0, 16, 19, 13), (0, 16, 23, 15)])
theorem iL_member : q_inC mL_member := Or.inr (q_in_at 440 (by decide +kernel) rfl)
theorem oL_member : q_mok mL_member 7 := ⟨by decide +kernel, rfl, by decide +kernel, by decide +kernel⟩
abbrev mL_answer : q_M := (RL, yL_answer, cL_answer, 5, (some FieldType.int), 8, 205, [(0, 10, 13, 13)])
theorem iL_answer : q_inC mL_answer := Or.inr (q_in_at 452 (by decide +kernel) rfl)
theorem oL_answer : q_mok mL_answer 4 := ⟨by decide +kernel, rfl, by decide +kernel, by decide +kernel⟩
abbrev mL_wanted : q_M := (RL, yL_wanted, cL_wanted, 6, (some FieldType.int), 9, 167, [(0, 19, 22, 13)])
theorem iL_wanted : q_inC mL_wanted := Or.inr (q_in_at 463 (by decide +kernel) rfl)
theorem oL_wanted : q_mok mL_wanted 5 := ⟨by decide +kernel, rfl, by decide +kernel, by decide +kernel⟩
abbrev mL_passed : q_M := (RL, yL_passed, cL_passed, 6, (some FieldType.int), 9, 169, [(0, 12, 15, 13)])
theorem iL_passed : q_inC mL_passed := Or.inr (q_in_at 483 (by decide +kernel) rfl)
theorem oL_passed : q_mok mL_passed 5 := ⟨by decide +kernel, rfl, by decide +kernel, by decide +kernel⟩
abbrev mL_mode : q_M := (RL, yL_mode, cL_mode, 5, (some FieldType.int), 9, 165, [(0, 10, 13, 13)])
theorem iL_mode : q_inC mL_mode := Or.inr (q_in_at 494 (by decide +kernel) rfl)
theorem oL_mode : q_mok mL_mode 4 := ⟨by decide +kernel, rfl, by decide +kernel, by decide +kernel⟩
abbrev mL_sources : q_M := (RL, yL_sources, cL_sources, 6, (some FieldType.int), 9, 167, [(0, 12, 15, 13)])
theorem iL_sources : q_inC mL_sources := Or.inr (q_in_at 509 (by decide +kernel) rfl)
theorem oL_sources : q_mok mL_sources 5 := ⟨by decide +kernel, rfl, by decide +kernel, by decide +kernel⟩
abbrev mL_timer : q_M := (RL, yL_timer, cL_timer, 6, (some FieldType.int), 9, 167, [(0, 12, 15, 13)])
theorem iL_timer : q_inC mL_timer := Or.inr (q_in_at 516 (by decide +kernel) rfl)
theorem oL_timer : q_mok mL_timer 5 := ⟨by decide +kernel, rfl, by decide +kernel, by decide +kernel⟩
abbrev mL_groupTimer : q_M := (RL, yL_groupTimer, cL_groupTimer, 5, (some FieldType.int), 9, 165, [(0, 10, 13, 13)])
theorem iL_groupTimer : q_inC mL_groupTimer := Or.inr (q_in_at 523 (by decide +kernel) rfl)
theorem oL_groupTimer : q_mok mL_groupTimer 4 := ⟨by decide +kernel, rfl, by decide +kernel, by decide +kernel⟩
abbrev mL_asked : q_M := (RL, yL_asked, cL_asked, 5, (some FieldType.int), 8, 144, [(0, 10, 13, 13), (0, 10, 17, 15)])
theorem iL_asked : q_inC mL_asked := Or.inr (q_in_at 530 (by decide +kernel) rfl)
theorem oL_asked : q_mok mL_asked 4 := ⟨by decide +kernel, rfl, by decide +kernel, by decide +kernel⟩
abbrev mL_told : q_M := (RL, yL_told, cL_told, 5, (some FieldType.int), 8, 145, [(0, 10, 13, 13), (0, 10, 17, 15)])
theorem iL_told : q_inC mL_told := Or.inr (q_in_at 541 (by decide +kernel) rfl)
theorem oL_told : q_mok mL_told 4 := ⟨by decide +kernel, rfl, by decide +kernel, by decide +kernel⟩
abbrev mL_law : q_M := (RL, yL_law, cL_law, 7, (some FieldType.boolean), 10, 243, [])
end
section
theorem dX0_init_0 : decode cX0_init 0 = .ok (.aload_n 0, 1) := by decide +kernel
theorem dX0_init_1 : decode cX0_init 1 = .ok (.invokespecial 3, 3) := by decide +kernel
theorem dX0_init_4 : decode cX0_init 4 = .ok (.aload_n 0, 1) := by decide +kernel
theorem dX0_init_5 : decode cX0_init 5 = .ok (.bipush 16, 2) := by decide +kernel
theorem dX0_init_7 : decode cX0_init 7 = .ok (.newarray .int, 2) := by decide +kernel
theorem dX0_init_9 : decode cX0_init 9 = .ok (.putfield 9, 3) := by decide +kernel
theorem dX0_init_12 : decode cX0_init 12 = .ok (.return_, 1) := by decide +kernel
theorem dX0_reset_0 : decode cX0_reset 0 = .ok (.aload_n 0, 1) := by decide +kernel
theorem dX0_reset_1 : decode cX0_reset 1 = .ok (.ldc 15, 2) := by decide +kernel
theorem dX0_reset_3 : decode cX0_reset 3 = .ok (.iconst 0, 1) := by decide +kernel
theorem dX0_reset_4 : decode cX0_reset 4 = .ok (.invokevirtual 16, 3) := by decide +kernel
theorem dX0_reset_7 : decode cX0_reset 7 = .ok (.aload_n 0, 1) := by decide +kernel
theorem dX0_reset_8 : decode cX0_reset 8 = .ok (.iconst 0, 1) := by decide +kernel
theorem dX0_reset_9 : decode cX0_reset 9 = .ok (.putfield 20, 3) := by decide +kernel
theorem dX0_reset_12 : decode cX0_reset 12 = .ok (.aload_n 0, 1) := by decide +kernel
theorem dX0_reset_13 : decode cX0_reset 13 = .ok (.invokevirtual 24, 3) := by decide +kernel
theorem dX0_reset_16 : decode cX0_reset 16 = .ok (.return_, 1) := by decide +kernel
theorem dX0_state_0 : decode cX0_state 0 = .ok (.aload_n 0, 1) := by decide +kernel
theorem dX0_state_1 : decode cX0_state 1 = .ok (.getfield 27, 3) := by decide +kernel
theorem dX0_state_4 : decode cX0_state 4 = .ok (.ifCond .eq 5, 3) := by decide +kernel
theorem dX0_state_7 : decode cX0_state 7 = .ok (.iconst 1, 1) := by decide +kernel
theorem dX0_state_8 : decode cX0_state 8 = .ok (.ireturn, 1) := by decide +kernel
theorem dX0_state_9 : decode cX0_state 9 = .ok (.aload_n 0, 1) := by decide +kernel
theorem dX0_state_10 : decode cX0_state 10 = .ok (.getfield 20, 3) := by decide +kernel
theorem dX0_state_13 : decode cX0_state 13 = .ok (.ifCond .ne 7, 3) := by decide +kernel
theorem dX0_state_16 : decode cX0_state 16 = .ok (.iconst (-1), 1) := by decide +kernel
theorem dX0_state_17 : decode cX0_state 17 = .ok (.goto 4, 3) := by decide +kernel
theorem dX0_state_20 : decode cX0_state 20 = .ok (.iconst 0, 1) := by decide +kernel
theorem dX0_state_21 : decode cX0_state 21 = .ok (.ireturn, 1) := by decide +kernel
theorem dX0_lets_0 : decode cX0_lets 0 = .ok (.aload_n 0, 1) := by decide +kernel
theorem dX0_lets_1 : decode cX0_lets 1 = .ok (.getfield 27, 3) := by decide +kernel
theorem dX0_lets_4 : decode cX0_lets 4 = .ok (.ifCond .eq 22, 3) := by decide +kernel
theorem dX0_lets_7 : decode cX0_lets 7 = .ok (.aload_n 0, 1) := by decide +kernel
theorem dX0_lets_8 : decode cX0_lets 8 = .ok (.getfield 31, 3) := by decide +kernel
theorem dX0_lets_11 : decode cX0_lets 11 = .ok (.iload_n 1, 1) := by decide +kernel
theorem dX0_lets_12 : decode cX0_lets 12 = .ok (.invokestatic 34, 3) := by decide +kernel
theorem dX0_lets_15 : decode cX0_lets 15 = .ok (.ifCond .ne 7, 3) := by decide +kernel
theorem dX0_lets_18 : decode cX0_lets 18 = .ok (.iconst 1, 1) := by decide +kernel
theorem dX0_lets_19 : decode cX0_lets 19 = .ok (.goto 15, 3) := by decide +kernel
theorem dX0_lets_22 : decode cX0_lets 22 = .ok (.iconst 0, 1) := by decide +kernel
theorem dX0_lets_23 : decode cX0_lets 23 = .ok (.goto 11, 3) := by decide +kernel
theorem dX0_lets_26 : decode cX0_lets 26 = .ok (.aload_n 0, 1) := by decide +kernel
theorem dX0_lets_27 : decode cX0_lets 27 = .ok (.getfield 20, 3) := by decide +kernel
theorem dX0_lets_30 : decode cX0_lets 30 = .ok (.iload_n 1, 1) := by decide +kernel
theorem dX0_lets_31 : decode cX0_lets 31 = .ok (.invokestatic 34, 3) := by decide +kernel
theorem dX0_lets_34 : decode cX0_lets 34 = .ok (.ireturn, 1) := by decide +kernel
theorem dX0_doubted_0 : decode cX0_doubted 0 = .ok (.aload_n 0, 1) := by decide +kernel
theorem dX0_doubted_1 : decode cX0_doubted 1 = .ok (.getfield 27, 3) := by decide +kernel
theorem dX0_doubted_4 : decode cX0_doubted 4 = .ok (.ifCond .eq 14, 3) := by decide +kernel
theorem dX0_doubted_7 : decode cX0_doubted 7 = .ok (.iload_n 1, 1) := by decide +kernel
theorem dX0_doubted_8 : decode cX0_doubted 8 = .ok (.aload_n 0, 1) := by decide +kernel
theorem dX0_doubted_9 : decode cX0_doubted 9 = .ok (.getfield 31, 3) := by decide +kernel
theorem dX0_doubted_12 : decode cX0_doubted 12 = .ok (.iconst (-1), 1) := by decide +kernel
theorem dX0_doubted_13 : decode cX0_doubted 13 = .ok (.ixor, 1) := by decide +kernel
theorem dX0_doubted_14 : decode cX0_doubted 14 = .ok (.iand, 1) := by decide +kernel
theorem dX0_doubted_15 : decode cX0_doubted 15 = .ok (.goto 9, 3) := by decide +kernel
theorem dX0_doubted_18 : decode cX0_doubted 18 = .ok (.iload_n 1, 1) := by decide +kernel
theorem dX0_doubted_19 : decode cX0_doubted 19 = .ok (.aload_n 0, 1) := by decide +kernel
theorem dX0_doubted_20 : decode cX0_doubted 20 = .ok (.getfield 20, 3) := by decide +kernel
theorem dX0_doubted_23 : decode cX0_doubted 23 = .ok (.iand, 1) := by decide +kernel
theorem dX0_doubted_24 : decode cX0_doubted 24 = .ok (.ireturn, 1) := by decide +kernel
theorem dX0_allow_0 : decode cX0_allow 0 = .ok (.aload_n 0, 1) := by decide +kernel
theorem dX0_allow_1 : decode cX0_allow 1 = .ok (.dup, 1) := by decide +kernel
theorem dX0_allow_2 : decode cX0_allow 2 = .ok (.getfield 20, 3) := by decide +kernel
theorem dX0_allow_5 : decode cX0_allow 5 = .ok (.iload_n 1, 1) := by decide +kernel
theorem dX0_allow_6 : decode cX0_allow 6 = .ok (.ior, 1) := by decide +kernel
theorem dX0_allow_7 : decode cX0_allow 7 = .ok (.putfield 20, 3) := by decide +kernel
theorem dX0_allow_10 : decode cX0_allow 10 = .ok (.aload_n 0, 1) := by decide +kernel
theorem dX0_allow_11 : decode cX0_allow 11 = .ok (.dup, 1) := by decide +kernel
theorem dX0_allow_12 : decode cX0_allow 12 = .ok (.getfield 31, 3) := by decide +kernel
theorem dX0_allow_15 : decode cX0_allow 15 = .ok (.iload_n 1, 1) := by decide +kernel
theorem dX0_allow_16 : decode cX0_allow 16 = .ok (.iconst (-1), 1) := by decide +kernel
theorem dX0_allow_17 : decode cX0_allow 17 = .ok (.ixor, 1) := by decide +kernel
theorem dX0_allow_18 : decode cX0_allow 18 = .ok (.iand, 1) := by decide +kernel
theorem dX0_allow_19 : decode cX0_allow 19 = .ok (.putfield 31, 3) := by decide +kernel
theorem dX0_allow_22 : decode cX0_allow 22 = .ok (.aload_n 0, 1) := by decide +kernel
theorem dX0_allow_23 : decode cX0_allow 23 = .ok (.iload_n 1, 1) := by decide +kernel
theorem dX0_allow_24 : decode cX0_allow 24 = .ok (.iload_n 2, 1) := by decide +kernel
theorem dX0_allow_25 : decode cX0_allow 25 = .ok (.invokevirtual 16, 3) := by decide +kernel
theorem dX0_allow_28 : decode cX0_allow 28 = .ok (.return_, 1) := by decide +kernel
theorem dX0_exclude_0 : decode cX0_exclude 0 = .ok (.aload_n 0, 1) := by decide +kernel
theorem dX0_exclude_1 : decode cX0_exclude 1 = .ok (.getfield 27, 3) := by decide +kernel
theorem dX0_exclude_4 : decode cX0_exclude 4 = .ok (.ifCond .eq 21, 3) := by decide +kernel
theorem dX0_exclude_7 : decode cX0_exclude 7 = .ok (.iload_n 1, 1) := by decide +kernel
theorem dX0_exclude_8 : decode cX0_exclude 8 = .ok (.aload_n 0, 1) := by decide +kernel
theorem dX0_exclude_9 : decode cX0_exclude 9 = .ok (.getfield 20, 3) := by decide +kernel
theorem dX0_exclude_12 : decode cX0_exclude 12 = .ok (.iconst (-1), 1) := by decide +kernel
theorem dX0_exclude_13 : decode cX0_exclude 13 = .ok (.ixor, 1) := by decide +kernel
theorem dX0_exclude_14 : decode cX0_exclude 14 = .ok (.iand, 1) := by decide +kernel
theorem dX0_exclude_15 : decode cX0_exclude 15 = .ok (.aload_n 0, 1) := by decide +kernel
theorem dX0_exclude_16 : decode cX0_exclude 16 = .ok (.getfield 31, 3) := by decide +kernel
theorem dX0_exclude_19 : decode cX0_exclude 19 = .ok (.iconst (-1), 1) := by decide +kernel
theorem dX0_exclude_20 : decode cX0_exclude 20 = .ok (.ixor, 1) := by decide +kernel
theorem dX0_exclude_21 : decode cX0_exclude 21 = .ok (.iand, 1) := by decide +kernel
theorem dX0_exclude_22 : decode cX0_exclude 22 = .ok (.goto 4, 3) := by decide +kernel
theorem dX0_exclude_25 : decode cX0_exclude 25 = .ok (.iconst 0, 1) := by decide +kernel
theorem dX0_exclude_26 : decode cX0_exclude 26 = .ok (.istore 4, 2) := by decide +kernel
theorem dX0_exclude_28 : decode cX0_exclude 28 = .ok (.aload_n 0, 1) := by decide +kernel
theorem dX0_exclude_29 : decode cX0_exclude 29 = .ok (.getfield 20, 3) := by decide +kernel
theorem dX0_exclude_32 : decode cX0_exclude 32 = .ok (.iload_n 1, 1) := by decide +kernel
theorem dX0_exclude_33 : decode cX0_exclude 33 = .ok (.iand, 1) := by decide +kernel
theorem dX0_exclude_34 : decode cX0_exclude 34 = .ok (.istore 5, 2) := by decide +kernel
theorem dX0_exclude_36 : decode cX0_exclude 36 = .ok (.aload_n 0, 1) := by decide +kernel
theorem dX0_exclude_37 : decode cX0_exclude 37 = .ok (.aload_n 0, 1) := by decide +kernel
theorem dX0_exclude_38 : decode cX0_exclude 38 = .ok (.getfield 20, 3) := by decide +kernel
theorem dX0_exclude_41 : decode cX0_exclude 41 = .ok (.iload_n 1, 1) := by decide +kernel
theorem dX0_exclude_42 : decode cX0_exclude 42 = .ok (.iconst (-1), 1) := by decide +kernel
theorem dX0_exclude_43 : decode cX0_exclude 43 = .ok (.ixor, 1) := by decide +kernel
theorem dX0_exclude_44 : decode cX0_exclude 44 = .ok (.iand, 1) := by decide +kernel
theorem dX0_exclude_45 : decode cX0_exclude 45 = .ok (.iconst 0, 1) := by decide +kernel
theorem dX0_exclude_46 : decode cX0_exclude 46 = .ok (.invokevirtual 16, 3) := by decide +kernel
theorem dX0_exclude_49 : decode cX0_exclude 49 = .ok (.aload_n 0, 1) := by decide +kernel
theorem dX0_exclude_50 : decode cX0_exclude 50 = .ok (.iload 4, 2) := by decide +kernel
theorem dX0_exclude_52 : decode cX0_exclude 52 = .ok (.iload_n 2, 1) := by decide +kernel
theorem dX0_exclude_53 : decode cX0_exclude 53 = .ok (.invokevirtual 16, 3) := by decide +kernel
theorem dX0_exclude_56 : decode cX0_exclude 56 = .ok (.aload_n 0, 1) := by decide +kernel
theorem dX0_exclude_57 : decode cX0_exclude 57 = .ok (.iload 5, 2) := by decide +kernel
theorem dX0_exclude_59 : decode cX0_exclude 59 = .ok (.iload 4, 2) := by decide +kernel
theorem dX0_exclude_61 : decode cX0_exclude 61 = .ok (.ior, 1) := by decide +kernel
theorem dX0_exclude_62 : decode cX0_exclude 62 = .ok (.putfield 20, 3) := by decide +kernel
theorem dX0_exclude_65 : decode cX0_exclude 65 = .ok (.aload_n 0, 1) := by decide +kernel
theorem dX0_exclude_66 : decode cX0_exclude 66 = .ok (.iload_n 1, 1) := by decide +kernel
theorem dX0_exclude_67 : decode cX0_exclude 67 = .ok (.aload_n 0, 1) := by decide +kernel
theorem dX0_exclude_68 : decode cX0_exclude 68 = .ok (.getfield 20, 3) := by decide +kernel
theorem dX0_exclude_71 : decode cX0_exclude 71 = .ok (.iconst (-1), 1) := by decide +kernel
theorem dX0_exclude_72 : decode cX0_exclude 72 = .ok (.ixor, 1) := by decide +kernel
theorem dX0_exclude_73 : decode cX0_exclude 73 = .ok (.iand, 1) := by decide +kernel
theorem dX0_exclude_74 : decode cX0_exclude 74 = .ok (.putfield 31, 3) := by decide +kernel
theorem dX0_exclude_77 : decode cX0_exclude 77 = .ok (.aload_n 0, 1) := by decide +kernel
theorem dX0_exclude_78 : decode cX0_exclude 78 = .ok (.iconst 1, 1) := by decide +kernel
theorem dX0_exclude_79 : decode cX0_exclude 79 = .ok (.putfield 27, 3) := by decide +kernel
theorem dX0_exclude_82 : decode cX0_exclude 82 = .ok (.aload_n 0, 1) := by decide +kernel
theorem dX0_exclude_83 : decode cX0_exclude 83 = .ok (.iload_n 3, 1) := by decide +kernel
theorem dX0_exclude_84 : decode cX0_exclude 84 = .ok (.putfield 38, 3) := by decide +kernel
theorem dX0_exclude_87 : decode cX0_exclude 87 = .ok (.return_, 1) := by decide +kernel
theorem dX0_block_0 : decode cX0_block 0 = .ok (.aload_n 0, 1) := by decide +kernel
theorem dX0_block_1 : decode cX0_block 1 = .ok (.getfield 27, 3) := by decide +kernel
theorem dX0_block_4 : decode cX0_block 4 = .ok (.ifCond .eq 38, 3) := by decide +kernel
theorem dX0_block_7 : decode cX0_block 7 = .ok (.iload_n 1, 1) := by decide +kernel
theorem dX0_block_8 : decode cX0_block 8 = .ok (.aload_n 0, 1) := by decide +kernel
theorem dX0_block_9 : decode cX0_block 9 = .ok (.getfield 20, 3) := by decide +kernel
theorem dX0_block_12 : decode cX0_block 12 = .ok (.iconst (-1), 1) := by decide +kernel
theorem dX0_block_13 : decode cX0_block 13 = .ok (.ixor, 1) := by decide +kernel
theorem dX0_block_14 : decode cX0_block 14 = .ok (.iand, 1) := by decide +kernel
theorem dX0_block_15 : decode cX0_block 15 = .ok (.aload_n 0, 1) := by decide +kernel
theorem dX0_block_16 : decode cX0_block 16 = .ok (.getfield 31, 3) := by decide +kernel
theorem dX0_block_19 : decode cX0_block 19 = .ok (.iconst (-1), 1) := by decide +kernel
theorem dX0_block_20 : decode cX0_block 20 = .ok (.ixor, 1) := by decide +kernel
theorem dX0_block_21 : decode cX0_block 21 = .ok (.iand, 1) := by decide +kernel
theorem dX0_block_22 : decode cX0_block 22 = .ok (.istore_n 2, 1) := by decide +kernel
theorem dX0_block_23 : decode cX0_block 23 = .ok (.aload_n 0, 1) := by decide +kernel
theorem dX0_block_24 : decode cX0_block 24 = .ok (.dup, 1) := by decide +kernel
theorem dX0_block_25 : decode cX0_block 25 = .ok (.getfield 20, 3) := by decide +kernel
theorem dX0_block_28 : decode cX0_block 28 = .ok (.iload_n 2, 1) := by decide +kernel
theorem dX0_block_29 : decode cX0_block 29 = .ok (.ior, 1) := by decide +kernel
theorem dX0_block_30 : decode cX0_block 30 = .ok (.putfield 20, 3) := by decide +kernel
theorem dX0_block_33 : decode cX0_block 33 = .ok (.aload_n 0, 1) := by decide +kernel
theorem dX0_block_34 : decode cX0_block 34 = .ok (.iload_n 2, 1) := by decide +kernel
theorem dX0_block_35 : decode cX0_block 35 = .ok (.aload_n 0, 1) := by decide +kernel
theorem dX0_block_36 : decode cX0_block 36 = .ok (.getfield 38, 3) := by decide +kernel
theorem dX0_block_39 : decode cX0_block 39 = .ok (.invokevirtual 16, 3) := by decide +kernel
theorem dX0_block_42 : decode cX0_block 42 = .ok (.return_, 1) := by decide +kernel
theorem dX0_age_0 : decode cX0_age 0 = .ok (.aload_n 0, 1) := by decide +kernel
theorem dX0_age_1 : decode cX0_age 1 = .ok (.iload_n 1, 1) := by decide +kernel
theorem dX0_age_2 : decode cX0_age 2 = .ok (.invokevirtual 41, 3) := by decide +kernel
theorem dX0_age_5 : decode cX0_age 5 = .ok (.istore_n 2, 1) := by decide +kernel
theorem dX0_age_6 : decode cX0_age 6 = .ok (.aload_n 0, 1) := by decide +kernel
theorem dX0_age_7 : decode cX0_age 7 = .ok (.getfield 27, 3) := by decide +kernel
theorem dX0_age_10 : decode cX0_age 10 = .ok (.ifCond .ne 4, 3) := by decide +kernel
theorem dX0_age_13 : decode cX0_age 13 = .ok (.return_, 1) := by decide +kernel
theorem dX0_age_14 : decode cX0_age 14 = .ok (.aload_n 0, 1) := by decide +kernel
theorem dX0_age_15 : decode cX0_age 15 = .ok (.getfield 38, 3) := by decide +kernel
theorem dX0_age_18 : decode cX0_age 18 = .ok (.iload_n 1, 1) := by decide +kernel
theorem dX0_age_19 : decode cX0_age 19 = .ok (.if_icmp .gt 10, 3) := by decide +kernel
theorem dX0_age_22 : decode cX0_age 22 = .ok (.aload_n 0, 1) := by decide +kernel
theorem dX0_age_23 : decode cX0_age 23 = .ok (.invokevirtual 24, 3) := by decide +kernel
theorem dX0_age_26 : decode cX0_age 26 = .ok (.goto 23, 3) := by decide +kernel
theorem dX0_age_29 : decode cX0_age 29 = .ok (.aload_n 0, 1) := by decide +kernel
theorem dX0_age_30 : decode cX0_age 30 = .ok (.dup, 1) := by decide +kernel
theorem dX0_age_31 : decode cX0_age 31 = .ok (.getfield 38, 3) := by decide +kernel
theorem dX0_age_34 : decode cX0_age 34 = .ok (.iload_n 1, 1) := by decide +kernel
theorem dX0_age_35 : decode cX0_age 35 = .ok (.isub, 1) := by decide +kernel
theorem dX0_age_36 : decode cX0_age 36 = .ok (.putfield 38, 3) := by decide +kernel
theorem dX0_age_39 : decode cX0_age 39 = .ok (.aload_n 0, 1) := by decide +kernel
theorem dX0_age_40 : decode cX0_age 40 = .ok (.dup, 1) := by decide +kernel
theorem dX0_age_41 : decode cX0_age 41 = .ok (.getfield 31, 3) := by decide +kernel
theorem dX0_age_44 : decode cX0_age 44 = .ok (.iload_n 2, 1) := by decide +kernel
theorem dX0_age_45 : decode cX0_age 45 = .ok (.ior, 1) := by decide +kernel
theorem dX0_age_46 : decode cX0_age 46 = .ok (.putfield 31, 3) := by decide +kernel
theorem dX0_age_49 : decode cX0_age 49 = .ok (.return_, 1) := by decide +kernel
theorem dX0_ageTimers_0 : decode cX0_ageTimers 0 = .ok (.iconst 0, 1) := by decide +kernel
theorem dX0_ageTimers_1 : decode cX0_ageTimers 1 = .ok (.istore_n 2, 1) := by decide +kernel
theorem dX0_ageTimers_2 : decode cX0_ageTimers 2 = .ok (.iconst 0, 1) := by decide +kernel
theorem dX0_ageTimers_3 : decode cX0_ageTimers 3 = .ok (.istore_n 3, 1) := by decide +kernel
theorem dX0_ageTimers_4 : decode cX0_ageTimers 4 = .ok (.iload_n 3, 1) := by decide +kernel
theorem dX0_ageTimers_5 : decode cX0_ageTimers 5 = .ok (.bipush 16, 2) := by decide +kernel
theorem dX0_ageTimers_7 : decode cX0_ageTimers 7 = .ok (.if_icmp .ge 54, 3) := by decide +kernel
theorem dX0_ageTimers_10 : decode cX0_ageTimers 10 = .ok (.aload_n 0, 1) := by decide +kernel
theorem dX0_ageTimers_11 : decode cX0_ageTimers 11 = .ok (.getfield 9, 3) := by decide +kernel
theorem dX0_ageTimers_14 : decode cX0_ageTimers 14 = .ok (.iload_n 3, 1) := by decide +kernel
theorem dX0_ageTimers_15 : decode cX0_ageTimers 15 = .ok (.iaload, 1) := by decide +kernel
theorem dX0_ageTimers_16 : decode cX0_ageTimers 16 = .ok (.iload_n 1, 1) := by decide +kernel
theorem dX0_ageTimers_17 : decode cX0_ageTimers 17 = .ok (.if_icmp .le 16, 3) := by decide +kernel
theorem dX0_ageTimers_20 : decode cX0_ageTimers 20 = .ok (.aload_n 0, 1) := by decide +kernel
theorem dX0_ageTimers_21 : decode cX0_ageTimers 21 = .ok (.getfield 9, 3) := by decide +kernel
theorem dX0_ageTimers_24 : decode cX0_ageTimers 24 = .ok (.iload_n 3, 1) := by decide +kernel
theorem dX0_ageTimers_25 : decode cX0_ageTimers 25 = .ok (.dup2, 1) := by decide +kernel
theorem dX0_ageTimers_26 : decode cX0_ageTimers 26 = .ok (.iaload, 1) := by decide +kernel
theorem dX0_ageTimers_27 : decode cX0_ageTimers 27 = .ok (.iload_n 1, 1) := by decide +kernel
theorem dX0_ageTimers_28 : decode cX0_ageTimers 28 = .ok (.isub, 1) := by decide +kernel
theorem dX0_ageTimers_29 : decode cX0_ageTimers 29 = .ok (.iastore, 1) := by decide +kernel
theorem dX0_ageTimers_30 : decode cX0_ageTimers 30 = .ok (.goto 25, 3) := by decide +kernel
theorem dX0_ageTimers_33 : decode cX0_ageTimers 33 = .ok (.aload_n 0, 1) := by decide +kernel
theorem dX0_ageTimers_34 : decode cX0_ageTimers 34 = .ok (.getfield 9, 3) := by decide +kernel
theorem dX0_ageTimers_37 : decode cX0_ageTimers 37 = .ok (.iload_n 3, 1) := by decide +kernel
theorem dX0_ageTimers_38 : decode cX0_ageTimers 38 = .ok (.iaload, 1) := by decide +kernel
theorem dX0_ageTimers_39 : decode cX0_ageTimers 39 = .ok (.ifCond .le 16, 3) := by decide +kernel
theorem dX0_ageTimers_42 : decode cX0_ageTimers 42 = .ok (.aload_n 0, 1) := by decide +kernel
theorem dX0_ageTimers_43 : decode cX0_ageTimers 43 = .ok (.getfield 9, 3) := by decide +kernel
theorem dX0_ageTimers_46 : decode cX0_ageTimers 46 = .ok (.iload_n 3, 1) := by decide +kernel
theorem dX0_ageTimers_47 : decode cX0_ageTimers 47 = .ok (.iconst 0, 1) := by decide +kernel
theorem dX0_ageTimers_48 : decode cX0_ageTimers 48 = .ok (.iastore, 1) := by decide +kernel
theorem dX0_ageTimers_49 : decode cX0_ageTimers 49 = .ok (.iload_n 2, 1) := by decide +kernel
theorem dX0_ageTimers_50 : decode cX0_ageTimers 50 = .ok (.iconst 1, 1) := by decide +kernel
theorem dX0_ageTimers_51 : decode cX0_ageTimers 51 = .ok (.iload_n 3, 1) := by decide +kernel
theorem dX0_ageTimers_52 : decode cX0_ageTimers 52 = .ok (.ishl, 1) := by decide +kernel
theorem dX0_ageTimers_53 : decode cX0_ageTimers 53 = .ok (.ior, 1) := by decide +kernel
theorem dX0_ageTimers_54 : decode cX0_ageTimers 54 = .ok (.istore_n 2, 1) := by decide +kernel
theorem dX0_ageTimers_55 : decode cX0_ageTimers 55 = .ok (.iinc 3 1, 3) := by decide +kernel
theorem dX0_ageTimers_58 : decode cX0_ageTimers 58 = .ok (.goto (-54), 3) := by decide +kernel
theorem dX0_ageTimers_61 : decode cX0_ageTimers 61 = .ok (.aload_n 0, 1) := by decide +kernel
theorem dX0_ageTimers_62 : decode cX0_ageTimers 62 = .ok (.dup, 1) := by decide +kernel
theorem dX0_ageTimers_63 : decode cX0_ageTimers 63 = .ok (.getfield 20, 3) := by decide +kernel
theorem dX0_ageTimers_66 : decode cX0_ageTimers 66 = .ok (.iload_n 2, 1) := by decide +kernel
theorem dX0_ageTimers_67 : decode cX0_ageTimers 67 = .ok (.iconst (-1), 1) := by decide +kernel
theorem dX0_ageTimers_68 : decode cX0_ageTimers 68 = .ok (.ixor, 1) := by decide +kernel
theorem dX0_ageTimers_69 : decode cX0_ageTimers 69 = .ok (.iand, 1) := by decide +kernel
theorem dX0_ageTimers_70 : decode cX0_ageTimers 70 = .ok (.putfield 20, 3) := by decide +kernel
theorem dX0_ageTimers_73 : decode cX0_ageTimers 73 = .ok (.iload_n 2, 1) := by decide +kernel
theorem dX0_ageTimers_74 : decode cX0_ageTimers 74 = .ok (.ireturn, 1) := by decide +kernel
theorem dX0_include_0 : decode cX0_include 0 = .ok (.aload_n 0, 1) := by decide +kernel
theorem dX0_include_1 : decode cX0_include 1 = .ok (.iconst 0, 1) := by decide +kernel
theorem dX0_include_2 : decode cX0_include 2 = .ok (.putfield 27, 3) := by decide +kernel
theorem dX0_include_5 : decode cX0_include 5 = .ok (.aload_n 0, 1) := by decide +kernel
theorem dX0_include_6 : decode cX0_include 6 = .ok (.iconst 0, 1) := by decide +kernel
theorem dX0_include_7 : decode cX0_include 7 = .ok (.putfield 31, 3) := by decide +kernel
theorem dX0_include_10 : decode cX0_include 10 = .ok (.aload_n 0, 1) := by decide +kernel
theorem dX0_include_11 : decode cX0_include 11 = .ok (.iconst 0, 1) := by decide +kernel
theorem dX0_include_12 : decode cX0_include 12 = .ok (.putfield 38, 3) := by decide +kernel
theorem dX0_include_15 : decode cX0_include 15 = .ok (.return_, 1) := by decide +kernel
theorem dX0_setTimers_0 : decode cX0_setTimers 0 = .ok (.iconst 0, 1) := by decide +kernel
theorem dX0_setTimers_1 : decode cX0_setTimers 1 = .ok (.istore_n 3, 1) := by decide +kernel
theorem dX0_setTimers_2 : decode cX0_setTimers 2 = .ok (.iload_n 3, 1) := by decide +kernel
theorem dX0_setTimers_3 : decode cX0_setTimers 3 = .ok (.bipush 16, 2) := by decide +kernel
theorem dX0_setTimers_5 : decode cX0_setTimers 5 = .ok (.if_icmp .ge 24, 3) := by decide +kernel
theorem dX0_setTimers_8 : decode cX0_setTimers 8 = .ok (.iload_n 1, 1) := by decide +kernel
theorem dX0_setTimers_9 : decode cX0_setTimers 9 = .ok (.iload_n 3, 1) := by decide +kernel
theorem dX0_setTimers_10 : decode cX0_setTimers 10 = .ok (.invokestatic 34, 3) := by decide +kernel
theorem dX0_setTimers_13 : decode cX0_setTimers 13 = .ok (.ifCond .eq 10, 3) := by decide +kernel
theorem dX0_setTimers_16 : decode cX0_setTimers 16 = .ok (.aload_n 0, 1) := by decide +kernel
theorem dX0_setTimers_17 : decode cX0_setTimers 17 = .ok (.getfield 9, 3) := by decide +kernel
theorem dX0_setTimers_20 : decode cX0_setTimers 20 = .ok (.iload_n 3, 1) := by decide +kernel
theorem dX0_setTimers_21 : decode cX0_setTimers 21 = .ok (.iload_n 2, 1) := by decide +kernel
theorem dX0_setTimers_22 : decode cX0_setTimers 22 = .ok (.iastore, 1) := by decide +kernel
theorem dX0_setTimers_23 : decode cX0_setTimers 23 = .ok (.iinc 3 1, 3) := by decide +kernel
theorem dX0_setTimers_26 : decode cX0_setTimers 26 = .ok (.goto (-24), 3) := by decide +kernel
theorem dX0_setTimers_29 : decode cX0_setTimers 29 = .ok (.return_, 1) := by decide +kernel
theorem dX0_lowerTimers_0 : decode cX0_lowerTimers 0 = .ok (.iconst 0, 1) := by decide +kernel
theorem dX0_lowerTimers_1 : decode cX0_lowerTimers 1 = .ok (.istore_n 3, 1) := by decide +kernel
theorem dX0_lowerTimers_2 : decode cX0_lowerTimers 2 = .ok (.iload_n 3, 1) := by decide +kernel
theorem dX0_lowerTimers_3 : decode cX0_lowerTimers 3 = .ok (.bipush 16, 2) := by decide +kernel
theorem dX0_lowerTimers_5 : decode cX0_lowerTimers 5 = .ok (.if_icmp .ge 33, 3) := by decide +kernel
theorem dX0_lowerTimers_8 : decode cX0_lowerTimers 8 = .ok (.iload_n 1, 1) := by decide +kernel
theorem dX0_lowerTimers_9 : decode cX0_lowerTimers 9 = .ok (.iload_n 3, 1) := by decide +kernel
theorem dX0_lowerTimers_10 : decode cX0_lowerTimers 10 = .ok (.invokestatic 34, 3) := by decide +kernel
theorem dX0_lowerTimers_13 : decode cX0_lowerTimers 13 = .ok (.ifCond .eq 19, 3) := by decide +kernel
theorem dX0_lowerTimers_16 : decode cX0_lowerTimers 16 = .ok (.aload_n 0, 1) := by decide +kernel
theorem dX0_lowerTimers_17 : decode cX0_lowerTimers 17 = .ok (.getfield 9, 3) := by decide +kernel
theorem dX0_lowerTimers_20 : decode cX0_lowerTimers 20 = .ok (.iload_n 3, 1) := by decide +kernel
theorem dX0_lowerTimers_21 : decode cX0_lowerTimers 21 = .ok (.aload_n 0, 1) := by decide +kernel
theorem dX0_lowerTimers_22 : decode cX0_lowerTimers 22 = .ok (.getfield 9, 3) := by decide +kernel
theorem dX0_lowerTimers_25 : decode cX0_lowerTimers 25 = .ok (.iload_n 3, 1) := by decide +kernel
theorem dX0_lowerTimers_26 : decode cX0_lowerTimers 26 = .ok (.iaload, 1) := by decide +kernel
theorem dX0_lowerTimers_27 : decode cX0_lowerTimers 27 = .ok (.iload_n 2, 1) := by decide +kernel
theorem dX0_lowerTimers_28 : decode cX0_lowerTimers 28 = .ok (.invokestatic 45, 3) := by decide +kernel
theorem dX0_lowerTimers_31 : decode cX0_lowerTimers 31 = .ok (.iastore, 1) := by decide +kernel
theorem dX0_lowerTimers_32 : decode cX0_lowerTimers 32 = .ok (.iinc 3 1, 3) := by decide +kernel
theorem dX0_lowerTimers_35 : decode cX0_lowerTimers 35 = .ok (.goto (-33), 3) := by decide +kernel
theorem dX0_lowerTimers_38 : decode cX0_lowerTimers 38 = .ok (.return_, 1) := by decide +kernel
theorem dX0_lowerOwnTimer_0 : decode cX0_lowerOwnTimer 0 = .ok (.aload_n 0, 1) := by decide +kernel
theorem dX0_lowerOwnTimer_1 : decode cX0_lowerOwnTimer 1 = .ok (.aload_n 0, 1) := by decide +kernel
theorem dX0_lowerOwnTimer_2 : decode cX0_lowerOwnTimer 2 = .ok (.getfield 38, 3) := by decide +kernel
theorem dX0_lowerOwnTimer_5 : decode cX0_lowerOwnTimer 5 = .ok (.iload_n 1, 1) := by decide +kernel
theorem dX0_lowerOwnTimer_6 : decode cX0_lowerOwnTimer 6 = .ok (.invokestatic 45, 3) := by decide +kernel
theorem dX0_lowerOwnTimer_9 : decode cX0_lowerOwnTimer 9 = .ok (.putfield 38, 3) := by decide +kernel
theorem dX0_lowerOwnTimer_12 : decode cX0_lowerOwnTimer 12 = .ok (.return_, 1) := by decide +kernel
theorem dX2_init_0 : decode cX2_init 0 = .ok (.aload_n 0, 1) := by decide +kernel
theorem dX2_init_1 : decode cX2_init 1 = .ok (.invokespecial 3, 3) := by decide +kernel
theorem dX2_init_4 : decode cX2_init 4 = .ok (.aload_n 0, 1) := by decide +kernel
theorem dX2_init_5 : decode cX2_init 5 = .ok (.bipush 8, 2) := by decide +kernel
theorem dX2_init_7 : decode cX2_init 7 = .ok (.newarray .int, 2) := by decide +kernel
theorem dX2_init_9 : decode cX2_init 9 = .ok (.putfield 9, 3) := by decide +kernel
theorem dX2_init_12 : decode cX2_init 12 = .ok (.aload_n 0, 1) := by decide +kernel
theorem dX2_init_13 : decode cX2_init 13 = .ok (.bipush 8, 2) := by decide +kernel
theorem dX2_init_15 : decode cX2_init 15 = .ok (.newarray .boolean, 2) := by decide +kernel
theorem dX2_init_17 : decode cX2_init 17 = .ok (.putfield 15, 3) := by decide +kernel
theorem dX2_init_20 : decode cX2_init 20 = .ok (.return_, 1) := by decide +kernel
theorem dX2_reset_0 : decode cX2_reset 0 = .ok (.iconst 0, 1) := by decide +kernel
theorem dX2_reset_1 : decode cX2_reset 1 = .ok (.istore_n 1, 1) := by decide +kernel
theorem dX2_reset_2 : decode cX2_reset 2 = .ok (.iload_n 1, 1) := by decide +kernel
theorem dX2_reset_3 : decode cX2_reset 3 = .ok (.bipush 8, 2) := by decide +kernel
theorem dX2_reset_5 : decode cX2_reset 5 = .ok (.if_icmp .ge 23, 3) := by decide +kernel
theorem dX2_reset_8 : decode cX2_reset 8 = .ok (.aload_n 0, 1) := by decide +kernel
theorem dX2_reset_9 : decode cX2_reset 9 = .ok (.getfield 9, 3) := by decide +kernel
theorem dX2_reset_12 : decode cX2_reset 12 = .ok (.iload_n 1, 1) := by decide +kernel
theorem dX2_reset_13 : decode cX2_reset 13 = .ok (.iconst 0, 1) := by decide +kernel
theorem dX2_reset_14 : decode cX2_reset 14 = .ok (.iastore, 1) := by decide +kernel
theorem dX2_reset_15 : decode cX2_reset 15 = .ok (.aload_n 0, 1) := by decide +kernel
theorem dX2_reset_16 : decode cX2_reset 16 = .ok (.getfield 15, 3) := by decide +kernel
theorem dX2_reset_19 : decode cX2_reset 19 = .ok (.iload_n 1, 1) := by decide +kernel
theorem dX2_reset_20 : decode cX2_reset 20 = .ok (.iconst 0, 1) := by decide +kernel
theorem dX2_reset_21 : decode cX2_reset 21 = .ok (.bastore, 1) := by decide +kernel
theorem dX2_reset_22 : decode cX2_reset 22 = .ok (.iinc 1 1, 3) := by decide +kernel
theorem dX2_reset_25 : decode cX2_reset 25 = .ok (.goto (-23), 3) := by decide +kernel
theorem dX2_reset_28 : decode cX2_reset 28 = .ok (.return_, 1) := by decide +kernel
theorem dX2_wants_0 : decode cX2_wants 0 = .ok (.aload_n 0, 1) := by decide +kernel
theorem dX2_wants_1 : decode cX2_wants 1 = .ok (.getfield 9, 3) := by decide +kernel
theorem dX2_wants_4 : decode cX2_wants 4 = .ok (.iload_n 1, 1) := by decide +kernel
theorem dX2_wants_5 : decode cX2_wants 5 = .ok (.iaload, 1) := by decide +kernel
theorem dX2_wants_6 : decode cX2_wants 6 = .ok (.iload_n 2, 1) := by decide +kernel
theorem dX2_wants_7 : decode cX2_wants 7 = .ok (.invokestatic 19, 3) := by decide +kernel
theorem dX2_wants_10 : decode cX2_wants 10 = .ok (.aload_n 0, 1) := by decide +kernel
theorem dX2_wants_11 : decode cX2_wants 11 = .ok (.getfield 15, 3) := by decide +kernel
theorem dX2_wants_14 : decode cX2_wants 14 = .ok (.iload_n 1, 1) := by decide +kernel
theorem dX2_wants_15 : decode cX2_wants 15 = .ok (.baload, 1) := by decide +kernel
theorem dX2_wants_16 : decode cX2_wants 16 = .ok (.if_icmp .eq 7, 3) := by decide +kernel
theorem dX2_wants_19 : decode cX2_wants 19 = .ok (.iconst 1, 1) := by decide +kernel
theorem dX2_wants_20 : decode cX2_wants 20 = .ok (.goto 4, 3) := by decide +kernel
theorem dX2_wants_23 : decode cX2_wants 23 = .ok (.iconst 0, 1) := by decide +kernel
theorem dX2_wants_24 : decode cX2_wants 24 = .ok (.ireturn, 1) := by decide +kernel
theorem dX3_init_0 : decode cX3_init 0 = .ok (.aload_n 0, 1) := by decide +kernel
theorem dX3_init_1 : decode cX3_init 1 = .ok (.invokespecial 3, 3) := by decide +kernel
theorem dX3_init_4 : decode cX3_init 4 = .ok (.aload_n 0, 1) := by decide +kernel
theorem dX3_init_5 : decode cX3_init 5 = .ok (.bipush 40, 2) := by decide +kernel
theorem dX3_init_7 : decode cX3_init 7 = .ok (.newarray .int, 2) := by decide +kernel
theorem dX3_init_9 : decode cX3_init 9 = .ok (.putfield 9, 3) := by decide +kernel
theorem dX3_init_12 : decode cX3_init 12 = .ok (.aload_n 0, 1) := by decide +kernel
theorem dX3_init_13 : decode cX3_init 13 = .ok (.bipush 40, 2) := by decide +kernel
theorem dX3_init_15 : decode cX3_init 15 = .ok (.newarray .int, 2) := by decide +kernel
theorem dX3_init_17 : decode cX3_init 17 = .ok (.putfield 15, 3) := by decide +kernel
theorem dX3_init_20 : decode cX3_init 20 = .ok (.aload_n 0, 1) := by decide +kernel
theorem dX3_init_21 : decode cX3_init 21 = .ok (.bipush 40, 2) := by decide +kernel
theorem dX3_init_23 : decode cX3_init 23 = .ok (.newarray .int, 2) := by decide +kernel
theorem dX3_init_25 : decode cX3_init 25 = .ok (.putfield 18, 3) := by decide +kernel
theorem dX3_init_28 : decode cX3_init 28 = .ok (.aload_n 0, 1) := by decide +kernel
theorem dX3_init_29 : decode cX3_init 29 = .ok (.bipush 40, 2) := by decide +kernel
theorem dX3_init_31 : decode cX3_init 31 = .ok (.newarray .int, 2) := by decide +kernel
theorem dX3_init_33 : decode cX3_init 33 = .ok (.putfield 21, 3) := by decide +kernel
theorem dX3_init_36 : decode cX3_init 36 = .ok (.return_, 1) := by decide +kernel
theorem dX3_reset_0 : decode cX3_reset 0 = .ok (.aload_n 0, 1) := by decide +kernel
theorem dX3_reset_1 : decode cX3_reset 1 = .ok (.iconst 0, 1) := by decide +kernel
theorem dX3_reset_2 : decode cX3_reset 2 = .ok (.putfield 24, 3) := by decide +kernel
theorem dX3_reset_5 : decode cX3_reset 5 = .ok (.aload_n 0, 1) := by decide +kernel
theorem dX3_reset_6 : decode cX3_reset 6 = .ok (.iconst 0, 1) := by decide +kernel
theorem dX3_reset_7 : decode cX3_reset 7 = .ok (.putfield 28, 3) := by decide +kernel
theorem dX3_reset_10 : decode cX3_reset 10 = .ok (.return_, 1) := by decide +kernel
theorem dX3_add_0 : decode cX3_add 0 = .ok (.aload_n 0, 1) := by decide +kernel
theorem dX3_add_1 : decode cX3_add 1 = .ok (.getfield 24, 3) := by decide +kernel
theorem dX3_add_4 : decode cX3_add 4 = .ok (.bipush 40, 2) := by decide +kernel
theorem dX3_add_6 : decode cX3_add 6 = .ok (.invokestatic 31, 3) := by decide +kernel
theorem dX3_add_9 : decode cX3_add 9 = .ok (.istore 4, 2) := by decide +kernel
theorem dX3_add_11 : decode cX3_add 11 = .ok (.aload_n 0, 1) := by decide +kernel
theorem dX3_add_12 : decode cX3_add 12 = .ok (.getfield 9, 3) := by decide +kernel
theorem dX3_add_15 : decode cX3_add 15 = .ok (.iload 4, 2) := by decide +kernel
theorem dX3_add_17 : decode cX3_add 17 = .ok (.iload_n 1, 1) := by decide +kernel
theorem dX3_add_18 : decode cX3_add 18 = .ok (.iastore, 1) := by decide +kernel
theorem dX3_add_19 : decode cX3_add 19 = .ok (.aload_n 0, 1) := by decide +kernel
theorem dX3_add_20 : decode cX3_add 20 = .ok (.getfield 15, 3) := by decide +kernel
theorem dX3_add_23 : decode cX3_add 23 = .ok (.iload 4, 2) := by decide +kernel
theorem dX3_add_25 : decode cX3_add 25 = .ok (.iload_n 2, 1) := by decide +kernel
theorem dX3_add_26 : decode cX3_add 26 = .ok (.iastore, 1) := by decide +kernel
theorem dX3_add_27 : decode cX3_add 27 = .ok (.aload_n 0, 1) := by decide +kernel
theorem dX3_add_28 : decode cX3_add 28 = .ok (.getfield 18, 3) := by decide +kernel
theorem dX3_add_31 : decode cX3_add 31 = .ok (.iload 4, 2) := by decide +kernel
theorem dX3_add_33 : decode cX3_add 33 = .ok (.iload_n 3, 1) := by decide +kernel
theorem dX3_add_34 : decode cX3_add 34 = .ok (.iastore, 1) := by decide +kernel
theorem dX3_add_35 : decode cX3_add 35 = .ok (.aload_n 0, 1) := by decide +kernel
theorem dX3_add_36 : decode cX3_add 36 = .ok (.getfield 21, 3) := by decide +kernel
theorem dX3_add_39 : decode cX3_add 39 = .ok (.iload 4, 2) := by decide +kernel
theorem dX3_add_41 : decode cX3_add 41 = .ok (.aload_n 0, 1) := by decide +kernel
theorem dX3_add_42 : decode cX3_add 42 = .ok (.getfield 28, 3) := by decide +kernel
theorem dX3_add_45 : decode cX3_add 45 = .ok (.iastore, 1) := by decide +kernel
theorem dX3_add_46 : decode cX3_add 46 = .ok (.aload_n 0, 1) := by decide +kernel
theorem dX3_add_47 : decode cX3_add 47 = .ok (.dup, 1) := by decide +kernel
theorem dX3_add_48 : decode cX3_add 48 = .ok (.getfield 24, 3) := by decide +kernel
theorem dX3_add_51 : decode cX3_add 51 = .ok (.iconst 1, 1) := by decide +kernel
theorem dX3_add_52 : decode cX3_add 52 = .ok (.iadd, 1) := by decide +kernel
theorem dX3_add_53 : decode cX3_add 53 = .ok (.putfield 24, 3) := by decide +kernel
theorem dX3_add_56 : decode cX3_add 56 = .ok (.return_, 1) := by decide +kernel
theorem dX3_look_0 : decode cX3_look 0 = .ok (.aload_n 0, 1) := by decide +kernel
theorem dX3_look_1 : decode cX3_look 1 = .ok (.getfield 24, 3) := by decide +kernel
theorem dX3_look_4 : decode cX3_look 4 = .ok (.iconst 1, 1) := by decide +kernel
theorem dX3_look_5 : decode cX3_look 5 = .ok (.isub, 1) := by decide +kernel
theorem dX3_look_6 : decode cX3_look 6 = .ok (.iload_n 1, 1) := by decide +kernel
theorem dX3_look_7 : decode cX3_look 7 = .ok (.isub, 1) := by decide +kernel
theorem dX3_look_8 : decode cX3_look 8 = .ok (.bipush 40, 2) := by decide +kernel
theorem dX3_look_10 : decode cX3_look 10 = .ok (.invokestatic 31, 3) := by decide +kernel
theorem dX3_look_13 : decode cX3_look 13 = .ok (.istore_n 3, 1) := by decide +kernel
theorem dX3_look_14 : decode cX3_look 14 = .ok (.iload_n 2, 1) := by decide +kernel
theorem dX3_look_15 : decode cX3_look 15 = .ok (.tableswitch 46 0 2 #[25, 32, 39], 25) := by decide +kernel
theorem dX3_look_40 : decode cX3_look 40 = .ok (.aload_n 0, 1) := by decide +kernel
theorem dX3_look_41 : decode cX3_look 41 = .ok (.getfield 9, 3) := by decide +kernel
theorem dX3_look_44 : decode cX3_look 44 = .ok (.iload_n 3, 1) := by decide +kernel
theorem dX3_look_45 : decode cX3_look 45 = .ok (.iaload, 1) := by decide +kernel
theorem dX3_look_46 : decode cX3_look 46 = .ok (.ireturn, 1) := by decide +kernel
theorem dX3_look_47 : decode cX3_look 47 = .ok (.aload_n 0, 1) := by decide +kernel
theorem dX3_look_48 : decode cX3_look 48 = .ok (.getfield 15, 3) := by decide +kernel
theorem dX3_look_51 : decode cX3_look 51 = .ok (.iload_n 3, 1) := by decide +kernel
theorem dX3_look_52 : decode cX3_look 52 = .ok (.iaload, 1) := by decide +kernel
theorem dX3_look_53 : decode cX3_look 53 = .ok (.ireturn, 1) := by decide +kernel
theorem dX3_look_54 : decode cX3_look 54 = .ok (.aload_n 0, 1) := by decide +kernel
theorem dX3_look_55 : decode cX3_look 55 = .ok (.getfield 18, 3) := by decide +kernel
theorem dX3_look_58 : decode cX3_look 58 = .ok (.iload_n 3, 1) := by decide +kernel
theorem dX3_look_59 : decode cX3_look 59 = .ok (.iaload, 1) := by decide +kernel
theorem dX3_look_60 : decode cX3_look 60 = .ok (.ireturn, 1) := by decide +kernel
theorem dX3_look_61 : decode cX3_look 61 = .ok (.aload_n 0, 1) := by decide +kernel
theorem dX3_look_62 : decode cX3_look 62 = .ok (.getfield 21, 3) := by decide +kernel
theorem dX3_look_65 : decode cX3_look 65 = .ok (.iload_n 3, 1) := by decide +kernel
theorem dX3_look_66 : decode cX3_look 66 = .ok (.iaload, 1) := by decide +kernel
theorem dX3_look_67 : decode cX3_look 67 = .ok (.ireturn, 1) := by decide +kernel
theorem dJ9_floorMod_7cf53_0 : decode cJ9_floorMod_7cf53 0 = .ok (.iload_n 0, 1) := by decide +kernel
theorem dJ9_floorMod_7cf53_1 : decode cJ9_floorMod_7cf53 1 = .ok (.iload_n 1, 1) := by decide +kernel
theorem dJ9_floorMod_7cf53_2 : decode cJ9_floorMod_7cf53 2 = .ok (.irem, 1) := by decide +kernel
theorem dJ9_floorMod_7cf53_3 : decode cJ9_floorMod_7cf53 3 = .ok (.istore_n 2, 1) := by decide +kernel
theorem dJ9_floorMod_7cf53_4 : decode cJ9_floorMod_7cf53 4 = .ok (.iload_n 0, 1) := by decide +kernel
theorem dJ9_floorMod_7cf53_5 : decode cJ9_floorMod_7cf53 5 = .ok (.iload_n 1, 1) := by decide +kernel
theorem dJ9_floorMod_7cf53_6 : decode cJ9_floorMod_7cf53 6 = .ok (.ixor, 1) := by decide +kernel
theorem dJ9_floorMod_7cf53_7 : decode cJ9_floorMod_7cf53 7 = .ok (.ifCond .ge 11, 3) := by decide +kernel
theorem dJ9_floorMod_7cf53_10 : decode cJ9_floorMod_7cf53 10 = .ok (.iload_n 2, 1) := by decide +kernel
theorem dJ9_floorMod_7cf53_11 : decode cJ9_floorMod_7cf53 11 = .ok (.ifCond .eq 7, 3) := by decide +kernel
theorem dJ9_floorMod_7cf53_14 : decode cJ9_floorMod_7cf53 14 = .ok (.iload_n 2, 1) := by decide +kernel
theorem dJ9_floorMod_7cf53_15 : decode cJ9_floorMod_7cf53 15 = .ok (.iload_n 1, 1) := by decide +kernel
theorem dJ9_floorMod_7cf53_16 : decode cJ9_floorMod_7cf53 16 = .ok (.iadd, 1) := by decide +kernel
theorem dJ9_floorMod_7cf53_17 : decode cJ9_floorMod_7cf53 17 = .ok (.ireturn, 1) := by decide +kernel
theorem dJ9_floorMod_7cf53_18 : decode cJ9_floorMod_7cf53 18 = .ok (.iload_n 2, 1) := by decide +kernel
theorem dJ9_floorMod_7cf53_19 : decode cJ9_floorMod_7cf53 19 = .ok (.ireturn, 1) := by decide +kernel
theorem dJ9_max_7cf53_0 : decode cJ9_max_7cf53 0 = .ok (.iload_n 0, 1) := by decide +kernel
theorem dJ9_max_7cf53_1 : decode cJ9_max_7cf53 1 = .ok (.iload_n 1, 1) := by decide +kernel
theorem dJ9_max_7cf53_2 : decode cJ9_max_7cf53 2 = .ok (.if_icmp .lt 7, 3) := by decide +kernel
theorem dJ9_max_7cf53_5 : decode cJ9_max_7cf53 5 = .ok (.iload_n 0, 1) := by decide +kernel
theorem dJ9_max_7cf53_6 : decode cJ9_max_7cf53 6 = .ok (.goto 4, 3) := by decide +kernel
theorem dJ9_max_7cf53_9 : decode cJ9_max_7cf53 9 = .ok (.iload_n 1, 1) := by decide +kernel
theorem dJ9_max_7cf53_10 : decode cJ9_max_7cf53 10 = .ok (.ireturn, 1) := by decide +kernel
theorem dJ9_min_7cf53_0 : decode cJ9_min_7cf53 0 = .ok (.iload_n 0, 1) := by decide +kernel
theorem dJ9_min_7cf53_1 : decode cJ9_min_7cf53 1 = .ok (.iload_n 1, 1) := by decide +kernel
theorem dJ9_min_7cf53_2 : decode cJ9_min_7cf53 2 = .ok (.if_icmp .gt 7, 3) := by decide +kernel
theorem dJ9_min_7cf53_5 : decode cJ9_min_7cf53 5 = .ok (.iload_n 0, 1) := by decide +kernel
theorem dJ9_min_7cf53_6 : decode cJ9_min_7cf53 6 = .ok (.goto 4, 3) := by decide +kernel
theorem dJ9_min_7cf53_9 : decode cJ9_min_7cf53 9 = .ok (.iload_n 1, 1) := by decide +kernel
theorem dJ9_min_7cf53_10 : decode cJ9_min_7cf53 10 = .ok (.ireturn, 1) := by decide +kernel
end
section
theorem dX1_init_0 : decode cX1_init 0 = .ok (.aload_n 0, 1) := by decide +kernel
theorem dX1_init_1 : decode cX1_init 1 = .ok (.invokespecial 3, 3) := by decide +kernel
theorem dX1_init_4 : decode cX1_init 4 = .ok (.aload_n 0, 1) := by decide +kernel
theorem dX1_init_5 : decode cX1_init 5 = .ok (.bipush 8, 2) := by decide +kernel
theorem dX1_init_7 : decode cX1_init 7 = .ok (.anewarray 9, 3) := by decide +kernel
theorem dX1_init_10 : decode cX1_init 10 = .ok (.putfield 11, 3) := by decide +kernel
theorem dX1_init_13 : decode cX1_init 13 = .ok (.aload_n 0, 1) := by decide +kernel
theorem dX1_init_14 : decode cX1_init 14 = .ok (.bipush 6, 2) := by decide +kernel
theorem dX1_init_16 : decode cX1_init 16 = .ok (.anewarray 17, 3) := by decide +kernel
theorem dX1_init_19 : decode cX1_init 19 = .ok (.putfield 19, 3) := by decide +kernel
theorem dX1_init_22 : decode cX1_init 22 = .ok (.aload_n 0, 1) := by decide +kernel
theorem dX1_init_23 : decode cX1_init 23 = .ok (.iload_n 1, 1) := by decide +kernel
theorem dX1_init_24 : decode cX1_init 24 = .ok (.putfield 23, 3) := by decide +kernel
theorem dX1_init_27 : decode cX1_init 27 = .ok (.iconst 0, 1) := by decide +kernel
theorem dX1_init_28 : decode cX1_init 28 = .ok (.istore_n 2, 1) := by decide +kernel
theorem dX1_init_29 : decode cX1_init 29 = .ok (.iload_n 2, 1) := by decide +kernel
theorem dX1_init_30 : decode cX1_init 30 = .ok (.bipush 8, 2) := by decide +kernel
theorem dX1_init_32 : decode cX1_init 32 = .ok (.if_icmp .ge 22, 3) := by decide +kernel
theorem dX1_init_35 : decode cX1_init 35 = .ok (.aload_n 0, 1) := by decide +kernel
theorem dX1_init_36 : decode cX1_init 36 = .ok (.getfield 11, 3) := by decide +kernel
theorem dX1_init_39 : decode cX1_init 39 = .ok (.iload_n 2, 1) := by decide +kernel
theorem dX1_init_40 : decode cX1_init 40 = .ok (.new 9, 3) := by decide +kernel
theorem dX1_init_43 : decode cX1_init 43 = .ok (.dup, 1) := by decide +kernel
theorem dX1_init_44 : decode cX1_init 44 = .ok (.invokespecial 27, 3) := by decide +kernel
theorem dX1_init_47 : decode cX1_init 47 = .ok (.aastore, 1) := by decide +kernel
theorem dX1_init_48 : decode cX1_init 48 = .ok (.iinc 2 1, 3) := by decide +kernel
theorem dX1_init_51 : decode cX1_init 51 = .ok (.goto (-22), 3) := by decide +kernel
theorem dX1_init_54 : decode cX1_init 54 = .ok (.iconst 0, 1) := by decide +kernel
theorem dX1_init_55 : decode cX1_init 55 = .ok (.istore_n 2, 1) := by decide +kernel
theorem dX1_init_56 : decode cX1_init 56 = .ok (.iload_n 2, 1) := by decide +kernel
theorem dX1_init_57 : decode cX1_init 57 = .ok (.bipush 6, 2) := by decide +kernel
theorem dX1_init_59 : decode cX1_init 59 = .ok (.if_icmp .ge 22, 3) := by decide +kernel
theorem dX1_init_62 : decode cX1_init 62 = .ok (.aload_n 0, 1) := by decide +kernel
theorem dX1_init_63 : decode cX1_init 63 = .ok (.getfield 19, 3) := by decide +kernel
theorem dX1_init_66 : decode cX1_init 66 = .ok (.iload_n 2, 1) := by decide +kernel
theorem dX1_init_67 : decode cX1_init 67 = .ok (.new 17, 3) := by decide +kernel
theorem dX1_init_70 : decode cX1_init 70 = .ok (.dup, 1) := by decide +kernel
theorem dX1_init_71 : decode cX1_init 71 = .ok (.invokespecial 28, 3) := by decide +kernel
theorem dX1_init_74 : decode cX1_init 74 = .ok (.aastore, 1) := by decide +kernel
theorem dX1_init_75 : decode cX1_init 75 = .ok (.iinc 2 1, 3) := by decide +kernel
theorem dX1_init_78 : decode cX1_init 78 = .ok (.goto (-22), 3) := by decide +kernel
theorem dX1_init_81 : decode cX1_init 81 = .ok (.aload_n 0, 1) := by decide +kernel
theorem dX1_init_82 : decode cX1_init 82 = .ok (.invokevirtual 29, 3) := by decide +kernel
theorem dX1_init_85 : decode cX1_init 85 = .ok (.return_, 1) := by decide +kernel
theorem dX1_reset_0 : decode cX1_reset 0 = .ok (.iconst 0, 1) := by decide +kernel
theorem dX1_reset_1 : decode cX1_reset 1 = .ok (.istore_n 1, 1) := by decide +kernel
theorem dX1_reset_2 : decode cX1_reset 2 = .ok (.iload_n 1, 1) := by decide +kernel
theorem dX1_reset_3 : decode cX1_reset 3 = .ok (.bipush 8, 2) := by decide +kernel
theorem dX1_reset_5 : decode cX1_reset 5 = .ok (.if_icmp .ge 18, 3) := by decide +kernel
theorem dX1_reset_8 : decode cX1_reset 8 = .ok (.aload_n 0, 1) := by decide +kernel
theorem dX1_reset_9 : decode cX1_reset 9 = .ok (.getfield 11, 3) := by decide +kernel
theorem dX1_reset_12 : decode cX1_reset 12 = .ok (.iload_n 1, 1) := by decide +kernel
theorem dX1_reset_13 : decode cX1_reset 13 = .ok (.aaload, 1) := by decide +kernel
theorem dX1_reset_14 : decode cX1_reset 14 = .ok (.invokevirtual 32, 3) := by decide +kernel
theorem dX1_reset_17 : decode cX1_reset 17 = .ok (.iinc 1 1, 3) := by decide +kernel
theorem dX1_reset_20 : decode cX1_reset 20 = .ok (.goto (-18), 3) := by decide +kernel
theorem dX1_reset_23 : decode cX1_reset 23 = .ok (.iconst 0, 1) := by decide +kernel
theorem dX1_reset_24 : decode cX1_reset 24 = .ok (.istore_n 1, 1) := by decide +kernel
theorem dX1_reset_25 : decode cX1_reset 25 = .ok (.iload_n 1, 1) := by decide +kernel
theorem dX1_reset_26 : decode cX1_reset 26 = .ok (.bipush 6, 2) := by decide +kernel
theorem dX1_reset_28 : decode cX1_reset 28 = .ok (.if_icmp .ge 18, 3) := by decide +kernel
theorem dX1_reset_31 : decode cX1_reset 31 = .ok (.aload_n 0, 1) := by decide +kernel
theorem dX1_reset_32 : decode cX1_reset 32 = .ok (.getfield 19, 3) := by decide +kernel
theorem dX1_reset_35 : decode cX1_reset 35 = .ok (.iload_n 1, 1) := by decide +kernel
theorem dX1_reset_36 : decode cX1_reset 36 = .ok (.aaload, 1) := by decide +kernel
theorem dX1_reset_37 : decode cX1_reset 37 = .ok (.invokevirtual 33, 3) := by decide +kernel
theorem dX1_reset_40 : decode cX1_reset 40 = .ok (.iinc 1 1, 3) := by decide +kernel
theorem dX1_reset_43 : decode cX1_reset 43 = .ok (.goto (-18), 3) := by decide +kernel
theorem dX1_reset_46 : decode cX1_reset 46 = .ok (.aload_n 0, 1) := by decide +kernel
theorem dX1_reset_47 : decode cX1_reset 47 = .ok (.sipush 500, 3) := by decide +kernel
theorem dX1_reset_50 : decode cX1_reset 50 = .ok (.putfield 34, 3) := by decide +kernel
theorem dX1_reset_53 : decode cX1_reset 53 = .ok (.aload_n 0, 1) := by decide +kernel
theorem dX1_reset_54 : decode cX1_reset 54 = .ok (.iconst 2, 1) := by decide +kernel
theorem dX1_reset_55 : decode cX1_reset 55 = .ok (.bipush 20, 2) := by decide +kernel
theorem dX1_reset_57 : decode cX1_reset 57 = .ok (.iconst 4, 1) := by decide +kernel
theorem dX1_reset_58 : decode cX1_reset 58 = .ok (.invokevirtual 37, 3) := by decide +kernel
theorem dX1_reset_61 : decode cX1_reset 61 = .ok (.return_, 1) := by decide +kernel
theorem dX1_set_0 : decode cX1_set 0 = .ok (.aload_n 0, 1) := by decide +kernel
theorem dX1_set_1 : decode cX1_set 1 = .ok (.iload_n 1, 1) := by decide +kernel
theorem dX1_set_2 : decode cX1_set 2 = .ok (.putfield 41, 3) := by decide +kernel
theorem dX1_set_5 : decode cX1_set 5 = .ok (.aload_n 0, 1) := by decide +kernel
theorem dX1_set_6 : decode cX1_set 6 = .ok (.iload_n 2, 1) := by decide +kernel
theorem dX1_set_7 : decode cX1_set 7 = .ok (.putfield 44, 3) := by decide +kernel
theorem dX1_set_10 : decode cX1_set 10 = .ok (.aload_n 0, 1) := by decide +kernel
theorem dX1_set_11 : decode cX1_set 11 = .ok (.iload_n 3, 1) := by decide +kernel
theorem dX1_set_12 : decode cX1_set 12 = .ok (.putfield 47, 3) := by decide +kernel
theorem dX1_set_15 : decode cX1_set 15 = .ok (.aload_n 0, 1) := by decide +kernel
theorem dX1_set_16 : decode cX1_set 16 = .ok (.invokevirtual 50, 3) := by decide +kernel
theorem dX1_set_19 : decode cX1_set 19 = .ok (.ifCond .eq 8, 3) := by decide +kernel
theorem dX1_set_22 : decode cX1_set 22 = .ok (.aload_n 0, 1) := by decide +kernel
theorem dX1_set_23 : decode cX1_set 23 = .ok (.iload_n 2, 1) := by decide +kernel
theorem dX1_set_24 : decode cX1_set 24 = .ok (.putfield 54, 3) := by decide +kernel
theorem dX1_set_27 : decode cX1_set 27 = .ok (.return_, 1) := by decide +kernel
theorem dX1_grace_0 : decode cX1_grace 0 = .ok (.aload_n 0, 1) := by decide +kernel
theorem dX1_grace_1 : decode cX1_grace 1 = .ok (.getfield 41, 3) := by decide +kernel
theorem dX1_grace_4 : decode cX1_grace 4 = .ok (.aload_n 0, 1) := by decide +kernel
theorem dX1_grace_5 : decode cX1_grace 5 = .ok (.getfield 44, 3) := by decide +kernel
theorem dX1_grace_8 : decode cX1_grace 8 = .ok (.imul, 1) := by decide +kernel
theorem dX1_grace_9 : decode cX1_grace 9 = .ok (.aload_n 0, 1) := by decide +kernel
theorem dX1_grace_10 : decode cX1_grace 10 = .ok (.getfield 47, 3) := by decide +kernel
theorem dX1_grace_13 : decode cX1_grace 13 = .ok (.iadd, 1) := by decide +kernel
theorem dX1_grace_14 : decode cX1_grace 14 = .ok (.ireturn, 1) := by decide +kernel
theorem dX1_last_0 : decode cX1_last 0 = .ok (.aload_n 0, 1) := by decide +kernel
theorem dX1_last_1 : decode cX1_last 1 = .ok (.getfield 41, 3) := by decide +kernel
theorem dX1_last_4 : decode cX1_last 4 = .ok (.ireturn, 1) := by decide +kernel
theorem dX1_asks_0 : decode cX1_asks 0 = .ok (.aload_n 0, 1) := by decide +kernel
theorem dX1_asks_1 : decode cX1_asks 1 = .ok (.getfield 34, 3) := by decide +kernel
theorem dX1_asks_4 : decode cX1_asks 4 = .ok (.sipush 500, 3) := by decide +kernel
theorem dX1_asks_7 : decode cX1_asks 7 = .ok (.if_icmp .ne 7, 3) := by decide +kernel
theorem dX1_asks_10 : decode cX1_asks 10 = .ok (.iconst 1, 1) := by decide +kernel
theorem dX1_asks_11 : decode cX1_asks 11 = .ok (.goto 4, 3) := by decide +kernel
theorem dX1_asks_14 : decode cX1_asks 14 = .ok (.iconst 0, 1) := by decide +kernel
theorem dX1_asks_15 : decode cX1_asks 15 = .ok (.ireturn, 1) := by decide +kernel
theorem dX1_records_0 : decode cX1_records 0 = .ok (.iconst 0, 1) := by decide +kernel
theorem dX1_records_1 : decode cX1_records 1 = .ok (.istore_n 1, 1) := by decide +kernel
theorem dX1_records_2 : decode cX1_records 2 = .ok (.iconst 0, 1) := by decide +kernel
theorem dX1_records_3 : decode cX1_records 3 = .ok (.istore_n 2, 1) := by decide +kernel
theorem dX1_records_4 : decode cX1_records 4 = .ok (.iload_n 2, 1) := by decide +kernel
theorem dX1_records_5 : decode cX1_records 5 = .ok (.bipush 8, 2) := by decide +kernel
theorem dX1_records_7 : decode cX1_records 7 = .ok (.if_icmp .ge 25, 3) := by decide +kernel
theorem dX1_records_10 : decode cX1_records 10 = .ok (.aload_n 0, 1) := by decide +kernel
theorem dX1_records_11 : decode cX1_records 11 = .ok (.getfield 11, 3) := by decide +kernel
theorem dX1_records_14 : decode cX1_records 14 = .ok (.iload_n 2, 1) := by decide +kernel
theorem dX1_records_15 : decode cX1_records 15 = .ok (.aaload, 1) := by decide +kernel
theorem dX1_records_16 : decode cX1_records 16 = .ok (.invokevirtual 57, 3) := by decide +kernel
theorem dX1_records_19 : decode cX1_records 19 = .ok (.iconst (-1), 1) := by decide +kernel
theorem dX1_records_20 : decode cX1_records 20 = .ok (.if_icmp .eq 6, 3) := by decide +kernel
theorem dX1_records_23 : decode cX1_records 23 = .ok (.iinc 1 1, 3) := by decide +kernel
theorem dX1_records_26 : decode cX1_records 26 = .ok (.iinc 2 1, 3) := by decide +kernel
theorem dX1_records_29 : decode cX1_records 29 = .ok (.goto (-25), 3) := by decide +kernel
theorem dX1_records_32 : decode cX1_records 32 = .ok (.iload_n 1, 1) := by decide +kernel
theorem dX1_records_33 : decode cX1_records 33 = .ok (.ireturn, 1) := by decide +kernel
theorem dX1_yieldTo_0 : decode cX1_yieldTo 0 = .ok (.aload_n 0, 1) := by decide +kernel
theorem dX1_yieldTo_1 : decode cX1_yieldTo 1 = .ok (.aload_n 0, 1) := by decide +kernel
theorem dX1_yieldTo_2 : decode cX1_yieldTo 2 = .ok (.getfield 34, 3) := by decide +kernel
theorem dX1_yieldTo_5 : decode cX1_yieldTo 5 = .ok (.iload_n 1, 1) := by decide +kernel
theorem dX1_yieldTo_6 : decode cX1_yieldTo 6 = .ok (.invokestatic 61, 3) := by decide +kernel
theorem dX1_yieldTo_9 : decode cX1_yieldTo 9 = .ok (.putfield 34, 3) := by decide +kernel
theorem dX1_yieldTo_12 : decode cX1_yieldTo 12 = .ok (.aload_n 0, 1) := by decide +kernel
theorem dX1_yieldTo_13 : decode cX1_yieldTo 13 = .ok (.aload_n 0, 1) := by decide +kernel
theorem dX1_yieldTo_14 : decode cX1_yieldTo 14 = .ok (.getfield 41, 3) := by decide +kernel
theorem dX1_yieldTo_17 : decode cX1_yieldTo 17 = .ok (.aload_n 0, 1) := by decide +kernel
theorem dX1_yieldTo_18 : decode cX1_yieldTo 18 = .ok (.getfield 44, 3) := by decide +kernel
theorem dX1_yieldTo_21 : decode cX1_yieldTo 21 = .ok (.imul, 1) := by decide +kernel
theorem dX1_yieldTo_22 : decode cX1_yieldTo 22 = .ok (.aload_n 0, 1) := by decide +kernel
theorem dX1_yieldTo_23 : decode cX1_yieldTo 23 = .ok (.getfield 47, 3) := by decide +kernel
theorem dX1_yieldTo_26 : decode cX1_yieldTo 26 = .ok (.iconst 2, 1) := by decide +kernel
theorem dX1_yieldTo_27 : decode cX1_yieldTo 27 = .ok (.idiv, 1) := by decide +kernel
theorem dX1_yieldTo_28 : decode cX1_yieldTo 28 = .ok (.iadd, 1) := by decide +kernel
theorem dX1_yieldTo_29 : decode cX1_yieldTo 29 = .ok (.putfield 54, 3) := by decide +kernel
theorem dX1_yieldTo_32 : decode cX1_yieldTo 32 = .ok (.return_, 1) := by decide +kernel
theorem dX1_ageFilters_0 : decode cX1_ageFilters 0 = .ok (.iconst 0, 1) := by decide +kernel
theorem dX1_ageFilters_1 : decode cX1_ageFilters 1 = .ok (.istore_n 2, 1) := by decide +kernel
theorem dX1_ageFilters_2 : decode cX1_ageFilters 2 = .ok (.iload_n 2, 1) := by decide +kernel
theorem dX1_ageFilters_3 : decode cX1_ageFilters 3 = .ok (.bipush 8, 2) := by decide +kernel
theorem dX1_ageFilters_5 : decode cX1_ageFilters 5 = .ok (.if_icmp .ge 19, 3) := by decide +kernel
theorem dX1_ageFilters_8 : decode cX1_ageFilters 8 = .ok (.aload_n 0, 1) := by decide +kernel
theorem dX1_ageFilters_9 : decode cX1_ageFilters 9 = .ok (.getfield 11, 3) := by decide +kernel
theorem dX1_ageFilters_12 : decode cX1_ageFilters 12 = .ok (.iload_n 2, 1) := by decide +kernel
theorem dX1_ageFilters_13 : decode cX1_ageFilters 13 = .ok (.aaload, 1) := by decide +kernel
theorem dX1_ageFilters_14 : decode cX1_ageFilters 14 = .ok (.iload_n 1, 1) := by decide +kernel
theorem dX1_ageFilters_15 : decode cX1_ageFilters 15 = .ok (.invokevirtual 67, 3) := by decide +kernel
theorem dX1_ageFilters_18 : decode cX1_ageFilters 18 = .ok (.iinc 2 1, 3) := by decide +kernel
theorem dX1_ageFilters_21 : decode cX1_ageFilters 21 = .ok (.goto (-19), 3) := by decide +kernel
theorem dX1_ageFilters_24 : decode cX1_ageFilters 24 = .ok (.return_, 1) := by decide +kernel
theorem dX1_runClock_0 : decode cX1_runClock 0 = .ok (.aload_n 0, 1) := by decide +kernel
theorem dX1_runClock_1 : decode cX1_runClock 1 = .ok (.dup, 1) := by decide +kernel
theorem dX1_runClock_2 : decode cX1_runClock 2 = .ok (.getfield 54, 3) := by decide +kernel
theorem dX1_runClock_5 : decode cX1_runClock 5 = .ok (.iload_n 2, 1) := by decide +kernel
theorem dX1_runClock_6 : decode cX1_runClock 6 = .ok (.isub, 1) := by decide +kernel
theorem dX1_runClock_7 : decode cX1_runClock 7 = .ok (.putfield 54, 3) := by decide +kernel
theorem dX1_runClock_10 : decode cX1_runClock 10 = .ok (.aload_n 0, 1) := by decide +kernel
theorem dX1_runClock_11 : decode cX1_runClock 11 = .ok (.getfield 54, 3) := by decide +kernel
theorem dX1_runClock_14 : decode cX1_runClock 14 = .ok (.ifCond .le 4, 3) := by decide +kernel
theorem dX1_runClock_17 : decode cX1_runClock 17 = .ok (.return_, 1) := by decide +kernel
theorem dX1_runClock_18 : decode cX1_runClock 18 = .ok (.aload_n 0, 1) := by decide +kernel
theorem dX1_runClock_19 : decode cX1_runClock 19 = .ok (.invokevirtual 50, 3) := by decide +kernel
theorem dX1_runClock_22 : decode cX1_runClock 22 = .ok (.ifCond .eq 13, 3) := by decide +kernel
theorem dX1_runClock_25 : decode cX1_runClock 25 = .ok (.aload_n 1, 1) := by decide +kernel
theorem dX1_runClock_26 : decode cX1_runClock 26 = .ok (.aload_n 0, 1) := by decide +kernel
theorem dX1_runClock_27 : decode cX1_runClock 27 = .ok (.getfield 23, 3) := by decide +kernel
theorem dX1_runClock_30 : decode cX1_runClock 30 = .ok (.iconst (-1), 1) := by decide +kernel
theorem dX1_runClock_31 : decode cX1_runClock 31 = .ok (.iconst 0, 1) := by decide +kernel
theorem dX1_runClock_32 : decode cX1_runClock 32 = .ok (.invokevirtual 71, 3) := by decide +kernel
theorem dX1_runClock_35 : decode cX1_runClock 35 = .ok (.aload_n 0, 1) := by decide +kernel
theorem dX1_runClock_36 : decode cX1_runClock 36 = .ok (.sipush 500, 3) := by decide +kernel
theorem dX1_runClock_39 : decode cX1_runClock 39 = .ok (.putfield 34, 3) := by decide +kernel
theorem dX1_runClock_42 : decode cX1_runClock 42 = .ok (.aload_n 0, 1) := by decide +kernel
theorem dX1_runClock_43 : decode cX1_runClock 43 = .ok (.aload_n 0, 1) := by decide +kernel
theorem dX1_runClock_44 : decode cX1_runClock 44 = .ok (.getfield 44, 3) := by decide +kernel
theorem dX1_runClock_47 : decode cX1_runClock 47 = .ok (.putfield 54, 3) := by decide +kernel
theorem dX1_runClock_50 : decode cX1_runClock 50 = .ok (.return_, 1) := by decide +kernel
theorem dX1_hearReport_0 : decode cX1_hearReport 0 = .ok (.iload_n 3, 1) := by decide +kernel
theorem dX1_hearReport_1 : decode cX1_hearReport 1 = .ok (.tableswitch 90 1 5 #[35, 57, 68, 90, 79], 35) := by decide +kernel
theorem dX1_hearReport_36 : decode cX1_hearReport 36 = .ok (.aload_n 0, 1) := by decide +kernel
theorem dX1_hearReport_37 : decode cX1_hearReport 37 = .ok (.getfield 11, 3) := by decide +kernel
theorem dX1_hearReport_40 : decode cX1_hearReport 40 = .ok (.iload_n 2, 1) := by decide +kernel
theorem dX1_hearReport_41 : decode cX1_hearReport 41 = .ok (.aaload, 1) := by decide +kernel
theorem dX1_hearReport_42 : decode cX1_hearReport 42 = .ok (.iload 4, 2) := by decide +kernel
theorem dX1_hearReport_44 : decode cX1_hearReport 44 = .ok (.aload_n 0, 1) := by decide +kernel
theorem dX1_hearReport_45 : decode cX1_hearReport 45 = .ok (.invokevirtual 76, 3) := by decide +kernel
theorem dX1_hearReport_48 : decode cX1_hearReport 48 = .ok (.aload_n 0, 1) := by decide +kernel
theorem dX1_hearReport_49 : decode cX1_hearReport 49 = .ok (.invokevirtual 76, 3) := by decide +kernel
theorem dX1_hearReport_52 : decode cX1_hearReport 52 = .ok (.invokevirtual 79, 3) := by decide +kernel
theorem dX1_hearReport_55 : decode cX1_hearReport 55 = .ok (.goto 51, 3) := by decide +kernel
theorem dX1_hearReport_58 : decode cX1_hearReport 58 = .ok (.aload_n 0, 1) := by decide +kernel
theorem dX1_hearReport_59 : decode cX1_hearReport 59 = .ok (.aload_n 1, 1) := by decide +kernel
theorem dX1_hearReport_60 : decode cX1_hearReport 60 = .ok (.iload_n 2, 1) := by decide +kernel
theorem dX1_hearReport_61 : decode cX1_hearReport 61 = .ok (.iload 4, 2) := by decide +kernel
theorem dX1_hearReport_63 : decode cX1_hearReport 63 = .ok (.invokevirtual 82, 3) := by decide +kernel
theorem dX1_hearReport_66 : decode cX1_hearReport 66 = .ok (.goto 40, 3) := by decide +kernel
theorem dX1_hearReport_69 : decode cX1_hearReport 69 = .ok (.aload_n 0, 1) := by decide +kernel
theorem dX1_hearReport_70 : decode cX1_hearReport 70 = .ok (.aload_n 1, 1) := by decide +kernel
theorem dX1_hearReport_71 : decode cX1_hearReport 71 = .ok (.iload_n 2, 1) := by decide +kernel
theorem dX1_hearReport_72 : decode cX1_hearReport 72 = .ok (.iload 4, 2) := by decide +kernel
theorem dX1_hearReport_74 : decode cX1_hearReport 74 = .ok (.invokevirtual 86, 3) := by decide +kernel
theorem dX1_hearReport_77 : decode cX1_hearReport 77 = .ok (.goto 29, 3) := by decide +kernel
theorem dX1_hearReport_80 : decode cX1_hearReport 80 = .ok (.aload_n 0, 1) := by decide +kernel
theorem dX1_hearReport_81 : decode cX1_hearReport 81 = .ok (.aload_n 1, 1) := by decide +kernel
theorem dX1_hearReport_82 : decode cX1_hearReport 82 = .ok (.iload_n 2, 1) := by decide +kernel
theorem dX1_hearReport_83 : decode cX1_hearReport 83 = .ok (.iload 4, 2) := by decide +kernel
theorem dX1_hearReport_85 : decode cX1_hearReport 85 = .ok (.invokevirtual 89, 3) := by decide +kernel
theorem dX1_hearReport_88 : decode cX1_hearReport 88 = .ok (.goto 18, 3) := by decide +kernel
theorem dX1_hearReport_91 : decode cX1_hearReport 91 = .ok (.aload_n 0, 1) := by decide +kernel
theorem dX1_hearReport_92 : decode cX1_hearReport 92 = .ok (.getfield 11, 3) := by decide +kernel
theorem dX1_hearReport_95 : decode cX1_hearReport 95 = .ok (.iload_n 2, 1) := by decide +kernel
theorem dX1_hearReport_96 : decode cX1_hearReport 96 = .ok (.aaload, 1) := by decide +kernel
theorem dX1_hearReport_97 : decode cX1_hearReport 97 = .ok (.iload 4, 2) := by decide +kernel
theorem dX1_hearReport_99 : decode cX1_hearReport 99 = .ok (.aload_n 0, 1) := by decide +kernel
theorem dX1_hearReport_100 : decode cX1_hearReport 100 = .ok (.invokevirtual 76, 3) := by decide +kernel
theorem dX1_hearReport_103 : decode cX1_hearReport 103 = .ok (.invokevirtual 92, 3) := by decide +kernel
theorem dX1_hearReport_106 : decode cX1_hearReport 106 = .ok (.return_, 1) := by decide +kernel
theorem dX1_hearToIn_0 : decode cX1_hearToIn 0 = .ok (.aload_n 0, 1) := by decide +kernel
theorem dX1_hearToIn_1 : decode cX1_hearToIn 1 = .ok (.getfield 11, 3) := by decide +kernel
theorem dX1_hearToIn_4 : decode cX1_hearToIn 4 = .ok (.iload_n 2, 1) := by decide +kernel
theorem dX1_hearToIn_5 : decode cX1_hearToIn 5 = .ok (.aaload, 1) := by decide +kernel
theorem dX1_hearToIn_6 : decode cX1_hearToIn 6 = .ok (.astore 4, 2) := by decide +kernel
theorem dX1_hearToIn_8 : decode cX1_hearToIn 8 = .ok (.aload 4, 2) := by decide +kernel
theorem dX1_hearToIn_10 : decode cX1_hearToIn 10 = .ok (.getfield 96, 3) := by decide +kernel
theorem dX1_hearToIn_13 : decode cX1_hearToIn 13 = .ok (.iload_n 3, 1) := by decide +kernel
theorem dX1_hearToIn_14 : decode cX1_hearToIn 14 = .ok (.iconst (-1), 1) := by decide +kernel
theorem dX1_hearToIn_15 : decode cX1_hearToIn 15 = .ok (.ixor, 1) := by decide +kernel
theorem dX1_hearToIn_16 : decode cX1_hearToIn 16 = .ok (.iand, 1) := by decide +kernel
theorem dX1_hearToIn_17 : decode cX1_hearToIn 17 = .ok (.istore 5, 2) := by decide +kernel
theorem dX1_hearToIn_19 : decode cX1_hearToIn 19 = .ok (.aload 4, 2) := by decide +kernel
theorem dX1_hearToIn_21 : decode cX1_hearToIn 21 = .ok (.iload_n 3, 1) := by decide +kernel
theorem dX1_hearToIn_22 : decode cX1_hearToIn 22 = .ok (.aload_n 0, 1) := by decide +kernel
theorem dX1_hearToIn_23 : decode cX1_hearToIn 23 = .ok (.invokevirtual 76, 3) := by decide +kernel
theorem dX1_hearToIn_26 : decode cX1_hearToIn 26 = .ok (.invokevirtual 92, 3) := by decide +kernel
theorem dX1_hearToIn_29 : decode cX1_hearToIn 29 = .ok (.aload_n 0, 1) := by decide +kernel
theorem dX1_hearToIn_30 : decode cX1_hearToIn 30 = .ok (.aload_n 1, 1) := by decide +kernel
theorem dX1_hearToIn_31 : decode cX1_hearToIn 31 = .ok (.iload_n 2, 1) := by decide +kernel
theorem dX1_hearToIn_32 : decode cX1_hearToIn 32 = .ok (.iload 5, 2) := by decide +kernel
theorem dX1_hearToIn_34 : decode cX1_hearToIn 34 = .ok (.invokevirtual 99, 3) := by decide +kernel
theorem dX1_hearToIn_37 : decode cX1_hearToIn 37 = .ok (.aload 4, 2) := by decide +kernel
theorem dX1_hearToIn_39 : decode cX1_hearToIn 39 = .ok (.getfield 102, 3) := by decide +kernel
theorem dX1_hearToIn_42 : decode cX1_hearToIn 42 = .ok (.ifCond .eq 9, 3) := by decide +kernel
theorem dX1_hearToIn_45 : decode cX1_hearToIn 45 = .ok (.aload_n 0, 1) := by decide +kernel
theorem dX1_hearToIn_46 : decode cX1_hearToIn 46 = .ok (.aload_n 1, 1) := by decide +kernel
theorem dX1_hearToIn_47 : decode cX1_hearToIn 47 = .ok (.iload_n 2, 1) := by decide +kernel
theorem dX1_hearToIn_48 : decode cX1_hearToIn 48 = .ok (.invokevirtual 106, 3) := by decide +kernel
theorem dX1_hearToIn_51 : decode cX1_hearToIn 51 = .ok (.return_, 1) := by decide +kernel
theorem dX1_hearToEx_0 : decode cX1_hearToEx 0 = .ok (.aload_n 0, 1) := by decide +kernel
theorem dX1_hearToEx_1 : decode cX1_hearToEx 1 = .ok (.getfield 11, 3) := by decide +kernel
theorem dX1_hearToEx_4 : decode cX1_hearToEx 4 = .ok (.iload_n 2, 1) := by decide +kernel
theorem dX1_hearToEx_5 : decode cX1_hearToEx 5 = .ok (.aaload, 1) := by decide +kernel
theorem dX1_hearToEx_6 : decode cX1_hearToEx 6 = .ok (.astore 4, 2) := by decide +kernel
theorem dX1_hearToEx_8 : decode cX1_hearToEx 8 = .ok (.aload 4, 2) := by decide +kernel
theorem dX1_hearToEx_10 : decode cX1_hearToEx 10 = .ok (.iload_n 3, 1) := by decide +kernel
theorem dX1_hearToEx_11 : decode cX1_hearToEx 11 = .ok (.invokevirtual 110, 3) := by decide +kernel
theorem dX1_hearToEx_14 : decode cX1_hearToEx 14 = .ok (.istore 5, 2) := by decide +kernel
theorem dX1_hearToEx_16 : decode cX1_hearToEx 16 = .ok (.aload 4, 2) := by decide +kernel
theorem dX1_hearToEx_18 : decode cX1_hearToEx 18 = .ok (.iload_n 3, 1) := by decide +kernel
theorem dX1_hearToEx_19 : decode cX1_hearToEx 19 = .ok (.aload 4, 2) := by decide +kernel
theorem dX1_hearToEx_21 : decode cX1_hearToEx 21 = .ok (.getfield 114, 3) := by decide +kernel
theorem dX1_hearToEx_24 : decode cX1_hearToEx 24 = .ok (.aload_n 0, 1) := by decide +kernel
theorem dX1_hearToEx_25 : decode cX1_hearToEx 25 = .ok (.invokevirtual 76, 3) := by decide +kernel
theorem dX1_hearToEx_28 : decode cX1_hearToEx 28 = .ok (.invokevirtual 79, 3) := by decide +kernel
theorem dX1_hearToEx_31 : decode cX1_hearToEx 31 = .ok (.aload_n 0, 1) := by decide +kernel
theorem dX1_hearToEx_32 : decode cX1_hearToEx 32 = .ok (.aload_n 1, 1) := by decide +kernel
theorem dX1_hearToEx_33 : decode cX1_hearToEx 33 = .ok (.iload_n 2, 1) := by decide +kernel
theorem dX1_hearToEx_34 : decode cX1_hearToEx 34 = .ok (.iload 5, 2) := by decide +kernel
theorem dX1_hearToEx_36 : decode cX1_hearToEx 36 = .ok (.invokevirtual 99, 3) := by decide +kernel
theorem dX1_hearToEx_39 : decode cX1_hearToEx 39 = .ok (.return_, 1) := by decide +kernel
theorem dX1_hearBlock_0 : decode cX1_hearBlock 0 = .ok (.aload_n 0, 1) := by decide +kernel
theorem dX1_hearBlock_1 : decode cX1_hearBlock 1 = .ok (.getfield 11, 3) := by decide +kernel
theorem dX1_hearBlock_4 : decode cX1_hearBlock 4 = .ok (.iload_n 2, 1) := by decide +kernel
theorem dX1_hearBlock_5 : decode cX1_hearBlock 5 = .ok (.aaload, 1) := by decide +kernel
theorem dX1_hearBlock_6 : decode cX1_hearBlock 6 = .ok (.astore 4, 2) := by decide +kernel
theorem dX1_hearBlock_8 : decode cX1_hearBlock 8 = .ok (.aload 4, 2) := by decide +kernel
theorem dX1_hearBlock_10 : decode cX1_hearBlock 10 = .ok (.iload_n 3, 1) := by decide +kernel
theorem dX1_hearBlock_11 : decode cX1_hearBlock 11 = .ok (.invokevirtual 110, 3) := by decide +kernel
theorem dX1_hearBlock_14 : decode cX1_hearBlock 14 = .ok (.istore 5, 2) := by decide +kernel
theorem dX1_hearBlock_16 : decode cX1_hearBlock 16 = .ok (.aload 4, 2) := by decide +kernel
theorem dX1_hearBlock_18 : decode cX1_hearBlock 18 = .ok (.iload_n 3, 1) := by decide +kernel
theorem dX1_hearBlock_19 : decode cX1_hearBlock 19 = .ok (.invokevirtual 117, 3) := by decide +kernel
theorem dX1_hearBlock_22 : decode cX1_hearBlock 22 = .ok (.aload_n 0, 1) := by decide +kernel
theorem dX1_hearBlock_23 : decode cX1_hearBlock 23 = .ok (.aload_n 1, 1) := by decide +kernel
theorem dX1_hearBlock_24 : decode cX1_hearBlock 24 = .ok (.iload_n 2, 1) := by decide +kernel
theorem dX1_hearBlock_25 : decode cX1_hearBlock 25 = .ok (.iload 5, 2) := by decide +kernel
theorem dX1_hearBlock_27 : decode cX1_hearBlock 27 = .ok (.invokevirtual 99, 3) := by decide +kernel
theorem dX1_hearBlock_30 : decode cX1_hearBlock 30 = .ok (.return_, 1) := by decide +kernel
theorem dX1_askSources_0 : decode cX1_askSources 0 = .ok (.iload_n 3, 1) := by decide +kernel
theorem dX1_askSources_1 : decode cX1_askSources 1 = .ok (.ifCond .eq 34, 3) := by decide +kernel
theorem dX1_askSources_4 : decode cX1_askSources 4 = .ok (.aload_n 0, 1) := by decide +kernel
theorem dX1_askSources_5 : decode cX1_askSources 5 = .ok (.invokevirtual 50, 3) := by decide +kernel
theorem dX1_askSources_8 : decode cX1_askSources 8 = .ok (.ifCond .eq 27, 3) := by decide +kernel
theorem dX1_askSources_11 : decode cX1_askSources 11 = .ok (.aload_n 1, 1) := by decide +kernel
theorem dX1_askSources_12 : decode cX1_askSources 12 = .ok (.aload_n 0, 1) := by decide +kernel
theorem dX1_askSources_13 : decode cX1_askSources 13 = .ok (.getfield 23, 3) := by decide +kernel
theorem dX1_askSources_16 : decode cX1_askSources 16 = .ok (.iload_n 2, 1) := by decide +kernel
theorem dX1_askSources_17 : decode cX1_askSources 17 = .ok (.iload_n 3, 1) := by decide +kernel
theorem dX1_askSources_18 : decode cX1_askSources 18 = .ok (.invokevirtual 71, 3) := by decide +kernel
theorem dX1_askSources_21 : decode cX1_askSources 21 = .ok (.aload_n 0, 1) := by decide +kernel
theorem dX1_askSources_22 : decode cX1_askSources 22 = .ok (.getfield 11, 3) := by decide +kernel
theorem dX1_askSources_25 : decode cX1_askSources 25 = .ok (.iload_n 2, 1) := by decide +kernel
theorem dX1_askSources_26 : decode cX1_askSources 26 = .ok (.aaload, 1) := by decide +kernel
theorem dX1_askSources_27 : decode cX1_askSources 27 = .ok (.iload_n 3, 1) := by decide +kernel
theorem dX1_askSources_28 : decode cX1_askSources 28 = .ok (.aload_n 0, 1) := by decide +kernel
theorem dX1_askSources_29 : decode cX1_askSources 29 = .ok (.invokevirtual 120, 3) := by decide +kernel
theorem dX1_askSources_32 : decode cX1_askSources 32 = .ok (.invokevirtual 123, 3) := by decide +kernel
theorem dX1_askSources_35 : decode cX1_askSources 35 = .ok (.return_, 1) := by decide +kernel
theorem dX1_askGroup_0 : decode cX1_askGroup 0 = .ok (.aload_n 0, 1) := by decide +kernel
theorem dX1_askGroup_1 : decode cX1_askGroup 1 = .ok (.invokevirtual 50, 3) := by decide +kernel
theorem dX1_askGroup_4 : decode cX1_askGroup 4 = .ok (.ifCond .eq 26, 3) := by decide +kernel
theorem dX1_askGroup_7 : decode cX1_askGroup 7 = .ok (.aload_n 1, 1) := by decide +kernel
theorem dX1_askGroup_8 : decode cX1_askGroup 8 = .ok (.aload_n 0, 1) := by decide +kernel
theorem dX1_askGroup_9 : decode cX1_askGroup 9 = .ok (.getfield 23, 3) := by decide +kernel
theorem dX1_askGroup_12 : decode cX1_askGroup 12 = .ok (.iload_n 2, 1) := by decide +kernel
theorem dX1_askGroup_13 : decode cX1_askGroup 13 = .ok (.iconst 0, 1) := by decide +kernel
theorem dX1_askGroup_14 : decode cX1_askGroup 14 = .ok (.invokevirtual 71, 3) := by decide +kernel
theorem dX1_askGroup_17 : decode cX1_askGroup 17 = .ok (.aload_n 0, 1) := by decide +kernel
theorem dX1_askGroup_18 : decode cX1_askGroup 18 = .ok (.getfield 11, 3) := by decide +kernel
theorem dX1_askGroup_21 : decode cX1_askGroup 21 = .ok (.iload_n 2, 1) := by decide +kernel
theorem dX1_askGroup_22 : decode cX1_askGroup 22 = .ok (.aaload, 1) := by decide +kernel
theorem dX1_askGroup_23 : decode cX1_askGroup 23 = .ok (.aload_n 0, 1) := by decide +kernel
theorem dX1_askGroup_24 : decode cX1_askGroup 24 = .ok (.invokevirtual 120, 3) := by decide +kernel
theorem dX1_askGroup_27 : decode cX1_askGroup 27 = .ok (.invokevirtual 126, 3) := by decide +kernel
theorem dX1_askGroup_30 : decode cX1_askGroup 30 = .ok (.return_, 1) := by decide +kernel
theorem dX1_hearQuery_0 : decode cX1_hearQuery 0 = .ok (.iload_n 2, 1) := by decide +kernel
theorem dX1_hearQuery_1 : decode cX1_hearQuery 1 = .ok (.ifCond .ne 19, 3) := by decide +kernel
theorem dX1_hearQuery_4 : decode cX1_hearQuery 4 = .ok (.aload_n 0, 1) := by decide +kernel
theorem dX1_hearQuery_5 : decode cX1_hearQuery 5 = .ok (.getfield 11, 3) := by decide +kernel
theorem dX1_hearQuery_8 : decode cX1_hearQuery 8 = .ok (.iload_n 1, 1) := by decide +kernel
theorem dX1_hearQuery_9 : decode cX1_hearQuery 9 = .ok (.aaload, 1) := by decide +kernel
theorem dX1_hearQuery_10 : decode cX1_hearQuery 10 = .ok (.aload_n 0, 1) := by decide +kernel
theorem dX1_hearQuery_11 : decode cX1_hearQuery 11 = .ok (.invokevirtual 120, 3) := by decide +kernel
theorem dX1_hearQuery_14 : decode cX1_hearQuery 14 = .ok (.invokevirtual 126, 3) := by decide +kernel
theorem dX1_hearQuery_17 : decode cX1_hearQuery 17 = .ok (.goto 17, 3) := by decide +kernel
theorem dX1_hearQuery_20 : decode cX1_hearQuery 20 = .ok (.aload_n 0, 1) := by decide +kernel
theorem dX1_hearQuery_21 : decode cX1_hearQuery 21 = .ok (.getfield 11, 3) := by decide +kernel
theorem dX1_hearQuery_24 : decode cX1_hearQuery 24 = .ok (.iload_n 1, 1) := by decide +kernel
theorem dX1_hearQuery_25 : decode cX1_hearQuery 25 = .ok (.aaload, 1) := by decide +kernel
theorem dX1_hearQuery_26 : decode cX1_hearQuery 26 = .ok (.iload_n 2, 1) := by decide +kernel
theorem dX1_hearQuery_27 : decode cX1_hearQuery 27 = .ok (.aload_n 0, 1) := by decide +kernel
theorem dX1_hearQuery_28 : decode cX1_hearQuery 28 = .ok (.invokevirtual 120, 3) := by decide +kernel
theorem dX1_hearQuery_31 : decode cX1_hearQuery 31 = .ok (.invokevirtual 123, 3) := by decide +kernel
theorem dX1_hearQuery_34 : decode cX1_hearQuery 34 = .ok (.return_, 1) := by decide +kernel
theorem dX1_changeWish_0 : decode cX1_changeWish 0 = .ok (.aload_n 0, 1) := by decide +kernel
theorem dX1_changeWish_1 : decode cX1_changeWish 1 = .ok (.getfield 19, 3) := by decide +kernel
theorem dX1_changeWish_4 : decode cX1_changeWish 4 = .ok (.iload_n 2, 1) := by decide +kernel
theorem dX1_changeWish_5 : decode cX1_changeWish 5 = .ok (.aaload, 1) := by decide +kernel
theorem dX1_changeWish_6 : decode cX1_changeWish 6 = .ok (.astore 6, 2) := by decide +kernel
theorem dX1_changeWish_8 : decode cX1_changeWish 8 = .ok (.aload 6, 2) := by decide +kernel
theorem dX1_changeWish_10 : decode cX1_changeWish 10 = .ok (.getfield 129, 3) := by decide +kernel
theorem dX1_changeWish_13 : decode cX1_changeWish 13 = .ok (.iload_n 3, 1) := by decide +kernel
theorem dX1_changeWish_14 : decode cX1_changeWish 14 = .ok (.iaload, 1) := by decide +kernel
theorem dX1_changeWish_15 : decode cX1_changeWish 15 = .ok (.istore 7, 2) := by decide +kernel
theorem dX1_changeWish_17 : decode cX1_changeWish 17 = .ok (.aload 6, 2) := by decide +kernel
theorem dX1_changeWish_19 : decode cX1_changeWish 19 = .ok (.getfield 133, 3) := by decide +kernel
theorem dX1_changeWish_22 : decode cX1_changeWish 22 = .ok (.iload_n 3, 1) := by decide +kernel
theorem dX1_changeWish_23 : decode cX1_changeWish 23 = .ok (.baload, 1) := by decide +kernel
theorem dX1_changeWish_24 : decode cX1_changeWish 24 = .ok (.istore 8, 2) := by decide +kernel
theorem dX1_changeWish_26 : decode cX1_changeWish 26 = .ok (.aload 6, 2) := by decide +kernel
theorem dX1_changeWish_28 : decode cX1_changeWish 28 = .ok (.getfield 129, 3) := by decide +kernel
theorem dX1_changeWish_31 : decode cX1_changeWish 31 = .ok (.iload_n 3, 1) := by decide +kernel
theorem dX1_changeWish_32 : decode cX1_changeWish 32 = .ok (.iload 5, 2) := by decide +kernel
theorem dX1_changeWish_34 : decode cX1_changeWish 34 = .ok (.iastore, 1) := by decide +kernel
theorem dX1_changeWish_35 : decode cX1_changeWish 35 = .ok (.aload 6, 2) := by decide +kernel
theorem dX1_changeWish_37 : decode cX1_changeWish 37 = .ok (.getfield 133, 3) := by decide +kernel
theorem dX1_changeWish_40 : decode cX1_changeWish 40 = .ok (.iload_n 3, 1) := by decide +kernel
theorem dX1_changeWish_41 : decode cX1_changeWish 41 = .ok (.iload 4, 2) := by decide +kernel
theorem dX1_changeWish_43 : decode cX1_changeWish 43 = .ok (.bastore, 1) := by decide +kernel
theorem dX1_changeWish_44 : decode cX1_changeWish 44 = .ok (.iload 4, 2) := by decide +kernel
theorem dX1_changeWish_46 : decode cX1_changeWish 46 = .ok (.iload 8, 2) := by decide +kernel
theorem dX1_changeWish_48 : decode cX1_changeWish 48 = .ok (.if_icmp .eq 22, 3) := by decide +kernel
theorem dX1_changeWish_51 : decode cX1_changeWish 51 = .ok (.aload_n 0, 1) := by decide +kernel
theorem dX1_changeWish_52 : decode cX1_changeWish 52 = .ok (.aload_n 1, 1) := by decide +kernel
theorem dX1_changeWish_53 : decode cX1_changeWish 53 = .ok (.iload_n 3, 1) := by decide +kernel
theorem dX1_changeWish_54 : decode cX1_changeWish 54 = .ok (.iload 4, 2) := by decide +kernel
theorem dX1_changeWish_56 : decode cX1_changeWish 56 = .ok (.ifCond .eq 7, 3) := by decide +kernel
theorem dX1_changeWish_59 : decode cX1_changeWish 59 = .ok (.iconst 3, 1) := by decide +kernel
theorem dX1_changeWish_60 : decode cX1_changeWish 60 = .ok (.goto 4, 3) := by decide +kernel
theorem dX1_changeWish_63 : decode cX1_changeWish 63 = .ok (.iconst 2, 1) := by decide +kernel
theorem dX1_changeWish_64 : decode cX1_changeWish 64 = .ok (.iload 5, 2) := by decide +kernel
theorem dX1_changeWish_66 : decode cX1_changeWish 66 = .ok (.invokevirtual 136, 3) := by decide +kernel
theorem dX1_changeWish_69 : decode cX1_changeWish 69 = .ok (.return_, 1) := by decide +kernel
theorem dX1_changeWish_70 : decode cX1_changeWish 70 = .ok (.iload 5, 2) := by decide +kernel
theorem dX1_changeWish_72 : decode cX1_changeWish 72 = .ok (.iload 7, 2) := by decide +kernel
theorem dX1_changeWish_74 : decode cX1_changeWish 74 = .ok (.iconst (-1), 1) := by decide +kernel
theorem dX1_changeWish_75 : decode cX1_changeWish 75 = .ok (.ixor, 1) := by decide +kernel
theorem dX1_changeWish_76 : decode cX1_changeWish 76 = .ok (.iand, 1) := by decide +kernel
theorem dX1_changeWish_77 : decode cX1_changeWish 77 = .ok (.istore 9, 2) := by decide +kernel
theorem dX1_changeWish_79 : decode cX1_changeWish 79 = .ok (.iload 7, 2) := by decide +kernel
theorem dX1_changeWish_81 : decode cX1_changeWish 81 = .ok (.iload 5, 2) := by decide +kernel
theorem dX1_changeWish_83 : decode cX1_changeWish 83 = .ok (.iconst (-1), 1) := by decide +kernel
theorem dX1_changeWish_84 : decode cX1_changeWish 84 = .ok (.ixor, 1) := by decide +kernel
theorem dX1_changeWish_85 : decode cX1_changeWish 85 = .ok (.iand, 1) := by decide +kernel
theorem dX1_changeWish_86 : decode cX1_changeWish 86 = .ok (.istore 10, 2) := by decide +kernel
theorem dX1_changeWish_88 : decode cX1_changeWish 88 = .ok (.iload 4, 2) := by decide +kernel
theorem dX1_changeWish_90 : decode cX1_changeWish 90 = .ok (.ifCond .eq 8, 3) := by decide +kernel
theorem dX1_changeWish_93 : decode cX1_changeWish 93 = .ok (.iload 10, 2) := by decide +kernel
theorem dX1_changeWish_95 : decode cX1_changeWish 95 = .ok (.goto 5, 3) := by decide +kernel
theorem dX1_changeWish_98 : decode cX1_changeWish 98 = .ok (.iload 9, 2) := by decide +kernel
theorem dX1_changeWish_100 : decode cX1_changeWish 100 = .ok (.istore 11, 2) := by decide +kernel
theorem dX1_changeWish_102 : decode cX1_changeWish 102 = .ok (.iload 4, 2) := by decide +kernel
theorem dX1_changeWish_104 : decode cX1_changeWish 104 = .ok (.ifCond .eq 8, 3) := by decide +kernel
theorem dX1_changeWish_107 : decode cX1_changeWish 107 = .ok (.iload 9, 2) := by decide +kernel
theorem dX1_changeWish_109 : decode cX1_changeWish 109 = .ok (.goto 5, 3) := by decide +kernel
theorem dX1_changeWish_112 : decode cX1_changeWish 112 = .ok (.iload 10, 2) := by decide +kernel
theorem dX1_changeWish_114 : decode cX1_changeWish 114 = .ok (.istore 12, 2) := by decide +kernel
theorem dX1_changeWish_116 : decode cX1_changeWish 116 = .ok (.iload 11, 2) := by decide +kernel
theorem dX1_changeWish_118 : decode cX1_changeWish 118 = .ok (.ifCond .eq 12, 3) := by decide +kernel
theorem dX1_changeWish_121 : decode cX1_changeWish 121 = .ok (.aload_n 0, 1) := by decide +kernel
theorem dX1_changeWish_122 : decode cX1_changeWish 122 = .ok (.aload_n 1, 1) := by decide +kernel
theorem dX1_changeWish_123 : decode cX1_changeWish 123 = .ok (.iload_n 3, 1) := by decide +kernel
theorem dX1_changeWish_124 : decode cX1_changeWish 124 = .ok (.iconst 4, 1) := by decide +kernel
theorem dX1_changeWish_125 : decode cX1_changeWish 125 = .ok (.iload 11, 2) := by decide +kernel
theorem dX1_changeWish_127 : decode cX1_changeWish 127 = .ok (.invokevirtual 136, 3) := by decide +kernel
theorem dX1_changeWish_130 : decode cX1_changeWish 130 = .ok (.iload 12, 2) := by decide +kernel
theorem dX1_changeWish_132 : decode cX1_changeWish 132 = .ok (.ifCond .eq 12, 3) := by decide +kernel
theorem dX1_changeWish_135 : decode cX1_changeWish 135 = .ok (.aload_n 0, 1) := by decide +kernel
theorem dX1_changeWish_136 : decode cX1_changeWish 136 = .ok (.aload_n 1, 1) := by decide +kernel
theorem dX1_changeWish_137 : decode cX1_changeWish 137 = .ok (.iload_n 3, 1) := by decide +kernel
theorem dX1_changeWish_138 : decode cX1_changeWish 138 = .ok (.iconst 5, 1) := by decide +kernel
theorem dX1_changeWish_139 : decode cX1_changeWish 139 = .ok (.iload 12, 2) := by decide +kernel
theorem dX1_changeWish_141 : decode cX1_changeWish 141 = .ok (.invokevirtual 136, 3) := by decide +kernel
theorem dX1_changeWish_144 : decode cX1_changeWish 144 = .ok (.return_, 1) := by decide +kernel
theorem dX1_letAnswer_0 : decode cX1_letAnswer 0 = .ok (.aload_n 0, 1) := by decide +kernel
theorem dX1_letAnswer_1 : decode cX1_letAnswer 1 = .ok (.getfield 19, 3) := by decide +kernel
theorem dX1_letAnswer_4 : decode cX1_letAnswer 4 = .ok (.iload_n 2, 1) := by decide +kernel
theorem dX1_letAnswer_5 : decode cX1_letAnswer 5 = .ok (.aaload, 1) := by decide +kernel
theorem dX1_letAnswer_6 : decode cX1_letAnswer 6 = .ok (.astore_n 3, 1) := by decide +kernel
theorem dX1_letAnswer_7 : decode cX1_letAnswer 7 = .ok (.iconst 0, 1) := by decide +kernel
theorem dX1_letAnswer_8 : decode cX1_letAnswer 8 = .ok (.istore 4, 2) := by decide +kernel
theorem dX1_letAnswer_10 : decode cX1_letAnswer 10 = .ok (.iconst 0, 1) := by decide +kernel
theorem dX1_letAnswer_11 : decode cX1_letAnswer 11 = .ok (.istore 5, 2) := by decide +kernel
theorem dX1_letAnswer_13 : decode cX1_letAnswer 13 = .ok (.iload 5, 2) := by decide +kernel
theorem dX1_letAnswer_15 : decode cX1_letAnswer 15 = .ok (.bipush 8, 2) := by decide +kernel
theorem dX1_letAnswer_17 : decode cX1_letAnswer 17 = .ok (.if_icmp .ge 61, 3) := by decide +kernel
theorem dX1_letAnswer_20 : decode cX1_letAnswer 20 = .ok (.aload_n 3, 1) := by decide +kernel
theorem dX1_letAnswer_21 : decode cX1_letAnswer 21 = .ok (.getfield 133, 3) := by decide +kernel
theorem dX1_letAnswer_24 : decode cX1_letAnswer 24 = .ok (.iload 5, 2) := by decide +kernel
theorem dX1_letAnswer_26 : decode cX1_letAnswer 26 = .ok (.baload, 1) := by decide +kernel
theorem dX1_letAnswer_27 : decode cX1_letAnswer 27 = .ok (.ifCond .ne 13, 3) := by decide +kernel
theorem dX1_letAnswer_30 : decode cX1_letAnswer 30 = .ok (.aload_n 3, 1) := by decide +kernel
theorem dX1_letAnswer_31 : decode cX1_letAnswer 31 = .ok (.getfield 129, 3) := by decide +kernel
theorem dX1_letAnswer_34 : decode cX1_letAnswer 34 = .ok (.iload 5, 2) := by decide +kernel
theorem dX1_letAnswer_36 : decode cX1_letAnswer 36 = .ok (.iaload, 1) := by decide +kernel
theorem dX1_letAnswer_37 : decode cX1_letAnswer 37 = .ok (.ifCond .eq 35, 3) := by decide +kernel
theorem dX1_letAnswer_40 : decode cX1_letAnswer 40 = .ok (.aload_n 0, 1) := by decide +kernel
theorem dX1_letAnswer_41 : decode cX1_letAnswer 41 = .ok (.aload_n 1, 1) := by decide +kernel
theorem dX1_letAnswer_42 : decode cX1_letAnswer 42 = .ok (.iload 5, 2) := by decide +kernel
theorem dX1_letAnswer_44 : decode cX1_letAnswer 44 = .ok (.aload_n 3, 1) := by decide +kernel
theorem dX1_letAnswer_45 : decode cX1_letAnswer 45 = .ok (.getfield 133, 3) := by decide +kernel
theorem dX1_letAnswer_48 : decode cX1_letAnswer 48 = .ok (.iload 5, 2) := by decide +kernel
theorem dX1_letAnswer_50 : decode cX1_letAnswer 50 = .ok (.baload, 1) := by decide +kernel
theorem dX1_letAnswer_51 : decode cX1_letAnswer 51 = .ok (.ifCond .eq 7, 3) := by decide +kernel
theorem dX1_letAnswer_54 : decode cX1_letAnswer 54 = .ok (.iconst 1, 1) := by decide +kernel
theorem dX1_letAnswer_55 : decode cX1_letAnswer 55 = .ok (.goto 4, 3) := by decide +kernel
theorem dX1_letAnswer_58 : decode cX1_letAnswer 58 = .ok (.iconst 0, 1) := by decide +kernel
theorem dX1_letAnswer_59 : decode cX1_letAnswer 59 = .ok (.aload_n 3, 1) := by decide +kernel
theorem dX1_letAnswer_60 : decode cX1_letAnswer 60 = .ok (.getfield 129, 3) := by decide +kernel
theorem dX1_letAnswer_63 : decode cX1_letAnswer 63 = .ok (.iload 5, 2) := by decide +kernel
theorem dX1_letAnswer_65 : decode cX1_letAnswer 65 = .ok (.iaload, 1) := by decide +kernel
theorem dX1_letAnswer_66 : decode cX1_letAnswer 66 = .ok (.invokevirtual 136, 3) := by decide +kernel
theorem dX1_letAnswer_69 : decode cX1_letAnswer 69 = .ok (.iinc 4 1, 3) := by decide +kernel
theorem dX1_letAnswer_72 : decode cX1_letAnswer 72 = .ok (.iinc 5 1, 3) := by decide +kernel
theorem dX1_letAnswer_75 : decode cX1_letAnswer 75 = .ok (.goto (-62), 3) := by decide +kernel
theorem dX1_letAnswer_78 : decode cX1_letAnswer 78 = .ok (.iload 4, 2) := by decide +kernel
theorem dX1_letAnswer_80 : decode cX1_letAnswer 80 = .ok (.ireturn, 1) := by decide +kernel
theorem dX1_hasMemberFor_0 : decode cX1_hasMemberFor 0 = .ok (.iconst 0, 1) := by decide +kernel
theorem dX1_hasMemberFor_1 : decode cX1_hasMemberFor 1 = .ok (.istore_n 3, 1) := by decide +kernel
theorem dX1_hasMemberFor_2 : decode cX1_hasMemberFor 2 = .ok (.iload_n 3, 1) := by decide +kernel
theorem dX1_hasMemberFor_3 : decode cX1_hasMemberFor 3 = .ok (.bipush 6, 2) := by decide +kernel
theorem dX1_hasMemberFor_5 : decode cX1_hasMemberFor 5 = .ok (.if_icmp .ge 25, 3) := by decide +kernel
theorem dX1_hasMemberFor_8 : decode cX1_hasMemberFor 8 = .ok (.aload_n 0, 1) := by decide +kernel
theorem dX1_hasMemberFor_9 : decode cX1_hasMemberFor 9 = .ok (.getfield 19, 3) := by decide +kernel
theorem dX1_hasMemberFor_12 : decode cX1_hasMemberFor 12 = .ok (.iload_n 3, 1) := by decide +kernel
theorem dX1_hasMemberFor_13 : decode cX1_hasMemberFor 13 = .ok (.aaload, 1) := by decide +kernel
theorem dX1_hasMemberFor_14 : decode cX1_hasMemberFor 14 = .ok (.iload_n 1, 1) := by decide +kernel
theorem dX1_hasMemberFor_15 : decode cX1_hasMemberFor 15 = .ok (.iload_n 2, 1) := by decide +kernel
theorem dX1_hasMemberFor_16 : decode cX1_hasMemberFor 16 = .ok (.invokevirtual 140, 3) := by decide +kernel
theorem dX1_hasMemberFor_19 : decode cX1_hasMemberFor 19 = .ok (.ifCond .eq 5, 3) := by decide +kernel
theorem dX1_hasMemberFor_22 : decode cX1_hasMemberFor 22 = .ok (.iconst 1, 1) := by decide +kernel
theorem dX1_hasMemberFor_23 : decode cX1_hasMemberFor 23 = .ok (.ireturn, 1) := by decide +kernel
theorem dX1_hasMemberFor_24 : decode cX1_hasMemberFor 24 = .ok (.iinc 3 1, 3) := by decide +kernel
theorem dX1_hasMemberFor_27 : decode cX1_hasMemberFor 27 = .ok (.goto (-25), 3) := by decide +kernel
theorem dX1_hasMemberFor_30 : decode cX1_hasMemberFor 30 = .ok (.iconst 0, 1) := by decide +kernel
theorem dX1_hasMemberFor_31 : decode cX1_hasMemberFor 31 = .ok (.ireturn, 1) := by decide +kernel
end
section
theorem dX4_init_0 : decode cX4_init 0 = .ok (.aload_n 0, 1) := by decide +kernel
theorem dX4_init_1 : decode cX4_init 1 = .ok (.invokespecial 1, 3) := by decide +kernel
theorem dX4_init_4 : decode cX4_init 4 = .ok (.iconst 1, 1) := by decide +kernel
theorem dX4_init_5 : decode cX4_init 5 = .ok (.iload_n 1, 1) := by decide +kernel
theorem dX4_init_6 : decode cX4_init 6 = .ok (.iconst 4, 1) := by decide +kernel
theorem dX4_init_7 : decode cX4_init 7 = .ok (.invokestatic 9, 3) := by decide +kernel
theorem dX4_init_10 : decode cX4_init 10 = .ok (.invokestatic 15, 3) := by decide +kernel
theorem dX4_init_13 : decode cX4_init 13 = .ok (.istore_n 2, 1) := by decide +kernel
theorem dX4_init_14 : decode cX4_init 14 = .ok (.aload_n 0, 1) := by decide +kernel
theorem dX4_init_15 : decode cX4_init 15 = .ok (.iload_n 2, 1) := by decide +kernel
theorem dX4_init_16 : decode cX4_init 16 = .ok (.anewarray 18, 3) := by decide +kernel
theorem dX4_init_19 : decode cX4_init 19 = .ok (.putfield 20, 3) := by decide +kernel
theorem dX4_init_22 : decode cX4_init 22 = .ok (.iconst 0, 1) := by decide +kernel
theorem dX4_init_23 : decode cX4_init 23 = .ok (.istore_n 3, 1) := by decide +kernel
theorem dX4_init_24 : decode cX4_init 24 = .ok (.iload_n 3, 1) := by decide +kernel
theorem dX4_init_25 : decode cX4_init 25 = .ok (.iload_n 2, 1) := by decide +kernel
theorem dX4_init_26 : decode cX4_init 26 = .ok (.if_icmp .ge 23, 3) := by decide +kernel
theorem dX4_init_29 : decode cX4_init 29 = .ok (.aload_n 0, 1) := by decide +kernel
theorem dX4_init_30 : decode cX4_init 30 = .ok (.getfield 20, 3) := by decide +kernel
theorem dX4_init_33 : decode cX4_init 33 = .ok (.iload_n 3, 1) := by decide +kernel
theorem dX4_init_34 : decode cX4_init 34 = .ok (.new 18, 3) := by decide +kernel
theorem dX4_init_37 : decode cX4_init 37 = .ok (.dup, 1) := by decide +kernel
theorem dX4_init_38 : decode cX4_init 38 = .ok (.iload_n 3, 1) := by decide +kernel
theorem dX4_init_39 : decode cX4_init 39 = .ok (.invokespecial 24, 3) := by decide +kernel
theorem dX4_init_42 : decode cX4_init 42 = .ok (.aastore, 1) := by decide +kernel
theorem dX4_init_43 : decode cX4_init 43 = .ok (.iinc 3 1, 3) := by decide +kernel
theorem dX4_init_46 : decode cX4_init 46 = .ok (.goto (-22), 3) := by decide +kernel
theorem dX4_init_49 : decode cX4_init 49 = .ok (.aload_n 0, 1) := by decide +kernel
theorem dX4_init_50 : decode cX4_init 50 = .ok (.new 27, 3) := by decide +kernel
theorem dX4_init_53 : decode cX4_init 53 = .ok (.dup, 1) := by decide +kernel
theorem dX4_init_54 : decode cX4_init 54 = .ok (.invokespecial 29, 3) := by decide +kernel
theorem dX4_init_57 : decode cX4_init 57 = .ok (.putfield 30, 3) := by decide +kernel
theorem dX4_init_60 : decode cX4_init 60 = .ok (.return_, 1) := by decide +kernel
theorem dX4_settings_0 : decode cX4_settings 0 = .ok (.iload_n 1, 1) := by decide +kernel
theorem dX4_settings_1 : decode cX4_settings 1 = .ok (.aload_n 0, 1) := by decide +kernel
theorem dX4_settings_2 : decode cX4_settings 2 = .ok (.getfield 20, 3) := by decide +kernel
theorem dX4_settings_5 : decode cX4_settings 5 = .ok (.arraylength, 1) := by decide +kernel
theorem dX4_settings_6 : decode cX4_settings 6 = .ok (.invokestatic 34, 3) := by decide +kernel
theorem dX4_settings_9 : decode cX4_settings 9 = .ok (.iload_n 2, 1) := by decide +kernel
theorem dX4_settings_10 : decode cX4_settings 10 = .ok (.iconst 1, 1) := by decide +kernel
theorem dX4_settings_11 : decode cX4_settings 11 = .ok (.bipush 7, 2) := by decide +kernel
theorem dX4_settings_13 : decode cX4_settings 13 = .ok (.invokestatic 38, 3) := by decide +kernel
theorem dX4_settings_16 : decode cX4_settings 16 = .ok (.iload_n 3, 1) := by decide +kernel
theorem dX4_settings_17 : decode cX4_settings 17 = .ok (.iconst 1, 1) := by decide +kernel
theorem dX4_settings_18 : decode cX4_settings 18 = .ok (.sipush 200, 3) := by decide +kernel
theorem dX4_settings_21 : decode cX4_settings 21 = .ok (.invokestatic 38, 3) := by decide +kernel
theorem dX4_settings_24 : decode cX4_settings 24 = .ok (.iload 4, 2) := by decide +kernel
theorem dX4_settings_26 : decode cX4_settings 26 = .ok (.iconst 1, 1) := by decide +kernel
theorem dX4_settings_27 : decode cX4_settings 27 = .ok (.iload_n 3, 1) := by decide +kernel
theorem dX4_settings_28 : decode cX4_settings 28 = .ok (.invokestatic 38, 3) := by decide +kernel
theorem dX4_settings_31 : decode cX4_settings 31 = .ok (.aload_n 0, 1) := by decide +kernel
theorem dX4_settings_32 : decode cX4_settings 32 = .ok (.getfield 20, 3) := by decide +kernel
theorem dX4_settings_35 : decode cX4_settings 35 = .ok (.iload_n 1, 1) := by decide +kernel
theorem dX4_settings_36 : decode cX4_settings 36 = .ok (.aaload, 1) := by decide +kernel
theorem dX4_settings_37 : decode cX4_settings 37 = .ok (.iload_n 2, 1) := by decide +kernel
theorem dX4_settings_38 : decode cX4_settings 38 = .ok (.iload_n 3, 1) := by decide +kernel
theorem dX4_settings_39 : decode cX4_settings 39 = .ok (.iload 4, 2) := by decide +kernel
theorem dX4_settings_41 : decode cX4_settings 41 = .ok (.invokevirtual 42, 3) := by decide +kernel
theorem dX4_settings_44 : decode cX4_settings 44 = .ok (.aload_n 0, 1) := by decide +kernel
theorem dX4_settings_45 : decode cX4_settings 45 = .ok (.getfield 20, 3) := by decide +kernel
theorem dX4_settings_48 : decode cX4_settings 48 = .ok (.iload_n 1, 1) := by decide +kernel
theorem dX4_settings_49 : decode cX4_settings 49 = .ok (.aaload, 1) := by decide +kernel
theorem dX4_settings_50 : decode cX4_settings 50 = .ok (.invokevirtual 45, 3) := by decide +kernel
theorem dX4_settings_53 : decode cX4_settings 53 = .ok (.ireturn, 1) := by decide +kernel
theorem dX4_report_0 : decode cX4_report 0 = .ok (.iload_n 1, 1) := by decide +kernel
theorem dX4_report_1 : decode cX4_report 1 = .ok (.aload_n 0, 1) := by decide +kernel
theorem dX4_report_2 : decode cX4_report 2 = .ok (.getfield 20, 3) := by decide +kernel
theorem dX4_report_5 : decode cX4_report 5 = .ok (.arraylength, 1) := by decide +kernel
theorem dX4_report_6 : decode cX4_report 6 = .ok (.invokestatic 34, 3) := by decide +kernel
theorem dX4_report_9 : decode cX4_report 9 = .ok (.iload_n 2, 1) := by decide +kernel
theorem dX4_report_10 : decode cX4_report 10 = .ok (.bipush 8, 2) := by decide +kernel
theorem dX4_report_12 : decode cX4_report 12 = .ok (.invokestatic 34, 3) := by decide +kernel
theorem dX4_report_15 : decode cX4_report 15 = .ok (.iload_n 3, 1) := by decide +kernel
theorem dX4_report_16 : decode cX4_report 16 = .ok (.iconst 0, 1) := by decide +kernel
theorem dX4_report_17 : decode cX4_report 17 = .ok (.iconst 5, 1) := by decide +kernel
theorem dX4_report_18 : decode cX4_report 18 = .ok (.invokestatic 38, 3) := by decide +kernel
theorem dX4_report_21 : decode cX4_report 21 = .ok (.iload 4, 2) := by decide +kernel
theorem dX4_report_23 : decode cX4_report 23 = .ok (.iconst 0, 1) := by decide +kernel
theorem dX4_report_24 : decode cX4_report 24 = .ok (.ldc 49, 2) := by decide +kernel
theorem dX4_report_26 : decode cX4_report 26 = .ok (.invokestatic 38, 3) := by decide +kernel
theorem dX4_report_29 : decode cX4_report 29 = .ok (.aload_n 0, 1) := by decide +kernel
theorem dX4_report_30 : decode cX4_report 30 = .ok (.getfield 30, 3) := by decide +kernel
theorem dX4_report_33 : decode cX4_report 33 = .ok (.getfield 50, 3) := by decide +kernel
theorem dX4_report_36 : decode cX4_report 36 = .ok (.istore 5, 2) := by decide +kernel
theorem dX4_report_38 : decode cX4_report 38 = .ok (.aload_n 0, 1) := by decide +kernel
theorem dX4_report_39 : decode cX4_report 39 = .ok (.getfield 20, 3) := by decide +kernel
theorem dX4_report_42 : decode cX4_report 42 = .ok (.iload_n 1, 1) := by decide +kernel
theorem dX4_report_43 : decode cX4_report 43 = .ok (.aaload, 1) := by decide +kernel
theorem dX4_report_44 : decode cX4_report 44 = .ok (.aload_n 0, 1) := by decide +kernel
theorem dX4_report_45 : decode cX4_report 45 = .ok (.getfield 30, 3) := by decide +kernel
theorem dX4_report_48 : decode cX4_report 48 = .ok (.iload_n 2, 1) := by decide +kernel
theorem dX4_report_49 : decode cX4_report 49 = .ok (.iload_n 3, 1) := by decide +kernel
theorem dX4_report_50 : decode cX4_report 50 = .ok (.iload 4, 2) := by decide +kernel
theorem dX4_report_52 : decode cX4_report 52 = .ok (.invokevirtual 54, 3) := by decide +kernel
theorem dX4_report_55 : decode cX4_report 55 = .ok (.aload_n 0, 1) := by decide +kernel
theorem dX4_report_56 : decode cX4_report 56 = .ok (.getfield 30, 3) := by decide +kernel
theorem dX4_report_59 : decode cX4_report 59 = .ok (.getfield 50, 3) := by decide +kernel
theorem dX4_report_62 : decode cX4_report 62 = .ok (.iload 5, 2) := by decide +kernel
theorem dX4_report_64 : decode cX4_report 64 = .ok (.isub, 1) := by decide +kernel
theorem dX4_report_65 : decode cX4_report 65 = .ok (.ireturn, 1) := by decide +kernel
theorem dX4_query_0 : decode cX4_query 0 = .ok (.iload_n 1, 1) := by decide +kernel
theorem dX4_query_1 : decode cX4_query 1 = .ok (.aload_n 0, 1) := by decide +kernel
theorem dX4_query_2 : decode cX4_query 2 = .ok (.getfield 20, 3) := by decide +kernel
theorem dX4_query_5 : decode cX4_query 5 = .ok (.arraylength, 1) := by decide +kernel
theorem dX4_query_6 : decode cX4_query 6 = .ok (.invokestatic 34, 3) := by decide +kernel
theorem dX4_query_9 : decode cX4_query 9 = .ok (.iload_n 2, 1) := by decide +kernel
theorem dX4_query_10 : decode cX4_query 10 = .ok (.iconst 0, 1) := by decide +kernel
theorem dX4_query_11 : decode cX4_query 11 = .ok (.sipush 999, 3) := by decide +kernel
theorem dX4_query_14 : decode cX4_query 14 = .ok (.invokestatic 38, 3) := by decide +kernel
theorem dX4_query_17 : decode cX4_query 17 = .ok (.iload_n 3, 1) := by decide +kernel
theorem dX4_query_18 : decode cX4_query 18 = .ok (.iconst (-1), 1) := by decide +kernel
theorem dX4_query_19 : decode cX4_query 19 = .ok (.if_icmp .eq 9, 3) := by decide +kernel
theorem dX4_query_22 : decode cX4_query 22 = .ok (.iload_n 3, 1) := by decide +kernel
theorem dX4_query_23 : decode cX4_query 23 = .ok (.bipush 8, 2) := by decide +kernel
theorem dX4_query_25 : decode cX4_query 25 = .ok (.invokestatic 34, 3) := by decide +kernel
theorem dX4_query_28 : decode cX4_query 28 = .ok (.iload 4, 2) := by decide +kernel
theorem dX4_query_30 : decode cX4_query 30 = .ok (.iconst 0, 1) := by decide +kernel
theorem dX4_query_31 : decode cX4_query 31 = .ok (.ldc 49, 2) := by decide +kernel
theorem dX4_query_33 : decode cX4_query 33 = .ok (.invokestatic 38, 3) := by decide +kernel
theorem dX4_query_36 : decode cX4_query 36 = .ok (.iload_n 2, 1) := by decide +kernel
theorem dX4_query_37 : decode cX4_query 37 = .ok (.sipush 500, 3) := by decide +kernel
theorem dX4_query_40 : decode cX4_query 40 = .ok (.if_icmp .ge 35, 3) := by decide +kernel
theorem dX4_query_43 : decode cX4_query 43 = .ok (.aload_n 0, 1) := by decide +kernel
theorem dX4_query_44 : decode cX4_query 44 = .ok (.getfield 20, 3) := by decide +kernel
theorem dX4_query_47 : decode cX4_query 47 = .ok (.iload_n 1, 1) := by decide +kernel
theorem dX4_query_48 : decode cX4_query 48 = .ok (.aaload, 1) := by decide +kernel
theorem dX4_query_49 : decode cX4_query 49 = .ok (.iload_n 2, 1) := by decide +kernel
theorem dX4_query_50 : decode cX4_query 50 = .ok (.invokevirtual 58, 3) := by decide +kernel
theorem dX4_query_53 : decode cX4_query 53 = .ok (.iload_n 3, 1) := by decide +kernel
theorem dX4_query_54 : decode cX4_query 54 = .ok (.iconst (-1), 1) := by decide +kernel
theorem dX4_query_55 : decode cX4_query 55 = .ok (.if_icmp .eq 20, 3) := by decide +kernel
theorem dX4_query_58 : decode cX4_query 58 = .ok (.iload 5, 2) := by decide +kernel
theorem dX4_query_60 : decode cX4_query 60 = .ok (.ifCond .ne 15, 3) := by decide +kernel
theorem dX4_query_63 : decode cX4_query 63 = .ok (.aload_n 0, 1) := by decide +kernel
theorem dX4_query_64 : decode cX4_query 64 = .ok (.getfield 20, 3) := by decide +kernel
theorem dX4_query_67 : decode cX4_query 67 = .ok (.iload_n 1, 1) := by decide +kernel
theorem dX4_query_68 : decode cX4_query 68 = .ok (.aaload, 1) := by decide +kernel
theorem dX4_query_69 : decode cX4_query 69 = .ok (.iload_n 3, 1) := by decide +kernel
theorem dX4_query_70 : decode cX4_query 70 = .ok (.iload 4, 2) := by decide +kernel
theorem dX4_query_72 : decode cX4_query 72 = .ok (.invokevirtual 61, 3) := by decide +kernel
theorem dX4_query_75 : decode cX4_query 75 = .ok (.aload_n 0, 1) := by decide +kernel
theorem dX4_query_76 : decode cX4_query 76 = .ok (.getfield 20, 3) := by decide +kernel
theorem dX4_query_79 : decode cX4_query 79 = .ok (.iload_n 1, 1) := by decide +kernel
theorem dX4_query_80 : decode cX4_query 80 = .ok (.aaload, 1) := by decide +kernel
theorem dX4_query_81 : decode cX4_query 81 = .ok (.invokevirtual 64, 3) := by decide +kernel
theorem dX4_query_84 : decode cX4_query 84 = .ok (.ireturn, 1) := by decide +kernel
theorem dX4_tick_0 : decode cX4_tick 0 = .ok (.iload_n 1, 1) := by decide +kernel
theorem dX4_tick_1 : decode cX4_tick 1 = .ok (.iconst 0, 1) := by decide +kernel
theorem dX4_tick_2 : decode cX4_tick 2 = .ok (.sipush 2000, 3) := by decide +kernel
theorem dX4_tick_5 : decode cX4_tick 5 = .ok (.invokestatic 38, 3) := by decide +kernel
theorem dX4_tick_8 : decode cX4_tick 8 = .ok (.aload_n 0, 1) := by decide +kernel
theorem dX4_tick_9 : decode cX4_tick 9 = .ok (.getfield 30, 3) := by decide +kernel
theorem dX4_tick_12 : decode cX4_tick 12 = .ok (.getfield 50, 3) := by decide +kernel
theorem dX4_tick_15 : decode cX4_tick 15 = .ok (.istore_n 2, 1) := by decide +kernel
theorem dX4_tick_16 : decode cX4_tick 16 = .ok (.iconst 0, 1) := by decide +kernel
theorem dX4_tick_17 : decode cX4_tick 17 = .ok (.istore_n 3, 1) := by decide +kernel
theorem dX4_tick_18 : decode cX4_tick 18 = .ok (.iload_n 3, 1) := by decide +kernel
theorem dX4_tick_19 : decode cX4_tick 19 = .ok (.aload_n 0, 1) := by decide +kernel
theorem dX4_tick_20 : decode cX4_tick 20 = .ok (.getfield 20, 3) := by decide +kernel
theorem dX4_tick_23 : decode cX4_tick 23 = .ok (.arraylength, 1) := by decide +kernel
theorem dX4_tick_24 : decode cX4_tick 24 = .ok (.if_icmp .ge 19, 3) := by decide +kernel
theorem dX4_tick_27 : decode cX4_tick 27 = .ok (.aload_n 0, 1) := by decide +kernel
theorem dX4_tick_28 : decode cX4_tick 28 = .ok (.getfield 20, 3) := by decide +kernel
theorem dX4_tick_31 : decode cX4_tick 31 = .ok (.iload_n 3, 1) := by decide +kernel
theorem dX4_tick_32 : decode cX4_tick 32 = .ok (.aaload, 1) := by decide +kernel
theorem dX4_tick_33 : decode cX4_tick 33 = .ok (.iload_n 1, 1) := by decide +kernel
theorem dX4_tick_34 : decode cX4_tick 34 = .ok (.invokevirtual 68, 3) := by decide +kernel
theorem dX4_tick_37 : decode cX4_tick 37 = .ok (.iinc 3 1, 3) := by decide +kernel
theorem dX4_tick_40 : decode cX4_tick 40 = .ok (.goto (-22), 3) := by decide +kernel
theorem dX4_tick_43 : decode cX4_tick 43 = .ok (.aload_n 0, 1) := by decide +kernel
theorem dX4_tick_44 : decode cX4_tick 44 = .ok (.iload_n 1, 1) := by decide +kernel
theorem dX4_tick_45 : decode cX4_tick 45 = .ok (.invokevirtual 71, 3) := by decide +kernel
theorem dX4_tick_48 : decode cX4_tick 48 = .ok (.aload_n 0, 1) := by decide +kernel
theorem dX4_tick_49 : decode cX4_tick 49 = .ok (.getfield 30, 3) := by decide +kernel
theorem dX4_tick_52 : decode cX4_tick 52 = .ok (.getfield 50, 3) := by decide +kernel
theorem dX4_tick_55 : decode cX4_tick 55 = .ok (.iload_n 2, 1) := by decide +kernel
theorem dX4_tick_56 : decode cX4_tick 56 = .ok (.isub, 1) := by decide +kernel
theorem dX4_tick_57 : decode cX4_tick 57 = .ok (.ireturn, 1) := by decide +kernel
theorem dX4_member_0 : decode cX4_member 0 = .ok (.iload_n 1, 1) := by decide +kernel
theorem dX4_member_1 : decode cX4_member 1 = .ok (.aload_n 0, 1) := by decide +kernel
theorem dX4_member_2 : decode cX4_member 2 = .ok (.getfield 20, 3) := by decide +kernel
theorem dX4_member_5 : decode cX4_member 5 = .ok (.arraylength, 1) := by decide +kernel
theorem dX4_member_6 : decode cX4_member 6 = .ok (.invokestatic 34, 3) := by decide +kernel
theorem dX4_member_9 : decode cX4_member 9 = .ok (.iload_n 2, 1) := by decide +kernel
theorem dX4_member_10 : decode cX4_member 10 = .ok (.bipush 6, 2) := by decide +kernel
theorem dX4_member_12 : decode cX4_member 12 = .ok (.invokestatic 34, 3) := by decide +kernel
theorem dX4_member_15 : decode cX4_member 15 = .ok (.iload_n 3, 1) := by decide +kernel
theorem dX4_member_16 : decode cX4_member 16 = .ok (.bipush 8, 2) := by decide +kernel
theorem dX4_member_18 : decode cX4_member 18 = .ok (.invokestatic 34, 3) := by decide +kernel
theorem dX4_member_21 : decode cX4_member 21 = .ok (.iload 5, 2) := by decide +kernel
theorem dX4_member_23 : decode cX4_member 23 = .ok (.iconst 0, 1) := by decide +kernel
theorem dX4_member_24 : decode cX4_member 24 = .ok (.ldc 49, 2) := by decide +kernel
theorem dX4_member_26 : decode cX4_member 26 = .ok (.invokestatic 38, 3) := by decide +kernel
theorem dX4_member_29 : decode cX4_member 29 = .ok (.aload_n 0, 1) := by decide +kernel
theorem dX4_member_30 : decode cX4_member 30 = .ok (.getfield 30, 3) := by decide +kernel
theorem dX4_member_33 : decode cX4_member 33 = .ok (.getfield 50, 3) := by decide +kernel
theorem dX4_member_36 : decode cX4_member 36 = .ok (.istore 6, 2) := by decide +kernel
theorem dX4_member_38 : decode cX4_member 38 = .ok (.aload_n 0, 1) := by decide +kernel
theorem dX4_member_39 : decode cX4_member 39 = .ok (.getfield 20, 3) := by decide +kernel
theorem dX4_member_42 : decode cX4_member 42 = .ok (.iload_n 1, 1) := by decide +kernel
theorem dX4_member_43 : decode cX4_member 43 = .ok (.aaload, 1) := by decide +kernel
theorem dX4_member_44 : decode cX4_member 44 = .ok (.aload_n 0, 1) := by decide +kernel
theorem dX4_member_45 : decode cX4_member 45 = .ok (.getfield 30, 3) := by decide +kernel
theorem dX4_member_48 : decode cX4_member 48 = .ok (.iload_n 2, 1) := by decide +kernel
theorem dX4_member_49 : decode cX4_member 49 = .ok (.iload_n 3, 1) := by decide +kernel
theorem dX4_member_50 : decode cX4_member 50 = .ok (.iload 4, 2) := by decide +kernel
theorem dX4_member_52 : decode cX4_member 52 = .ok (.iload 5, 2) := by decide +kernel
theorem dX4_member_54 : decode cX4_member 54 = .ok (.invokevirtual 74, 3) := by decide +kernel
theorem dX4_member_57 : decode cX4_member 57 = .ok (.aload_n 0, 1) := by decide +kernel
theorem dX4_member_58 : decode cX4_member 58 = .ok (.getfield 30, 3) := by decide +kernel
theorem dX4_member_61 : decode cX4_member 61 = .ok (.getfield 50, 3) := by decide +kernel
theorem dX4_member_64 : decode cX4_member 64 = .ok (.iload 6, 2) := by decide +kernel
theorem dX4_member_66 : decode cX4_member 66 = .ok (.isub, 1) := by decide +kernel
theorem dX4_member_67 : decode cX4_member 67 = .ok (.ireturn, 1) := by decide +kernel
theorem dX4_answer_0 : decode cX4_answer 0 = .ok (.iload_n 1, 1) := by decide +kernel
theorem dX4_answer_1 : decode cX4_answer 1 = .ok (.aload_n 0, 1) := by decide +kernel
theorem dX4_answer_2 : decode cX4_answer 2 = .ok (.getfield 20, 3) := by decide +kernel
theorem dX4_answer_5 : decode cX4_answer 5 = .ok (.arraylength, 1) := by decide +kernel
theorem dX4_answer_6 : decode cX4_answer 6 = .ok (.invokestatic 34, 3) := by decide +kernel
theorem dX4_answer_9 : decode cX4_answer 9 = .ok (.iload_n 2, 1) := by decide +kernel
theorem dX4_answer_10 : decode cX4_answer 10 = .ok (.bipush 6, 2) := by decide +kernel
theorem dX4_answer_12 : decode cX4_answer 12 = .ok (.invokestatic 34, 3) := by decide +kernel
theorem dX4_answer_15 : decode cX4_answer 15 = .ok (.aload_n 0, 1) := by decide +kernel
theorem dX4_answer_16 : decode cX4_answer 16 = .ok (.getfield 20, 3) := by decide +kernel
theorem dX4_answer_19 : decode cX4_answer 19 = .ok (.iload_n 1, 1) := by decide +kernel
theorem dX4_answer_20 : decode cX4_answer 20 = .ok (.aaload, 1) := by decide +kernel
theorem dX4_answer_21 : decode cX4_answer 21 = .ok (.aload_n 0, 1) := by decide +kernel
theorem dX4_answer_22 : decode cX4_answer 22 = .ok (.getfield 30, 3) := by decide +kernel
theorem dX4_answer_25 : decode cX4_answer 25 = .ok (.iload_n 2, 1) := by decide +kernel
theorem dX4_answer_26 : decode cX4_answer 26 = .ok (.invokevirtual 78, 3) := by decide +kernel
theorem dX4_answer_29 : decode cX4_answer 29 = .ok (.ireturn, 1) := by decide +kernel
theorem dX4_wanted_0 : decode cX4_wanted 0 = .ok (.aload_n 0, 1) := by decide +kernel
theorem dX4_wanted_1 : decode cX4_wanted 1 = .ok (.iload_n 1, 1) := by decide +kernel
theorem dX4_wanted_2 : decode cX4_wanted 2 = .ok (.iload_n 2, 1) := by decide +kernel
theorem dX4_wanted_3 : decode cX4_wanted 3 = .ok (.iload_n 3, 1) := by decide +kernel
theorem dX4_wanted_4 : decode cX4_wanted 4 = .ok (.invokevirtual 82, 3) := by decide +kernel
theorem dX4_wanted_7 : decode cX4_wanted 7 = .ok (.aload_n 0, 1) := by decide +kernel
theorem dX4_wanted_8 : decode cX4_wanted 8 = .ok (.getfield 20, 3) := by decide +kernel
theorem dX4_wanted_11 : decode cX4_wanted 11 = .ok (.iload_n 1, 1) := by decide +kernel
theorem dX4_wanted_12 : decode cX4_wanted 12 = .ok (.aaload, 1) := by decide +kernel
theorem dX4_wanted_13 : decode cX4_wanted 13 = .ok (.iload_n 2, 1) := by decide +kernel
theorem dX4_wanted_14 : decode cX4_wanted 14 = .ok (.iload_n 3, 1) := by decide +kernel
theorem dX4_wanted_15 : decode cX4_wanted 15 = .ok (.invokevirtual 85, 3) := by decide +kernel
theorem dX4_wanted_18 : decode cX4_wanted 18 = .ok (.ireturn, 1) := by decide +kernel
theorem dX4_passed_0 : decode cX4_passed 0 = .ok (.aload_n 0, 1) := by decide +kernel
theorem dX4_passed_1 : decode cX4_passed 1 = .ok (.iload_n 1, 1) := by decide +kernel
theorem dX4_passed_2 : decode cX4_passed 2 = .ok (.iload_n 2, 1) := by decide +kernel
theorem dX4_passed_3 : decode cX4_passed 3 = .ok (.iload_n 3, 1) := by decide +kernel
theorem dX4_passed_4 : decode cX4_passed 4 = .ok (.invokevirtual 82, 3) := by decide +kernel
theorem dX4_passed_7 : decode cX4_passed 7 = .ok (.iconst 0, 1) := by decide +kernel
theorem dX4_passed_8 : decode cX4_passed 8 = .ok (.istore 4, 2) := by decide +kernel
theorem dX4_passed_10 : decode cX4_passed 10 = .ok (.iconst 0, 1) := by decide +kernel
theorem dX4_passed_11 : decode cX4_passed 11 = .ok (.istore 5, 2) := by decide +kernel
theorem dX4_passed_13 : decode cX4_passed 13 = .ok (.iload 5, 2) := by decide +kernel
theorem dX4_passed_15 : decode cX4_passed 15 = .ok (.aload_n 0, 1) := by decide +kernel
theorem dX4_passed_16 : decode cX4_passed 16 = .ok (.getfield 20, 3) := by decide +kernel
theorem dX4_passed_19 : decode cX4_passed 19 = .ok (.arraylength, 1) := by decide +kernel
theorem dX4_passed_20 : decode cX4_passed 20 = .ok (.if_icmp .ge 43, 3) := by decide +kernel
theorem dX4_passed_23 : decode cX4_passed 23 = .ok (.iload 5, 2) := by decide +kernel
theorem dX4_passed_25 : decode cX4_passed 25 = .ok (.iload_n 1, 1) := by decide +kernel
theorem dX4_passed_26 : decode cX4_passed 26 = .ok (.if_icmp .eq 31, 3) := by decide +kernel
theorem dX4_passed_29 : decode cX4_passed 29 = .ok (.aload_n 0, 1) := by decide +kernel
theorem dX4_passed_30 : decode cX4_passed 30 = .ok (.getfield 20, 3) := by decide +kernel
theorem dX4_passed_33 : decode cX4_passed 33 = .ok (.iload 5, 2) := by decide +kernel
theorem dX4_passed_35 : decode cX4_passed 35 = .ok (.aaload, 1) := by decide +kernel
theorem dX4_passed_36 : decode cX4_passed 36 = .ok (.getfield 89, 3) := by decide +kernel
theorem dX4_passed_39 : decode cX4_passed 39 = .ok (.iload_n 2, 1) := by decide +kernel
theorem dX4_passed_40 : decode cX4_passed 40 = .ok (.aaload, 1) := by decide +kernel
theorem dX4_passed_41 : decode cX4_passed 41 = .ok (.iload_n 3, 1) := by decide +kernel
theorem dX4_passed_42 : decode cX4_passed 42 = .ok (.invokevirtual 93, 3) := by decide +kernel
theorem dX4_passed_45 : decode cX4_passed 45 = .ok (.ifCond .eq 12, 3) := by decide +kernel
theorem dX4_passed_48 : decode cX4_passed 48 = .ok (.iload 4, 2) := by decide +kernel
theorem dX4_passed_50 : decode cX4_passed 50 = .ok (.iconst 1, 1) := by decide +kernel
theorem dX4_passed_51 : decode cX4_passed 51 = .ok (.iload 5, 2) := by decide +kernel
theorem dX4_passed_53 : decode cX4_passed 53 = .ok (.ishl, 1) := by decide +kernel
theorem dX4_passed_54 : decode cX4_passed 54 = .ok (.ior, 1) := by decide +kernel
theorem dX4_passed_55 : decode cX4_passed 55 = .ok (.istore 4, 2) := by decide +kernel
theorem dX4_passed_57 : decode cX4_passed 57 = .ok (.iinc 5 1, 3) := by decide +kernel
theorem dX4_passed_60 : decode cX4_passed 60 = .ok (.goto (-47), 3) := by decide +kernel
theorem dX4_passed_63 : decode cX4_passed 63 = .ok (.iload 4, 2) := by decide +kernel
theorem dX4_passed_65 : decode cX4_passed 65 = .ok (.ireturn, 1) := by decide +kernel
theorem dX4_mode_0 : decode cX4_mode 0 = .ok (.aload_n 0, 1) := by decide +kernel
theorem dX4_mode_1 : decode cX4_mode 1 = .ok (.iload_n 1, 1) := by decide +kernel
theorem dX4_mode_2 : decode cX4_mode 2 = .ok (.iload_n 2, 1) := by decide +kernel
theorem dX4_mode_3 : decode cX4_mode 3 = .ok (.invokevirtual 99, 3) := by decide +kernel
theorem dX4_mode_6 : decode cX4_mode 6 = .ok (.invokevirtual 103, 3) := by decide +kernel
theorem dX4_mode_9 : decode cX4_mode 9 = .ok (.ireturn, 1) := by decide +kernel
theorem dX4_sources_0 : decode cX4_sources 0 = .ok (.aload_n 0, 1) := by decide +kernel
theorem dX4_sources_1 : decode cX4_sources 1 = .ok (.iload_n 1, 1) := by decide +kernel
theorem dX4_sources_2 : decode cX4_sources 2 = .ok (.iload_n 2, 1) := by decide +kernel
theorem dX4_sources_3 : decode cX4_sources 3 = .ok (.invokevirtual 99, 3) := by decide +kernel
theorem dX4_sources_6 : decode cX4_sources 6 = .ok (.astore 4, 2) := by decide +kernel
theorem dX4_sources_8 : decode cX4_sources 8 = .ok (.iload_n 3, 1) := by decide +kernel
theorem dX4_sources_9 : decode cX4_sources 9 = .ok (.ifCond .eq 11, 3) := by decide +kernel
theorem dX4_sources_12 : decode cX4_sources 12 = .ok (.aload 4, 2) := by decide +kernel
theorem dX4_sources_14 : decode cX4_sources 14 = .ok (.getfield 106, 3) := by decide +kernel
theorem dX4_sources_17 : decode cX4_sources 17 = .ok (.goto 8, 3) := by decide +kernel
theorem dX4_sources_20 : decode cX4_sources 20 = .ok (.aload 4, 2) := by decide +kernel
theorem dX4_sources_22 : decode cX4_sources 22 = .ok (.getfield 109, 3) := by decide +kernel
theorem dX4_sources_25 : decode cX4_sources 25 = .ok (.ireturn, 1) := by decide +kernel
theorem dX4_timer_0 : decode cX4_timer 0 = .ok (.aload_n 0, 1) := by decide +kernel
theorem dX4_timer_1 : decode cX4_timer 1 = .ok (.iload_n 1, 1) := by decide +kernel
theorem dX4_timer_2 : decode cX4_timer 2 = .ok (.iload_n 2, 1) := by decide +kernel
theorem dX4_timer_3 : decode cX4_timer 3 = .ok (.iload_n 3, 1) := by decide +kernel
theorem dX4_timer_4 : decode cX4_timer 4 = .ok (.invokevirtual 82, 3) := by decide +kernel
theorem dX4_timer_7 : decode cX4_timer 7 = .ok (.aload_n 0, 1) := by decide +kernel
theorem dX4_timer_8 : decode cX4_timer 8 = .ok (.getfield 20, 3) := by decide +kernel
theorem dX4_timer_11 : decode cX4_timer 11 = .ok (.iload_n 1, 1) := by decide +kernel
theorem dX4_timer_12 : decode cX4_timer 12 = .ok (.aaload, 1) := by decide +kernel
theorem dX4_timer_13 : decode cX4_timer 13 = .ok (.getfield 89, 3) := by decide +kernel
theorem dX4_timer_16 : decode cX4_timer 16 = .ok (.iload_n 2, 1) := by decide +kernel
theorem dX4_timer_17 : decode cX4_timer 17 = .ok (.aaload, 1) := by decide +kernel
theorem dX4_timer_18 : decode cX4_timer 18 = .ok (.getfield 112, 3) := by decide +kernel
theorem dX4_timer_21 : decode cX4_timer 21 = .ok (.iload_n 3, 1) := by decide +kernel
theorem dX4_timer_22 : decode cX4_timer 22 = .ok (.iaload, 1) := by decide +kernel
theorem dX4_timer_23 : decode cX4_timer 23 = .ok (.ireturn, 1) := by decide +kernel
theorem dX4_groupTimer_0 : decode cX4_groupTimer 0 = .ok (.aload_n 0, 1) := by decide +kernel
theorem dX4_groupTimer_1 : decode cX4_groupTimer 1 = .ok (.iload_n 1, 1) := by decide +kernel
theorem dX4_groupTimer_2 : decode cX4_groupTimer 2 = .ok (.iload_n 2, 1) := by decide +kernel
theorem dX4_groupTimer_3 : decode cX4_groupTimer 3 = .ok (.invokevirtual 99, 3) := by decide +kernel
theorem dX4_groupTimer_6 : decode cX4_groupTimer 6 = .ok (.getfield 116, 3) := by decide +kernel
theorem dX4_groupTimer_9 : decode cX4_groupTimer 9 = .ok (.ireturn, 1) := by decide +kernel
theorem dX4_sent_0 : decode cX4_sent 0 = .ok (.aload_n 0, 1) := by decide +kernel
theorem dX4_sent_1 : decode cX4_sent 1 = .ok (.getfield 30, 3) := by decide +kernel
theorem dX4_sent_4 : decode cX4_sent 4 = .ok (.getfield 50, 3) := by decide +kernel
theorem dX4_sent_7 : decode cX4_sent 7 = .ok (.ireturn, 1) := by decide +kernel
theorem dX4_asked_0 : decode cX4_asked 0 = .ok (.iload_n 1, 1) := by decide +kernel
theorem dX4_asked_1 : decode cX4_asked 1 = .ok (.aload_n 0, 1) := by decide +kernel
theorem dX4_asked_2 : decode cX4_asked 2 = .ok (.getfield 30, 3) := by decide +kernel
theorem dX4_asked_5 : decode cX4_asked 5 = .ok (.getfield 50, 3) := by decide +kernel
theorem dX4_asked_8 : decode cX4_asked 8 = .ok (.bipush 40, 2) := by decide +kernel
theorem dX4_asked_10 : decode cX4_asked 10 = .ok (.invokestatic 9, 3) := by decide +kernel
theorem dX4_asked_13 : decode cX4_asked 13 = .ok (.invokestatic 34, 3) := by decide +kernel
theorem dX4_asked_16 : decode cX4_asked 16 = .ok (.iload_n 2, 1) := by decide +kernel
theorem dX4_asked_17 : decode cX4_asked 17 = .ok (.iconst 0, 1) := by decide +kernel
theorem dX4_asked_18 : decode cX4_asked 18 = .ok (.iconst 3, 1) := by decide +kernel
theorem dX4_asked_19 : decode cX4_asked 19 = .ok (.invokestatic 38, 3) := by decide +kernel
theorem dX4_asked_22 : decode cX4_asked 22 = .ok (.aload_n 0, 1) := by decide +kernel
theorem dX4_asked_23 : decode cX4_asked 23 = .ok (.getfield 30, 3) := by decide +kernel
theorem dX4_asked_26 : decode cX4_asked 26 = .ok (.iload_n 1, 1) := by decide +kernel
theorem dX4_asked_27 : decode cX4_asked 27 = .ok (.iload_n 2, 1) := by decide +kernel
theorem dX4_asked_28 : decode cX4_asked 28 = .ok (.invokevirtual 119, 3) := by decide +kernel
theorem dX4_asked_31 : decode cX4_asked 31 = .ok (.ireturn, 1) := by decide +kernel
theorem dX4_told_0 : decode cX4_told 0 = .ok (.iload_n 1, 1) := by decide +kernel
theorem dX4_told_1 : decode cX4_told 1 = .ok (.aload_n 0, 1) := by decide +kernel
theorem dX4_told_2 : decode cX4_told 2 = .ok (.getfield 20, 3) := by decide +kernel
theorem dX4_told_5 : decode cX4_told 5 = .ok (.arraylength, 1) := by decide +kernel
theorem dX4_told_6 : decode cX4_told 6 = .ok (.invokestatic 34, 3) := by decide +kernel
theorem dX4_told_9 : decode cX4_told 9 = .ok (.iload_n 2, 1) := by decide +kernel
theorem dX4_told_10 : decode cX4_told 10 = .ok (.iconst 0, 1) := by decide +kernel
theorem dX4_told_11 : decode cX4_told 11 = .ok (.iconst 5, 1) := by decide +kernel
theorem dX4_told_12 : decode cX4_told 12 = .ok (.invokestatic 38, 3) := by decide +kernel
theorem dX4_told_15 : decode cX4_told 15 = .ok (.aload_n 0, 1) := by decide +kernel
theorem dX4_told_16 : decode cX4_told 16 = .ok (.getfield 20, 3) := by decide +kernel
theorem dX4_told_19 : decode cX4_told 19 = .ok (.iload_n 1, 1) := by decide +kernel
theorem dX4_told_20 : decode cX4_told 20 = .ok (.aaload, 1) := by decide +kernel
theorem dX4_told_21 : decode cX4_told 21 = .ok (.astore_n 3, 1) := by decide +kernel
theorem dX4_told_22 : decode cX4_told 22 = .ok (.iload_n 2, 1) := by decide +kernel
theorem dX4_told_23 : decode cX4_told 23 = .ok (.tableswitch 69 0 4 #[33, 38, 43, 48, 64], 33) := by decide +kernel
theorem dX4_told_56 : decode cX4_told 56 = .ok (.aload_n 3, 1) := by decide +kernel
theorem dX4_told_57 : decode cX4_told 57 = .ok (.invokevirtual 45, 3) := by decide +kernel
theorem dX4_told_60 : decode cX4_told 60 = .ok (.ireturn, 1) := by decide +kernel
theorem dX4_told_61 : decode cX4_told 61 = .ok (.aload_n 3, 1) := by decide +kernel
theorem dX4_told_62 : decode cX4_told 62 = .ok (.invokevirtual 122, 3) := by decide +kernel
theorem dX4_told_65 : decode cX4_told 65 = .ok (.ireturn, 1) := by decide +kernel
theorem dX4_told_66 : decode cX4_told 66 = .ok (.aload_n 3, 1) := by decide +kernel
theorem dX4_told_67 : decode cX4_told 67 = .ok (.getfield 125, 3) := by decide +kernel
theorem dX4_told_70 : decode cX4_told 70 = .ok (.ireturn, 1) := by decide +kernel
theorem dX4_told_71 : decode cX4_told 71 = .ok (.aload_n 3, 1) := by decide +kernel
theorem dX4_told_72 : decode cX4_told 72 = .ok (.invokevirtual 64, 3) := by decide +kernel
theorem dX4_told_75 : decode cX4_told 75 = .ok (.ifCond .eq 7, 3) := by decide +kernel
theorem dX4_told_78 : decode cX4_told 78 = .ok (.iconst 0, 1) := by decide +kernel
theorem dX4_told_79 : decode cX4_told 79 = .ok (.goto 7, 3) := by decide +kernel
theorem dX4_told_82 : decode cX4_told 82 = .ok (.aload_n 3, 1) := by decide +kernel
theorem dX4_told_83 : decode cX4_told 83 = .ok (.getfield 128, 3) := by decide +kernel
theorem dX4_told_86 : decode cX4_told 86 = .ok (.ireturn, 1) := by decide +kernel
theorem dX4_told_87 : decode cX4_told 87 = .ok (.aload_n 3, 1) := by decide +kernel
theorem dX4_told_88 : decode cX4_told 88 = .ok (.invokevirtual 131, 3) := by decide +kernel
theorem dX4_told_91 : decode cX4_told 91 = .ok (.ireturn, 1) := by decide +kernel
theorem dX4_told_92 : decode cX4_told 92 = .ok (.aload_n 3, 1) := by decide +kernel
theorem dX4_told_93 : decode cX4_told 93 = .ok (.invokevirtual 64, 3) := by decide +kernel
theorem dX4_told_96 : decode cX4_told 96 = .ok (.ifCond .eq 10, 3) := by decide +kernel
theorem dX4_told_99 : decode cX4_told 99 = .ok (.aload_n 3, 1) := by decide +kernel
theorem dX4_told_100 : decode cX4_told 100 = .ok (.getfield 128, 3) := by decide +kernel
theorem dX4_told_103 : decode cX4_told 103 = .ok (.goto 4, 3) := by decide +kernel
theorem dX4_told_106 : decode cX4_told 106 = .ok (.iconst 0, 1) := by decide +kernel
theorem dX4_told_107 : decode cX4_told 107 = .ok (.ireturn, 1) := by decide +kernel
theorem dX4_clear_0 : decode cX4_clear 0 = .ok (.iconst 0, 1) := by decide +kernel
theorem dX4_clear_1 : decode cX4_clear 1 = .ok (.istore_n 1, 1) := by decide +kernel
theorem dX4_clear_2 : decode cX4_clear 2 = .ok (.iload_n 1, 1) := by decide +kernel
theorem dX4_clear_3 : decode cX4_clear 3 = .ok (.aload_n 0, 1) := by decide +kernel
theorem dX4_clear_4 : decode cX4_clear 4 = .ok (.getfield 20, 3) := by decide +kernel
theorem dX4_clear_7 : decode cX4_clear 7 = .ok (.arraylength, 1) := by decide +kernel
theorem dX4_clear_8 : decode cX4_clear 8 = .ok (.if_icmp .ge 18, 3) := by decide +kernel
theorem dX4_clear_11 : decode cX4_clear 11 = .ok (.aload_n 0, 1) := by decide +kernel
theorem dX4_clear_12 : decode cX4_clear 12 = .ok (.getfield 20, 3) := by decide +kernel
theorem dX4_clear_15 : decode cX4_clear 15 = .ok (.iload_n 1, 1) := by decide +kernel
theorem dX4_clear_16 : decode cX4_clear 16 = .ok (.aaload, 1) := by decide +kernel
theorem dX4_clear_17 : decode cX4_clear 17 = .ok (.invokevirtual 134, 3) := by decide +kernel
theorem dX4_clear_20 : decode cX4_clear 20 = .ok (.iinc 1 1, 3) := by decide +kernel
theorem dX4_clear_23 : decode cX4_clear 23 = .ok (.goto (-21), 3) := by decide +kernel
theorem dX4_clear_26 : decode cX4_clear 26 = .ok (.aload_n 0, 1) := by decide +kernel
theorem dX4_clear_27 : decode cX4_clear 27 = .ok (.getfield 30, 3) := by decide +kernel
theorem dX4_clear_30 : decode cX4_clear 30 = .ok (.invokevirtual 137, 3) := by decide +kernel
theorem dX4_clear_33 : decode cX4_clear 33 = .ok (.return_, 1) := by decide +kernel
theorem dX4_runClocks_0 : decode cX4_runClocks 0 = .ok (.iload_n 1, 1) := by decide +kernel
theorem dX4_runClocks_1 : decode cX4_runClocks 1 = .ok (.istore_n 2, 1) := by decide +kernel
theorem dX4_runClocks_2 : decode cX4_runClocks 2 = .ok (.iconst 0, 1) := by decide +kernel
theorem dX4_runClocks_3 : decode cX4_runClocks 3 = .ok (.istore_n 3, 1) := by decide +kernel
theorem dX4_runClocks_4 : decode cX4_runClocks 4 = .ok (.iload_n 3, 1) := by decide +kernel
theorem dX4_runClocks_5 : decode cX4_runClocks 5 = .ok (.iload_n 1, 1) := by decide +kernel
theorem dX4_runClocks_6 : decode cX4_runClocks 6 = .ok (.if_icmp .ge 106, 3) := by decide +kernel
theorem dX4_runClocks_9 : decode cX4_runClocks 9 = .ok (.iload_n 2, 1) := by decide +kernel
theorem dX4_runClocks_10 : decode cX4_runClocks 10 = .ok (.ifCond .le 102, 3) := by decide +kernel
theorem dX4_runClocks_13 : decode cX4_runClocks 13 = .ok (.iload_n 2, 1) := by decide +kernel
theorem dX4_runClocks_14 : decode cX4_runClocks 14 = .ok (.istore 4, 2) := by decide +kernel
theorem dX4_runClocks_16 : decode cX4_runClocks 16 = .ok (.iconst 0, 1) := by decide +kernel
theorem dX4_runClocks_17 : decode cX4_runClocks 17 = .ok (.istore 5, 2) := by decide +kernel
theorem dX4_runClocks_19 : decode cX4_runClocks 19 = .ok (.iload 5, 2) := by decide +kernel
theorem dX4_runClocks_21 : decode cX4_runClocks 21 = .ok (.aload_n 0, 1) := by decide +kernel
theorem dX4_runClocks_22 : decode cX4_runClocks 22 = .ok (.getfield 20, 3) := by decide +kernel
theorem dX4_runClocks_25 : decode cX4_runClocks 25 = .ok (.arraylength, 1) := by decide +kernel
theorem dX4_runClocks_26 : decode cX4_runClocks 26 = .ok (.if_icmp .ge 26, 3) := by decide +kernel
theorem dX4_runClocks_29 : decode cX4_runClocks 29 = .ok (.iload 4, 2) := by decide +kernel
theorem dX4_runClocks_31 : decode cX4_runClocks 31 = .ok (.aload_n 0, 1) := by decide +kernel
theorem dX4_runClocks_32 : decode cX4_runClocks 32 = .ok (.getfield 20, 3) := by decide +kernel
theorem dX4_runClocks_35 : decode cX4_runClocks 35 = .ok (.iload 5, 2) := by decide +kernel
theorem dX4_runClocks_37 : decode cX4_runClocks 37 = .ok (.aaload, 1) := by decide +kernel
theorem dX4_runClocks_38 : decode cX4_runClocks 38 = .ok (.getfield 128, 3) := by decide +kernel
theorem dX4_runClocks_41 : decode cX4_runClocks 41 = .ok (.invokestatic 9, 3) := by decide +kernel
theorem dX4_runClocks_44 : decode cX4_runClocks 44 = .ok (.istore 4, 2) := by decide +kernel
theorem dX4_runClocks_46 : decode cX4_runClocks 46 = .ok (.iinc 5 1, 3) := by decide +kernel
theorem dX4_runClocks_49 : decode cX4_runClocks 49 = .ok (.goto (-30), 3) := by decide +kernel
theorem dX4_runClocks_52 : decode cX4_runClocks 52 = .ok (.aload_n 0, 1) := by decide +kernel
theorem dX4_runClocks_53 : decode cX4_runClocks 53 = .ok (.getfield 30, 3) := by decide +kernel
theorem dX4_runClocks_56 : decode cX4_runClocks 56 = .ok (.dup, 1) := by decide +kernel
theorem dX4_runClocks_57 : decode cX4_runClocks 57 = .ok (.getfield 138, 3) := by decide +kernel
theorem dX4_runClocks_60 : decode cX4_runClocks 60 = .ok (.iload 4, 2) := by decide +kernel
theorem dX4_runClocks_62 : decode cX4_runClocks 62 = .ok (.iadd, 1) := by decide +kernel
theorem dX4_runClocks_63 : decode cX4_runClocks 63 = .ok (.putfield 138, 3) := by decide +kernel
theorem dX4_runClocks_66 : decode cX4_runClocks 66 = .ok (.iconst 0, 1) := by decide +kernel
theorem dX4_runClocks_67 : decode cX4_runClocks 67 = .ok (.istore 5, 2) := by decide +kernel
theorem dX4_runClocks_69 : decode cX4_runClocks 69 = .ok (.iload 5, 2) := by decide +kernel
theorem dX4_runClocks_71 : decode cX4_runClocks 71 = .ok (.aload_n 0, 1) := by decide +kernel
theorem dX4_runClocks_72 : decode cX4_runClocks 72 = .ok (.getfield 20, 3) := by decide +kernel
theorem dX4_runClocks_75 : decode cX4_runClocks 75 = .ok (.arraylength, 1) := by decide +kernel
theorem dX4_runClocks_76 : decode cX4_runClocks 76 = .ok (.if_icmp .ge 25, 3) := by decide +kernel
theorem dX4_runClocks_79 : decode cX4_runClocks 79 = .ok (.aload_n 0, 1) := by decide +kernel
theorem dX4_runClocks_80 : decode cX4_runClocks 80 = .ok (.getfield 20, 3) := by decide +kernel
theorem dX4_runClocks_83 : decode cX4_runClocks 83 = .ok (.iload 5, 2) := by decide +kernel
theorem dX4_runClocks_85 : decode cX4_runClocks 85 = .ok (.aaload, 1) := by decide +kernel
theorem dX4_runClocks_86 : decode cX4_runClocks 86 = .ok (.aload_n 0, 1) := by decide +kernel
theorem dX4_runClocks_87 : decode cX4_runClocks 87 = .ok (.getfield 30, 3) := by decide +kernel
theorem dX4_runClocks_90 : decode cX4_runClocks 90 = .ok (.iload 4, 2) := by decide +kernel
theorem dX4_runClocks_92 : decode cX4_runClocks 92 = .ok (.invokevirtual 141, 3) := by decide +kernel
theorem dX4_runClocks_95 : decode cX4_runClocks 95 = .ok (.iinc 5 1, 3) := by decide +kernel
theorem dX4_runClocks_98 : decode cX4_runClocks 98 = .ok (.goto (-29), 3) := by decide +kernel
theorem dX4_runClocks_101 : decode cX4_runClocks 101 = .ok (.iload_n 2, 1) := by decide +kernel
theorem dX4_runClocks_102 : decode cX4_runClocks 102 = .ok (.iload 4, 2) := by decide +kernel
theorem dX4_runClocks_104 : decode cX4_runClocks 104 = .ok (.isub, 1) := by decide +kernel
theorem dX4_runClocks_105 : decode cX4_runClocks 105 = .ok (.istore_n 2, 1) := by decide +kernel
theorem dX4_runClocks_106 : decode cX4_runClocks 106 = .ok (.iinc 3 1, 3) := by decide +kernel
theorem dX4_runClocks_109 : decode cX4_runClocks 109 = .ok (.goto (-105), 3) := by decide +kernel
theorem dX4_runClocks_112 : decode cX4_runClocks 112 = .ok (.return_, 1) := by decide +kernel
theorem dX4_filterAt_0 : decode cX4_filterAt 0 = .ok (.iload_n 1, 1) := by decide +kernel
theorem dX4_filterAt_1 : decode cX4_filterAt 1 = .ok (.aload_n 0, 1) := by decide +kernel
theorem dX4_filterAt_2 : decode cX4_filterAt 2 = .ok (.getfield 20, 3) := by decide +kernel
theorem dX4_filterAt_5 : decode cX4_filterAt 5 = .ok (.arraylength, 1) := by decide +kernel
theorem dX4_filterAt_6 : decode cX4_filterAt 6 = .ok (.invokestatic 34, 3) := by decide +kernel
theorem dX4_filterAt_9 : decode cX4_filterAt 9 = .ok (.iload_n 2, 1) := by decide +kernel
theorem dX4_filterAt_10 : decode cX4_filterAt 10 = .ok (.bipush 8, 2) := by decide +kernel
theorem dX4_filterAt_12 : decode cX4_filterAt 12 = .ok (.invokestatic 34, 3) := by decide +kernel
theorem dX4_filterAt_15 : decode cX4_filterAt 15 = .ok (.aload_n 0, 1) := by decide +kernel
theorem dX4_filterAt_16 : decode cX4_filterAt 16 = .ok (.getfield 20, 3) := by decide +kernel
theorem dX4_filterAt_19 : decode cX4_filterAt 19 = .ok (.iload_n 1, 1) := by decide +kernel
theorem dX4_filterAt_20 : decode cX4_filterAt 20 = .ok (.aaload, 1) := by decide +kernel
theorem dX4_filterAt_21 : decode cX4_filterAt 21 = .ok (.getfield 89, 3) := by decide +kernel
theorem dX4_filterAt_24 : decode cX4_filterAt 24 = .ok (.iload_n 2, 1) := by decide +kernel
theorem dX4_filterAt_25 : decode cX4_filterAt 25 = .ok (.aaload, 1) := by decide +kernel
theorem dX4_filterAt_26 : decode cX4_filterAt 26 = .ok (.areturn, 1) := by decide +kernel
theorem dX4_checkPlace_0 : decode cX4_checkPlace 0 = .ok (.iload_n 1, 1) := by decide +kernel
theorem dX4_checkPlace_1 : decode cX4_checkPlace 1 = .ok (.aload_n 0, 1) := by decide +kernel
theorem dX4_checkPlace_2 : decode cX4_checkPlace 2 = .ok (.getfield 20, 3) := by decide +kernel
theorem dX4_checkPlace_5 : decode cX4_checkPlace 5 = .ok (.arraylength, 1) := by decide +kernel
theorem dX4_checkPlace_6 : decode cX4_checkPlace 6 = .ok (.invokestatic 34, 3) := by decide +kernel
theorem dX4_checkPlace_9 : decode cX4_checkPlace 9 = .ok (.iload_n 2, 1) := by decide +kernel
theorem dX4_checkPlace_10 : decode cX4_checkPlace 10 = .ok (.bipush 8, 2) := by decide +kernel
theorem dX4_checkPlace_12 : decode cX4_checkPlace 12 = .ok (.invokestatic 34, 3) := by decide +kernel
theorem dX4_checkPlace_15 : decode cX4_checkPlace 15 = .ok (.iload_n 3, 1) := by decide +kernel
theorem dX4_checkPlace_16 : decode cX4_checkPlace 16 = .ok (.bipush 16, 2) := by decide +kernel
theorem dX4_checkPlace_18 : decode cX4_checkPlace 18 = .ok (.invokestatic 34, 3) := by decide +kernel
theorem dX4_checkPlace_21 : decode cX4_checkPlace 21 = .ok (.return_, 1) := by decide +kernel
theorem dX4_checkIndex_0 : decode cX4_checkIndex 0 = .ok (.iload_n 0, 1) := by decide +kernel
theorem dX4_checkIndex_1 : decode cX4_checkIndex 1 = .ok (.ifCond .lt 8, 3) := by decide +kernel
theorem dX4_checkIndex_4 : decode cX4_checkIndex 4 = .ok (.iload_n 0, 1) := by decide +kernel
theorem dX4_checkIndex_5 : decode cX4_checkIndex 5 = .ok (.iload_n 1, 1) := by decide +kernel
theorem dX4_checkIndex_6 : decode cX4_checkIndex 6 = .ok (.if_icmp .lt 13, 3) := by decide +kernel
theorem dX4_checkIndex_9 : decode cX4_checkIndex 9 = .ok (.new 145, 3) := by decide +kernel
theorem dX4_checkIndex_12 : decode cX4_checkIndex 12 = .ok (.dup, 1) := by decide +kernel
theorem dX4_checkIndex_13 : decode cX4_checkIndex 13 = .ok (.ldc 147, 2) := by decide +kernel
theorem dX4_checkIndex_15 : decode cX4_checkIndex 15 = .ok (.invokespecial 149, 3) := by decide +kernel
theorem dX4_checkIndex_18 : decode cX4_checkIndex 18 = .ok (.athrow, 1) := by decide +kernel
theorem dX4_checkIndex_19 : decode cX4_checkIndex 19 = .ok (.return_, 1) := by decide +kernel
theorem dX4_checkNumber_0 : decode cX4_checkNumber 0 = .ok (.iload_n 0, 1) := by decide +kernel
theorem dX4_checkNumber_1 : decode cX4_checkNumber 1 = .ok (.iload_n 1, 1) := by decide +kernel
theorem dX4_checkNumber_2 : decode cX4_checkNumber 2 = .ok (.if_icmp .lt 8, 3) := by decide +kernel
theorem dX4_checkNumber_5 : decode cX4_checkNumber 5 = .ok (.iload_n 0, 1) := by decide +kernel
theorem dX4_checkNumber_6 : decode cX4_checkNumber 6 = .ok (.iload_n 2, 1) := by decide +kernel
theorem dX4_checkNumber_7 : decode cX4_checkNumber 7 = .ok (.if_icmp .le 13, 3) := by decide +kernel
theorem dX4_checkNumber_10 : decode cX4_checkNumber 10 = .ok (.new 152, 3) := by decide +kernel
theorem dX4_checkNumber_13 : decode cX4_checkNumber 13 = .ok (.dup, 1) := by decide +kernel
theorem dX4_checkNumber_14 : decode cX4_checkNumber 14 = .ok (.ldc 154, 2) := by decide +kernel
theorem dX4_checkNumber_16 : decode cX4_checkNumber 16 = .ok (.invokespecial 156, 3) := by decide +kernel
theorem dX4_checkNumber_19 : decode cX4_checkNumber 19 = .ok (.athrow, 1) := by decide +kernel
theorem dX4_checkNumber_20 : decode cX4_checkNumber 20 = .ok (.return_, 1) := by decide +kernel
theorem dX4_holds_0 : decode cX4_holds 0 = .ok (.iload_n 0, 1) := by decide +kernel
theorem dX4_holds_1 : decode cX4_holds 1 = .ok (.iload_n 1, 1) := by decide +kernel
theorem dX4_holds_2 : decode cX4_holds 2 = .ok (.ishr, 1) := by decide +kernel
theorem dX4_holds_3 : decode cX4_holds 3 = .ok (.iconst 1, 1) := by decide +kernel
theorem dX4_holds_4 : decode cX4_holds 4 = .ok (.iand, 1) := by decide +kernel
theorem dX4_holds_5 : decode cX4_holds 5 = .ok (.ifCond .eq 7, 3) := by decide +kernel
theorem dX4_holds_8 : decode cX4_holds 8 = .ok (.iconst 1, 1) := by decide +kernel
theorem dX4_holds_9 : decode cX4_holds 9 = .ok (.goto 4, 3) := by decide +kernel
theorem dX4_holds_12 : decode cX4_holds 12 = .ok (.iconst 0, 1) := by decide +kernel
theorem dX4_holds_13 : decode cX4_holds 13 = .ok (.ireturn, 1) := by decide +kernel
end
section
theorem dX5_init_0 : decode cX5_init 0 = .ok (.aload_n 0, 1) := by decide +kernel
theorem dX5_init_1 : decode cX5_init 1 = .ok (.invokespecial 1, 3) := by decide +kernel
theorem dX5_init_4 : decode cX5_init 4 = .ok (.aload_n 0, 1) := by decide +kernel
theorem dX5_init_5 : decode cX5_init 5 = .ok (.iconst 4, 1) := by decide +kernel
theorem dX5_init_6 : decode cX5_init 6 = .ok (.newarray .int, 2) := by decide +kernel
theorem dX5_init_8 : decode cX5_init 8 = .ok (.putfield 7, 3) := by decide +kernel
theorem dX5_init_11 : decode cX5_init 11 = .ok (.aload_n 0, 1) := by decide +kernel
theorem dX5_init_12 : decode cX5_init 12 = .ok (.iconst 4, 1) := by decide +kernel
theorem dX5_init_13 : decode cX5_init 13 = .ok (.newarray .int, 2) := by decide +kernel
theorem dX5_init_15 : decode cX5_init 15 = .ok (.putfield 13, 3) := by decide +kernel
theorem dX5_init_18 : decode cX5_init 18 = .ok (.aload_n 0, 1) := by decide +kernel
theorem dX5_init_19 : decode cX5_init 19 = .ok (.iconst 4, 1) := by decide +kernel
theorem dX5_init_20 : decode cX5_init 20 = .ok (.newarray .int, 2) := by decide +kernel
theorem dX5_init_22 : decode cX5_init 22 = .ok (.putfield 16, 3) := by decide +kernel
theorem dX5_init_25 : decode cX5_init 25 = .ok (.aload_n 0, 1) := by decide +kernel
theorem dX5_init_26 : decode cX5_init 26 = .ok (.iconst 4, 1) := by decide +kernel
theorem dX5_init_27 : decode cX5_init 27 = .ok (.newarray .int, 2) := by decide +kernel
theorem dX5_init_29 : decode cX5_init 29 = .ok (.putfield 19, 3) := by decide +kernel
theorem dX5_init_32 : decode cX5_init 32 = .ok (.aload_n 0, 1) := by decide +kernel
theorem dX5_init_33 : decode cX5_init 33 = .ok (.iconst 4, 1) := by decide +kernel
theorem dX5_init_34 : decode cX5_init 34 = .ok (.newarray .int, 2) := by decide +kernel
theorem dX5_init_36 : decode cX5_init 36 = .ok (.putfield 22, 3) := by decide +kernel
theorem dX5_init_39 : decode cX5_init 39 = .ok (.aload_n 0, 1) := by decide +kernel
theorem dX5_init_40 : decode cX5_init 40 = .ok (.iconst 4, 1) := by decide +kernel
theorem dX5_init_41 : decode cX5_init 41 = .ok (.newarray .int, 2) := by decide +kernel
theorem dX5_init_43 : decode cX5_init 43 = .ok (.putfield 25, 3) := by decide +kernel
theorem dX5_init_46 : decode cX5_init 46 = .ok (.aload_n 0, 1) := by decide +kernel
theorem dX5_init_47 : decode cX5_init 47 = .ok (.bipush 32, 2) := by decide +kernel
theorem dX5_init_49 : decode cX5_init 49 = .ok (.newarray .int, 2) := by decide +kernel
theorem dX5_init_51 : decode cX5_init 51 = .ok (.putfield 28, 3) := by decide +kernel
theorem dX5_init_54 : decode cX5_init 54 = .ok (.aload_n 0, 1) := by decide +kernel
theorem dX5_init_55 : decode cX5_init 55 = .ok (.bipush 32, 2) := by decide +kernel
theorem dX5_init_57 : decode cX5_init 57 = .ok (.newarray .int, 2) := by decide +kernel
theorem dX5_init_59 : decode cX5_init 59 = .ok (.putfield 31, 3) := by decide +kernel
theorem dX5_init_62 : decode cX5_init 62 = .ok (.aload_n 0, 1) := by decide +kernel
theorem dX5_init_63 : decode cX5_init 63 = .ok (.sipush 512, 3) := by decide +kernel
theorem dX5_init_66 : decode cX5_init 66 = .ok (.newarray .int, 2) := by decide +kernel
theorem dX5_init_68 : decode cX5_init 68 = .ok (.putfield 34, 3) := by decide +kernel
theorem dX5_init_71 : decode cX5_init 71 = .ok (.aload_n 0, 1) := by decide +kernel
theorem dX5_init_72 : decode cX5_init 72 = .ok (.sipush 512, 3) := by decide +kernel
theorem dX5_init_75 : decode cX5_init 75 = .ok (.newarray .int, 2) := by decide +kernel
theorem dX5_init_77 : decode cX5_init 77 = .ok (.putfield 37, 3) := by decide +kernel
theorem dX5_init_80 : decode cX5_init 80 = .ok (.aload_n 0, 1) := by decide +kernel
theorem dX5_init_81 : decode cX5_init 81 = .ok (.sipush 192, 3) := by decide +kernel
theorem dX5_init_84 : decode cX5_init 84 = .ok (.newarray .boolean, 2) := by decide +kernel
theorem dX5_init_86 : decode cX5_init 86 = .ok (.putfield 40, 3) := by decide +kernel
theorem dX5_init_89 : decode cX5_init 89 = .ok (.aload_n 0, 1) := by decide +kernel
theorem dX5_init_90 : decode cX5_init 90 = .ok (.sipush 192, 3) := by decide +kernel
theorem dX5_init_93 : decode cX5_init 93 = .ok (.newarray .int, 2) := by decide +kernel
theorem dX5_init_95 : decode cX5_init 95 = .ok (.putfield 44, 3) := by decide +kernel
theorem dX5_init_98 : decode cX5_init 98 = .ok (.aload_n 0, 1) := by decide +kernel
theorem dX5_init_99 : decode cX5_init 99 = .ok (.bipush 40, 2) := by decide +kernel
theorem dX5_init_101 : decode cX5_init 101 = .ok (.newarray .int, 2) := by decide +kernel
theorem dX5_init_103 : decode cX5_init 103 = .ok (.putfield 47, 3) := by decide +kernel
theorem dX5_init_106 : decode cX5_init 106 = .ok (.aload_n 0, 1) := by decide +kernel
theorem dX5_init_107 : decode cX5_init 107 = .ok (.bipush 40, 2) := by decide +kernel
theorem dX5_init_109 : decode cX5_init 109 = .ok (.newarray .int, 2) := by decide +kernel
theorem dX5_init_111 : decode cX5_init 111 = .ok (.putfield 50, 3) := by decide +kernel
theorem dX5_init_114 : decode cX5_init 114 = .ok (.aload_n 0, 1) := by decide +kernel
theorem dX5_init_115 : decode cX5_init 115 = .ok (.bipush 40, 2) := by decide +kernel
theorem dX5_init_117 : decode cX5_init 117 = .ok (.newarray .int, 2) := by decide +kernel
theorem dX5_init_119 : decode cX5_init 119 = .ok (.putfield 53, 3) := by decide +kernel
theorem dX5_init_122 : decode cX5_init 122 = .ok (.aload_n 0, 1) := by decide +kernel
theorem dX5_init_123 : decode cX5_init 123 = .ok (.bipush 40, 2) := by decide +kernel
theorem dX5_init_125 : decode cX5_init 125 = .ok (.newarray .int, 2) := by decide +kernel
theorem dX5_init_127 : decode cX5_init 127 = .ok (.putfield 56, 3) := by decide +kernel
theorem dX5_init_130 : decode cX5_init 130 = .ok (.aload_n 0, 1) := by decide +kernel
theorem dX5_init_131 : decode cX5_init 131 = .ok (.iload_n 1, 1) := by decide +kernel
theorem dX5_init_132 : decode cX5_init 132 = .ok (.iconst 1, 1) := by decide +kernel
theorem dX5_init_133 : decode cX5_init 133 = .ok (.if_icmp .ge 7, 3) := by decide +kernel
theorem dX5_init_136 : decode cX5_init 136 = .ok (.iconst 1, 1) := by decide +kernel
theorem dX5_init_137 : decode cX5_init 137 = .ok (.goto 13, 3) := by decide +kernel
theorem dX5_init_140 : decode cX5_init 140 = .ok (.iload_n 1, 1) := by decide +kernel
theorem dX5_init_141 : decode cX5_init 141 = .ok (.iconst 4, 1) := by decide +kernel
theorem dX5_init_142 : decode cX5_init 142 = .ok (.if_icmp .le 7, 3) := by decide +kernel
theorem dX5_init_145 : decode cX5_init 145 = .ok (.iconst 4, 1) := by decide +kernel
theorem dX5_init_146 : decode cX5_init 146 = .ok (.goto 4, 3) := by decide +kernel
theorem dX5_init_149 : decode cX5_init 149 = .ok (.iload_n 1, 1) := by decide +kernel
theorem dX5_init_150 : decode cX5_init 150 = .ok (.putfield 59, 3) := by decide +kernel
theorem dX5_init_153 : decode cX5_init 153 = .ok (.aload_n 0, 1) := by decide +kernel
theorem dX5_init_154 : decode cX5_init 154 = .ok (.invokevirtual 63, 3) := by decide +kernel
theorem dX5_init_157 : decode cX5_init 157 = .ok (.return_, 1) := by decide +kernel
theorem dX5_thrown_0 : decode cX5_thrown 0 = .ok (.aload_n 0, 1) := by decide +kernel
theorem dX5_thrown_1 : decode cX5_thrown 1 = .ok (.getfield 66, 3) := by decide +kernel
theorem dX5_thrown_4 : decode cX5_thrown 4 = .ok (.ireturn, 1) := by decide +kernel
theorem dX5_begin_0 : decode cX5_begin 0 = .ok (.iconst 0, 1) := by decide +kernel
theorem dX5_begin_1 : decode cX5_begin 1 = .ok (.istore_n 1, 1) := by decide +kernel
theorem dX5_begin_2 : decode cX5_begin 2 = .ok (.iload_n 1, 1) := by decide +kernel
theorem dX5_begin_3 : decode cX5_begin 3 = .ok (.iconst 4, 1) := by decide +kernel
theorem dX5_begin_4 : decode cX5_begin 4 = .ok (.if_icmp .ge 55, 3) := by decide +kernel
theorem dX5_begin_7 : decode cX5_begin 7 = .ok (.aload_n 0, 1) := by decide +kernel
theorem dX5_begin_8 : decode cX5_begin 8 = .ok (.getfield 7, 3) := by decide +kernel
theorem dX5_begin_11 : decode cX5_begin 11 = .ok (.iload_n 1, 1) := by decide +kernel
theorem dX5_begin_12 : decode cX5_begin 12 = .ok (.iconst 2, 1) := by decide +kernel
theorem dX5_begin_13 : decode cX5_begin 13 = .ok (.iastore, 1) := by decide +kernel
theorem dX5_begin_14 : decode cX5_begin 14 = .ok (.aload_n 0, 1) := by decide +kernel
theorem dX5_begin_15 : decode cX5_begin 15 = .ok (.getfield 13, 3) := by decide +kernel
theorem dX5_begin_18 : decode cX5_begin 18 = .ok (.iload_n 1, 1) := by decide +kernel
theorem dX5_begin_19 : decode cX5_begin 19 = .ok (.bipush 20, 2) := by decide +kernel
theorem dX5_begin_21 : decode cX5_begin 21 = .ok (.iastore, 1) := by decide +kernel
theorem dX5_begin_22 : decode cX5_begin 22 = .ok (.aload_n 0, 1) := by decide +kernel
theorem dX5_begin_23 : decode cX5_begin 23 = .ok (.getfield 16, 3) := by decide +kernel
theorem dX5_begin_26 : decode cX5_begin 26 = .ok (.iload_n 1, 1) := by decide +kernel
theorem dX5_begin_27 : decode cX5_begin 27 = .ok (.iconst 4, 1) := by decide +kernel
theorem dX5_begin_28 : decode cX5_begin 28 = .ok (.iastore, 1) := by decide +kernel
theorem dX5_begin_29 : decode cX5_begin 29 = .ok (.aload_n 0, 1) := by decide +kernel
theorem dX5_begin_30 : decode cX5_begin 30 = .ok (.getfield 19, 3) := by decide +kernel
theorem dX5_begin_33 : decode cX5_begin 33 = .ok (.iload_n 1, 1) := by decide +kernel
theorem dX5_begin_34 : decode cX5_begin 34 = .ok (.sipush 500, 3) := by decide +kernel
theorem dX5_begin_37 : decode cX5_begin 37 = .ok (.iastore, 1) := by decide +kernel
theorem dX5_begin_38 : decode cX5_begin 38 = .ok (.aload_n 0, 1) := by decide +kernel
theorem dX5_begin_39 : decode cX5_begin 39 = .ok (.getfield 22, 3) := by decide +kernel
theorem dX5_begin_42 : decode cX5_begin 42 = .ok (.iload_n 1, 1) := by decide +kernel
theorem dX5_begin_43 : decode cX5_begin 43 = .ok (.iconst 0, 1) := by decide +kernel
theorem dX5_begin_44 : decode cX5_begin 44 = .ok (.iastore, 1) := by decide +kernel
theorem dX5_begin_45 : decode cX5_begin 45 = .ok (.aload_n 0, 1) := by decide +kernel
theorem dX5_begin_46 : decode cX5_begin 46 = .ok (.getfield 25, 3) := by decide +kernel
theorem dX5_begin_49 : decode cX5_begin 49 = .ok (.iload_n 1, 1) := by decide +kernel
theorem dX5_begin_50 : decode cX5_begin 50 = .ok (.bipush 20, 2) := by decide +kernel
theorem dX5_begin_52 : decode cX5_begin 52 = .ok (.iastore, 1) := by decide +kernel
theorem dX5_begin_53 : decode cX5_begin 53 = .ok (.iinc 1 1, 3) := by decide +kernel
theorem dX5_begin_56 : decode cX5_begin 56 = .ok (.goto (-54), 3) := by decide +kernel
theorem dX5_begin_59 : decode cX5_begin 59 = .ok (.iconst 0, 1) := by decide +kernel
theorem dX5_begin_60 : decode cX5_begin 60 = .ok (.istore_n 1, 1) := by decide +kernel
theorem dX5_begin_61 : decode cX5_begin 61 = .ok (.iload_n 1, 1) := by decide +kernel
theorem dX5_begin_62 : decode cX5_begin 62 = .ok (.bipush 32, 2) := by decide +kernel
theorem dX5_begin_64 : decode cX5_begin 64 = .ok (.if_icmp .ge 23, 3) := by decide +kernel
theorem dX5_begin_67 : decode cX5_begin 67 = .ok (.aload_n 0, 1) := by decide +kernel
theorem dX5_begin_68 : decode cX5_begin 68 = .ok (.getfield 28, 3) := by decide +kernel
theorem dX5_begin_71 : decode cX5_begin 71 = .ok (.iload_n 1, 1) := by decide +kernel
theorem dX5_begin_72 : decode cX5_begin 72 = .ok (.iconst (-1), 1) := by decide +kernel
theorem dX5_begin_73 : decode cX5_begin 73 = .ok (.iastore, 1) := by decide +kernel
theorem dX5_begin_74 : decode cX5_begin 74 = .ok (.aload_n 0, 1) := by decide +kernel
theorem dX5_begin_75 : decode cX5_begin 75 = .ok (.getfield 31, 3) := by decide +kernel
theorem dX5_begin_78 : decode cX5_begin 78 = .ok (.iload_n 1, 1) := by decide +kernel
theorem dX5_begin_79 : decode cX5_begin 79 = .ok (.iconst 0, 1) := by decide +kernel
theorem dX5_begin_80 : decode cX5_begin 80 = .ok (.iastore, 1) := by decide +kernel
theorem dX5_begin_81 : decode cX5_begin 81 = .ok (.iinc 1 1, 3) := by decide +kernel
theorem dX5_begin_84 : decode cX5_begin 84 = .ok (.goto (-23), 3) := by decide +kernel
theorem dX5_begin_87 : decode cX5_begin 87 = .ok (.iconst 0, 1) := by decide +kernel
theorem dX5_begin_88 : decode cX5_begin 88 = .ok (.istore_n 1, 1) := by decide +kernel
theorem dX5_begin_89 : decode cX5_begin 89 = .ok (.iload_n 1, 1) := by decide +kernel
theorem dX5_begin_90 : decode cX5_begin 90 = .ok (.sipush 512, 3) := by decide +kernel
theorem dX5_begin_93 : decode cX5_begin 93 = .ok (.if_icmp .ge 23, 3) := by decide +kernel
theorem dX5_begin_96 : decode cX5_begin 96 = .ok (.aload_n 0, 1) := by decide +kernel
theorem dX5_begin_97 : decode cX5_begin 97 = .ok (.getfield 34, 3) := by decide +kernel
theorem dX5_begin_100 : decode cX5_begin 100 = .ok (.iload_n 1, 1) := by decide +kernel
theorem dX5_begin_101 : decode cX5_begin 101 = .ok (.iconst 0, 1) := by decide +kernel
theorem dX5_begin_102 : decode cX5_begin 102 = .ok (.iastore, 1) := by decide +kernel
theorem dX5_begin_103 : decode cX5_begin 103 = .ok (.aload_n 0, 1) := by decide +kernel
theorem dX5_begin_104 : decode cX5_begin 104 = .ok (.getfield 37, 3) := by decide +kernel
theorem dX5_begin_107 : decode cX5_begin 107 = .ok (.iload_n 1, 1) := by decide +kernel
theorem dX5_begin_108 : decode cX5_begin 108 = .ok (.iconst 0, 1) := by decide +kernel
theorem dX5_begin_109 : decode cX5_begin 109 = .ok (.iastore, 1) := by decide +kernel
theorem dX5_begin_110 : decode cX5_begin 110 = .ok (.iinc 1 1, 3) := by decide +kernel
theorem dX5_begin_113 : decode cX5_begin 113 = .ok (.goto (-24), 3) := by decide +kernel
theorem dX5_begin_116 : decode cX5_begin 116 = .ok (.iconst 0, 1) := by decide +kernel
theorem dX5_begin_117 : decode cX5_begin 117 = .ok (.istore_n 1, 1) := by decide +kernel
theorem dX5_begin_118 : decode cX5_begin 118 = .ok (.iload_n 1, 1) := by decide +kernel
theorem dX5_begin_119 : decode cX5_begin 119 = .ok (.sipush 192, 3) := by decide +kernel
theorem dX5_begin_122 : decode cX5_begin 122 = .ok (.if_icmp .ge 23, 3) := by decide +kernel
theorem dX5_begin_125 : decode cX5_begin 125 = .ok (.aload_n 0, 1) := by decide +kernel
theorem dX5_begin_126 : decode cX5_begin 126 = .ok (.getfield 40, 3) := by decide +kernel
theorem dX5_begin_129 : decode cX5_begin 129 = .ok (.iload_n 1, 1) := by decide +kernel
theorem dX5_begin_130 : decode cX5_begin 130 = .ok (.iconst 0, 1) := by decide +kernel
theorem dX5_begin_131 : decode cX5_begin 131 = .ok (.bastore, 1) := by decide +kernel
theorem dX5_begin_132 : decode cX5_begin 132 = .ok (.aload_n 0, 1) := by decide +kernel
theorem dX5_begin_133 : decode cX5_begin 133 = .ok (.getfield 44, 3) := by decide +kernel
theorem dX5_begin_136 : decode cX5_begin 136 = .ok (.iload_n 1, 1) := by decide +kernel
theorem dX5_begin_137 : decode cX5_begin 137 = .ok (.iconst 0, 1) := by decide +kernel
theorem dX5_begin_138 : decode cX5_begin 138 = .ok (.iastore, 1) := by decide +kernel
theorem dX5_begin_139 : decode cX5_begin 139 = .ok (.iinc 1 1, 3) := by decide +kernel
theorem dX5_begin_142 : decode cX5_begin 142 = .ok (.goto (-24), 3) := by decide +kernel
theorem dX5_begin_145 : decode cX5_begin 145 = .ok (.aload_n 0, 1) := by decide +kernel
theorem dX5_begin_146 : decode cX5_begin 146 = .ok (.iconst 0, 1) := by decide +kernel
theorem dX5_begin_147 : decode cX5_begin 147 = .ok (.putfield 69, 3) := by decide +kernel
theorem dX5_begin_150 : decode cX5_begin 150 = .ok (.aload_n 0, 1) := by decide +kernel
theorem dX5_begin_151 : decode cX5_begin 151 = .ok (.iconst 0, 1) := by decide +kernel
theorem dX5_begin_152 : decode cX5_begin 152 = .ok (.putfield 72, 3) := by decide +kernel
theorem dX5_begin_155 : decode cX5_begin 155 = .ok (.return_, 1) := by decide +kernel
theorem dX5_isLink_0 : decode cX5_isLink 0 = .ok (.iload_n 1, 1) := by decide +kernel
theorem dX5_isLink_1 : decode cX5_isLink 1 = .ok (.ifCond .lt 15, 3) := by decide +kernel
theorem dX5_isLink_4 : decode cX5_isLink 4 = .ok (.iload_n 1, 1) := by decide +kernel
theorem dX5_isLink_5 : decode cX5_isLink 5 = .ok (.aload_n 0, 1) := by decide +kernel
theorem dX5_isLink_6 : decode cX5_isLink 6 = .ok (.getfield 59, 3) := by decide +kernel
theorem dX5_isLink_9 : decode cX5_isLink 9 = .ok (.if_icmp .ge 7, 3) := by decide +kernel
theorem dX5_isLink_12 : decode cX5_isLink 12 = .ok (.iconst 1, 1) := by decide +kernel
theorem dX5_isLink_13 : decode cX5_isLink 13 = .ok (.goto 4, 3) := by decide +kernel
theorem dX5_isLink_16 : decode cX5_isLink 16 = .ok (.iconst 0, 1) := by decide +kernel
theorem dX5_isLink_17 : decode cX5_isLink 17 = .ok (.ireturn, 1) := by decide +kernel
theorem dX5_in_0 : decode cX5_in 0 = .ok (.iload_n 0, 1) := by decide +kernel
theorem dX5_in_1 : decode cX5_in 1 = .ok (.iload_n 1, 1) := by decide +kernel
theorem dX5_in_2 : decode cX5_in 2 = .ok (.if_icmp .lt 12, 3) := by decide +kernel
theorem dX5_in_5 : decode cX5_in 5 = .ok (.iload_n 0, 1) := by decide +kernel
theorem dX5_in_6 : decode cX5_in 6 = .ok (.iload_n 2, 1) := by decide +kernel
theorem dX5_in_7 : decode cX5_in 7 = .ok (.if_icmp .gt 7, 3) := by decide +kernel
theorem dX5_in_10 : decode cX5_in 10 = .ok (.iconst 1, 1) := by decide +kernel
theorem dX5_in_11 : decode cX5_in 11 = .ok (.goto 4, 3) := by decide +kernel
theorem dX5_in_14 : decode cX5_in 14 = .ok (.iconst 0, 1) := by decide +kernel
theorem dX5_in_15 : decode cX5_in 15 = .ok (.ireturn, 1) := by decide +kernel
theorem dX5_grace_0 : decode cX5_grace 0 = .ok (.aload_n 0, 1) := by decide +kernel
theorem dX5_grace_1 : decode cX5_grace 1 = .ok (.getfield 7, 3) := by decide +kernel
theorem dX5_grace_4 : decode cX5_grace 4 = .ok (.iload_n 1, 1) := by decide +kernel
theorem dX5_grace_5 : decode cX5_grace 5 = .ok (.iaload, 1) := by decide +kernel
theorem dX5_grace_6 : decode cX5_grace 6 = .ok (.aload_n 0, 1) := by decide +kernel
theorem dX5_grace_7 : decode cX5_grace 7 = .ok (.getfield 13, 3) := by decide +kernel
theorem dX5_grace_10 : decode cX5_grace 10 = .ok (.iload_n 1, 1) := by decide +kernel
theorem dX5_grace_11 : decode cX5_grace 11 = .ok (.iaload, 1) := by decide +kernel
theorem dX5_grace_12 : decode cX5_grace 12 = .ok (.imul, 1) := by decide +kernel
theorem dX5_grace_13 : decode cX5_grace 13 = .ok (.aload_n 0, 1) := by decide +kernel
theorem dX5_grace_14 : decode cX5_grace 14 = .ok (.getfield 16, 3) := by decide +kernel
theorem dX5_grace_17 : decode cX5_grace 17 = .ok (.iload_n 1, 1) := by decide +kernel
theorem dX5_grace_18 : decode cX5_grace 18 = .ok (.iaload, 1) := by decide +kernel
theorem dX5_grace_19 : decode cX5_grace 19 = .ok (.iadd, 1) := by decide +kernel
theorem dX5_grace_20 : decode cX5_grace 20 = .ok (.ireturn, 1) := by decide +kernel
theorem dX5_setOf_0 : decode cX5_setOf 0 = .ok (.iconst 0, 1) := by decide +kernel
theorem dX5_setOf_1 : decode cX5_setOf 1 = .ok (.istore_n 3, 1) := by decide +kernel
theorem dX5_setOf_2 : decode cX5_setOf 2 = .ok (.iconst 0, 1) := by decide +kernel
theorem dX5_setOf_3 : decode cX5_setOf 3 = .ok (.istore 4, 2) := by decide +kernel
theorem dX5_setOf_5 : decode cX5_setOf 5 = .ok (.iload 4, 2) := by decide +kernel
theorem dX5_setOf_7 : decode cX5_setOf 7 = .ok (.bipush 16, 2) := by decide +kernel
theorem dX5_setOf_9 : decode cX5_setOf 9 = .ok (.if_icmp .ge 36, 3) := by decide +kernel
theorem dX5_setOf_12 : decode cX5_setOf 12 = .ok (.aload_n 0, 1) := by decide +kernel
theorem dX5_setOf_13 : decode cX5_setOf 13 = .ok (.getfield 34, 3) := by decide +kernel
theorem dX5_setOf_16 : decode cX5_setOf 16 = .ok (.bipush 16, 2) := by decide +kernel
theorem dX5_setOf_18 : decode cX5_setOf 18 = .ok (.iload_n 1, 1) := by decide +kernel
theorem dX5_setOf_19 : decode cX5_setOf 19 = .ok (.imul, 1) := by decide +kernel
theorem dX5_setOf_20 : decode cX5_setOf 20 = .ok (.iload 4, 2) := by decide +kernel
theorem dX5_setOf_22 : decode cX5_setOf 22 = .ok (.iadd, 1) := by decide +kernel
theorem dX5_setOf_23 : decode cX5_setOf 23 = .ok (.iaload, 1) := by decide +kernel
theorem dX5_setOf_24 : decode cX5_setOf 24 = .ok (.iload_n 2, 1) := by decide +kernel
theorem dX5_setOf_25 : decode cX5_setOf 25 = .ok (.if_icmp .ne 12, 3) := by decide +kernel
theorem dX5_setOf_28 : decode cX5_setOf 28 = .ok (.iload_n 3, 1) := by decide +kernel
theorem dX5_setOf_29 : decode cX5_setOf 29 = .ok (.iconst 1, 1) := by decide +kernel
theorem dX5_setOf_30 : decode cX5_setOf 30 = .ok (.iload 4, 2) := by decide +kernel
theorem dX5_setOf_32 : decode cX5_setOf 32 = .ok (.ishl, 1) := by decide +kernel
theorem dX5_setOf_33 : decode cX5_setOf 33 = .ok (.iadd, 1) := by decide +kernel
theorem dX5_setOf_34 : decode cX5_setOf 34 = .ok (.goto 4, 3) := by decide +kernel
theorem dX5_setOf_37 : decode cX5_setOf 37 = .ok (.iload_n 3, 1) := by decide +kernel
theorem dX5_setOf_38 : decode cX5_setOf 38 = .ok (.istore_n 3, 1) := by decide +kernel
theorem dX5_setOf_39 : decode cX5_setOf 39 = .ok (.iinc 4 1, 3) := by decide +kernel
theorem dX5_setOf_42 : decode cX5_setOf 42 = .ok (.goto (-37), 3) := by decide +kernel
theorem dX5_setOf_45 : decode cX5_setOf 45 = .ok (.iload_n 3, 1) := by decide +kernel
theorem dX5_setOf_46 : decode cX5_setOf 46 = .ok (.ireturn, 1) := by decide +kernel
theorem dX5_become_0 : decode cX5_become 0 = .ok (.aload_n 0, 1) := by decide +kernel
theorem dX5_become_1 : decode cX5_become 1 = .ok (.getfield 28, 3) := by decide +kernel
theorem dX5_become_4 : decode cX5_become 4 = .ok (.iload_n 1, 1) := by decide +kernel
theorem dX5_become_5 : decode cX5_become 5 = .ok (.iload_n 2, 1) := by decide +kernel
theorem dX5_become_6 : decode cX5_become 6 = .ok (.iastore, 1) := by decide +kernel
theorem dX5_become_7 : decode cX5_become 7 = .ok (.iconst 0, 1) := by decide +kernel
theorem dX5_become_8 : decode cX5_become 8 = .ok (.istore 5, 2) := by decide +kernel
theorem dX5_become_10 : decode cX5_become 10 = .ok (.iload 5, 2) := by decide +kernel
theorem dX5_become_12 : decode cX5_become 12 = .ok (.bipush 16, 2) := by decide +kernel
theorem dX5_become_14 : decode cX5_become 14 = .ok (.if_icmp .ge 96, 3) := by decide +kernel
theorem dX5_become_17 : decode cX5_become 17 = .ok (.iload_n 3, 1) := by decide +kernel
theorem dX5_become_18 : decode cX5_become 18 = .ok (.iload 5, 2) := by decide +kernel
theorem dX5_become_20 : decode cX5_become 20 = .ok (.ishr, 1) := by decide +kernel
theorem dX5_become_21 : decode cX5_become 21 = .ok (.iconst 1, 1) := by decide +kernel
theorem dX5_become_22 : decode cX5_become 22 = .ok (.iand, 1) := by decide +kernel
theorem dX5_become_23 : decode cX5_become 23 = .ok (.iconst 1, 1) := by decide +kernel
theorem dX5_become_24 : decode cX5_become 24 = .ok (.if_icmp .ne 7, 3) := by decide +kernel
theorem dX5_become_27 : decode cX5_become 27 = .ok (.iconst 1, 1) := by decide +kernel
theorem dX5_become_28 : decode cX5_become 28 = .ok (.goto 4, 3) := by decide +kernel
theorem dX5_become_31 : decode cX5_become 31 = .ok (.iconst 0, 1) := by decide +kernel
theorem dX5_become_32 : decode cX5_become 32 = .ok (.istore 6, 2) := by decide +kernel
theorem dX5_become_34 : decode cX5_become 34 = .ok (.aload_n 0, 1) := by decide +kernel
theorem dX5_become_35 : decode cX5_become 35 = .ok (.getfield 34, 3) := by decide +kernel
theorem dX5_become_38 : decode cX5_become 38 = .ok (.bipush 16, 2) := by decide +kernel
theorem dX5_become_40 : decode cX5_become 40 = .ok (.iload_n 1, 1) := by decide +kernel
theorem dX5_become_41 : decode cX5_become 41 = .ok (.imul, 1) := by decide +kernel
theorem dX5_become_42 : decode cX5_become 42 = .ok (.iload 5, 2) := by decide +kernel
theorem dX5_become_44 : decode cX5_become 44 = .ok (.iadd, 1) := by decide +kernel
theorem dX5_become_45 : decode cX5_become 45 = .ok (.iload 6, 2) := by decide +kernel
theorem dX5_become_47 : decode cX5_become 47 = .ok (.ifCond .eq 7, 3) := by decide +kernel
theorem dX5_become_50 : decode cX5_become 50 = .ok (.iconst 1, 1) := by decide +kernel
theorem dX5_become_51 : decode cX5_become 51 = .ok (.goto 19, 3) := by decide +kernel
theorem dX5_become_54 : decode cX5_become 54 = .ok (.iload 4, 2) := by decide +kernel
theorem dX5_become_56 : decode cX5_become 56 = .ok (.iload 5, 2) := by decide +kernel
theorem dX5_become_58 : decode cX5_become 58 = .ok (.ishr, 1) := by decide +kernel
theorem dX5_become_59 : decode cX5_become 59 = .ok (.iconst 1, 1) := by decide +kernel
theorem dX5_become_60 : decode cX5_become 60 = .ok (.iand, 1) := by decide +kernel
theorem dX5_become_61 : decode cX5_become 61 = .ok (.iconst 1, 1) := by decide +kernel
theorem dX5_become_62 : decode cX5_become 62 = .ok (.if_icmp .ne 7, 3) := by decide +kernel
theorem dX5_become_65 : decode cX5_become 65 = .ok (.iconst 2, 1) := by decide +kernel
theorem dX5_become_66 : decode cX5_become 66 = .ok (.goto 4, 3) := by decide +kernel
theorem dX5_become_69 : decode cX5_become 69 = .ok (.iconst 0, 1) := by decide +kernel
theorem dX5_become_70 : decode cX5_become 70 = .ok (.iastore, 1) := by decide +kernel
theorem dX5_become_71 : decode cX5_become 71 = .ok (.aload_n 0, 1) := by decide +kernel
theorem dX5_become_72 : decode cX5_become 72 = .ok (.getfield 37, 3) := by decide +kernel
theorem dX5_become_75 : decode cX5_become 75 = .ok (.bipush 16, 2) := by decide +kernel
theorem dX5_become_77 : decode cX5_become 77 = .ok (.iload_n 1, 1) := by decide +kernel
theorem dX5_become_78 : decode cX5_become 78 = .ok (.imul, 1) := by decide +kernel
theorem dX5_become_79 : decode cX5_become 79 = .ok (.iload 5, 2) := by decide +kernel
theorem dX5_become_81 : decode cX5_become 81 = .ok (.iadd, 1) := by decide +kernel
theorem dX5_become_82 : decode cX5_become 82 = .ok (.iload 6, 2) := by decide +kernel
theorem dX5_become_84 : decode cX5_become 84 = .ok (.ifCond .eq 18, 3) := by decide +kernel
theorem dX5_become_87 : decode cX5_become 87 = .ok (.aload_n 0, 1) := by decide +kernel
theorem dX5_become_88 : decode cX5_become 88 = .ok (.getfield 37, 3) := by decide +kernel
theorem dX5_become_91 : decode cX5_become 91 = .ok (.bipush 16, 2) := by decide +kernel
theorem dX5_become_93 : decode cX5_become 93 = .ok (.iload_n 1, 1) := by decide +kernel
theorem dX5_become_94 : decode cX5_become 94 = .ok (.imul, 1) := by decide +kernel
theorem dX5_become_95 : decode cX5_become 95 = .ok (.iload 5, 2) := by decide +kernel
theorem dX5_become_97 : decode cX5_become 97 = .ok (.iadd, 1) := by decide +kernel
theorem dX5_become_98 : decode cX5_become 98 = .ok (.iaload, 1) := by decide +kernel
theorem dX5_become_99 : decode cX5_become 99 = .ok (.goto 4, 3) := by decide +kernel
theorem dX5_become_102 : decode cX5_become 102 = .ok (.iconst 0, 1) := by decide +kernel
theorem dX5_become_103 : decode cX5_become 103 = .ok (.iastore, 1) := by decide +kernel
theorem dX5_become_104 : decode cX5_become 104 = .ok (.iinc 5 1, 3) := by decide +kernel
theorem dX5_become_107 : decode cX5_become 107 = .ok (.goto (-97), 3) := by decide +kernel
theorem dX5_become_110 : decode cX5_become 110 = .ok (.aload_n 0, 1) := by decide +kernel
theorem dX5_become_111 : decode cX5_become 111 = .ok (.getfield 31, 3) := by decide +kernel
theorem dX5_become_114 : decode cX5_become 114 = .ok (.iload_n 1, 1) := by decide +kernel
theorem dX5_become_115 : decode cX5_become 115 = .ok (.iload_n 2, 1) := by decide +kernel
theorem dX5_become_116 : decode cX5_become 116 = .ok (.iconst 1, 1) := by decide +kernel
theorem dX5_become_117 : decode cX5_become 117 = .ok (.if_icmp .ne 12, 3) := by decide +kernel
theorem dX5_become_120 : decode cX5_become 120 = .ok (.aload_n 0, 1) := by decide +kernel
theorem dX5_become_121 : decode cX5_become 121 = .ok (.getfield 31, 3) := by decide +kernel
theorem dX5_become_124 : decode cX5_become 124 = .ok (.iload_n 1, 1) := by decide +kernel
theorem dX5_become_125 : decode cX5_become 125 = .ok (.iaload, 1) := by decide +kernel
theorem dX5_become_126 : decode cX5_become 126 = .ok (.goto 4, 3) := by decide +kernel
theorem dX5_become_129 : decode cX5_become 129 = .ok (.iconst 0, 1) := by decide +kernel
theorem dX5_become_130 : decode cX5_become 130 = .ok (.iastore, 1) := by decide +kernel
theorem dX5_become_131 : decode cX5_become 131 = .ok (.iload_n 2, 1) := by decide +kernel
theorem dX5_become_132 : decode cX5_become 132 = .ok (.ifCond .ne 14, 3) := by decide +kernel
theorem dX5_become_135 : decode cX5_become 135 = .ok (.iload_n 3, 1) := by decide +kernel
theorem dX5_become_136 : decode cX5_become 136 = .ok (.ifCond .ne 10, 3) := by decide +kernel
theorem dX5_become_139 : decode cX5_become 139 = .ok (.aload_n 0, 1) := by decide +kernel
theorem dX5_become_140 : decode cX5_become 140 = .ok (.getfield 28, 3) := by decide +kernel
theorem dX5_become_143 : decode cX5_become 143 = .ok (.iload_n 1, 1) := by decide +kernel
theorem dX5_become_144 : decode cX5_become 144 = .ok (.iconst (-1), 1) := by decide +kernel
theorem dX5_become_145 : decode cX5_become 145 = .ok (.iastore, 1) := by decide +kernel
theorem dX5_become_146 : decode cX5_become 146 = .ok (.return_, 1) := by decide +kernel
theorem dX5_setTimers_0 : decode cX5_setTimers 0 = .ok (.iconst 0, 1) := by decide +kernel
theorem dX5_setTimers_1 : decode cX5_setTimers 1 = .ok (.istore 4, 2) := by decide +kernel
theorem dX5_setTimers_3 : decode cX5_setTimers 3 = .ok (.iload 4, 2) := by decide +kernel
theorem dX5_setTimers_5 : decode cX5_setTimers 5 = .ok (.bipush 16, 2) := by decide +kernel
theorem dX5_setTimers_7 : decode cX5_setTimers 7 = .ok (.if_icmp .ge 47, 3) := by decide +kernel
theorem dX5_setTimers_10 : decode cX5_setTimers 10 = .ok (.aload_n 0, 1) := by decide +kernel
theorem dX5_setTimers_11 : decode cX5_setTimers 11 = .ok (.getfield 37, 3) := by decide +kernel
theorem dX5_setTimers_14 : decode cX5_setTimers 14 = .ok (.bipush 16, 2) := by decide +kernel
theorem dX5_setTimers_16 : decode cX5_setTimers 16 = .ok (.iload_n 1, 1) := by decide +kernel
theorem dX5_setTimers_17 : decode cX5_setTimers 17 = .ok (.imul, 1) := by decide +kernel
theorem dX5_setTimers_18 : decode cX5_setTimers 18 = .ok (.iload 4, 2) := by decide +kernel
theorem dX5_setTimers_20 : decode cX5_setTimers 20 = .ok (.iadd, 1) := by decide +kernel
theorem dX5_setTimers_21 : decode cX5_setTimers 21 = .ok (.iload_n 2, 1) := by decide +kernel
theorem dX5_setTimers_22 : decode cX5_setTimers 22 = .ok (.iload 4, 2) := by decide +kernel
theorem dX5_setTimers_24 : decode cX5_setTimers 24 = .ok (.ishr, 1) := by decide +kernel
theorem dX5_setTimers_25 : decode cX5_setTimers 25 = .ok (.iconst 1, 1) := by decide +kernel
theorem dX5_setTimers_26 : decode cX5_setTimers 26 = .ok (.iand, 1) := by decide +kernel
theorem dX5_setTimers_27 : decode cX5_setTimers 27 = .ok (.iconst 1, 1) := by decide +kernel
theorem dX5_setTimers_28 : decode cX5_setTimers 28 = .ok (.if_icmp .ne 7, 3) := by decide +kernel
theorem dX5_setTimers_31 : decode cX5_setTimers 31 = .ok (.iload_n 3, 1) := by decide +kernel
theorem dX5_setTimers_32 : decode cX5_setTimers 32 = .ok (.goto 15, 3) := by decide +kernel
theorem dX5_setTimers_35 : decode cX5_setTimers 35 = .ok (.aload_n 0, 1) := by decide +kernel
theorem dX5_setTimers_36 : decode cX5_setTimers 36 = .ok (.getfield 37, 3) := by decide +kernel
theorem dX5_setTimers_39 : decode cX5_setTimers 39 = .ok (.bipush 16, 2) := by decide +kernel
theorem dX5_setTimers_41 : decode cX5_setTimers 41 = .ok (.iload_n 1, 1) := by decide +kernel
theorem dX5_setTimers_42 : decode cX5_setTimers 42 = .ok (.imul, 1) := by decide +kernel
theorem dX5_setTimers_43 : decode cX5_setTimers 43 = .ok (.iload 4, 2) := by decide +kernel
theorem dX5_setTimers_45 : decode cX5_setTimers 45 = .ok (.iadd, 1) := by decide +kernel
theorem dX5_setTimers_46 : decode cX5_setTimers 46 = .ok (.iaload, 1) := by decide +kernel
theorem dX5_setTimers_47 : decode cX5_setTimers 47 = .ok (.iastore, 1) := by decide +kernel
theorem dX5_setTimers_48 : decode cX5_setTimers 48 = .ok (.iinc 4 1, 3) := by decide +kernel
theorem dX5_setTimers_51 : decode cX5_setTimers 51 = .ok (.goto (-48), 3) := by decide +kernel
theorem dX5_setTimers_54 : decode cX5_setTimers 54 = .ok (.return_, 1) := by decide +kernel
theorem dX5_lower_0 : decode cX5_lower 0 = .ok (.aload_n 0, 1) := by decide +kernel
theorem dX5_lower_1 : decode cX5_lower 1 = .ok (.getfield 7, 3) := by decide +kernel
theorem dX5_lower_4 : decode cX5_lower 4 = .ok (.iload_n 1, 1) := by decide +kernel
theorem dX5_lower_5 : decode cX5_lower 5 = .ok (.iaload, 1) := by decide +kernel
theorem dX5_lower_6 : decode cX5_lower 6 = .ok (.istore 4, 2) := by decide +kernel
theorem dX5_lower_8 : decode cX5_lower 8 = .ok (.iconst 0, 1) := by decide +kernel
theorem dX5_lower_9 : decode cX5_lower 9 = .ok (.istore 5, 2) := by decide +kernel
theorem dX5_lower_11 : decode cX5_lower 11 = .ok (.iload 5, 2) := by decide +kernel
theorem dX5_lower_13 : decode cX5_lower 13 = .ok (.bipush 16, 2) := by decide +kernel
theorem dX5_lower_15 : decode cX5_lower 15 = .ok (.if_icmp .ge 77, 3) := by decide +kernel
theorem dX5_lower_18 : decode cX5_lower 18 = .ok (.iload_n 3, 1) := by decide +kernel
theorem dX5_lower_19 : decode cX5_lower 19 = .ok (.iload 5, 2) := by decide +kernel
theorem dX5_lower_21 : decode cX5_lower 21 = .ok (.ishr, 1) := by decide +kernel
theorem dX5_lower_22 : decode cX5_lower 22 = .ok (.iconst 1, 1) := by decide +kernel
theorem dX5_lower_23 : decode cX5_lower 23 = .ok (.iand, 1) := by decide +kernel
theorem dX5_lower_24 : decode cX5_lower 24 = .ok (.iconst 1, 1) := by decide +kernel
theorem dX5_lower_25 : decode cX5_lower 25 = .ok (.if_icmp .ne 24, 3) := by decide +kernel
theorem dX5_lower_28 : decode cX5_lower 28 = .ok (.aload_n 0, 1) := by decide +kernel
theorem dX5_lower_29 : decode cX5_lower 29 = .ok (.getfield 37, 3) := by decide +kernel
theorem dX5_lower_32 : decode cX5_lower 32 = .ok (.bipush 16, 2) := by decide +kernel
theorem dX5_lower_34 : decode cX5_lower 34 = .ok (.iload_n 2, 1) := by decide +kernel
theorem dX5_lower_35 : decode cX5_lower 35 = .ok (.imul, 1) := by decide +kernel
theorem dX5_lower_36 : decode cX5_lower 36 = .ok (.iload 5, 2) := by decide +kernel
theorem dX5_lower_38 : decode cX5_lower 38 = .ok (.iadd, 1) := by decide +kernel
theorem dX5_lower_39 : decode cX5_lower 39 = .ok (.iaload, 1) := by decide +kernel
theorem dX5_lower_40 : decode cX5_lower 40 = .ok (.iload 4, 2) := by decide +kernel
theorem dX5_lower_42 : decode cX5_lower 42 = .ok (.if_icmp .le 7, 3) := by decide +kernel
theorem dX5_lower_45 : decode cX5_lower 45 = .ok (.iconst 1, 1) := by decide +kernel
theorem dX5_lower_46 : decode cX5_lower 46 = .ok (.goto 4, 3) := by decide +kernel
theorem dX5_lower_49 : decode cX5_lower 49 = .ok (.iconst 0, 1) := by decide +kernel
theorem dX5_lower_50 : decode cX5_lower 50 = .ok (.istore 6, 2) := by decide +kernel
theorem dX5_lower_52 : decode cX5_lower 52 = .ok (.aload_n 0, 1) := by decide +kernel
theorem dX5_lower_53 : decode cX5_lower 53 = .ok (.getfield 37, 3) := by decide +kernel
theorem dX5_lower_56 : decode cX5_lower 56 = .ok (.bipush 16, 2) := by decide +kernel
theorem dX5_lower_58 : decode cX5_lower 58 = .ok (.iload_n 2, 1) := by decide +kernel
theorem dX5_lower_59 : decode cX5_lower 59 = .ok (.imul, 1) := by decide +kernel
theorem dX5_lower_60 : decode cX5_lower 60 = .ok (.iload 5, 2) := by decide +kernel
theorem dX5_lower_62 : decode cX5_lower 62 = .ok (.iadd, 1) := by decide +kernel
theorem dX5_lower_63 : decode cX5_lower 63 = .ok (.iload 6, 2) := by decide +kernel
theorem dX5_lower_65 : decode cX5_lower 65 = .ok (.ifCond .eq 8, 3) := by decide +kernel
theorem dX5_lower_68 : decode cX5_lower 68 = .ok (.iload 4, 2) := by decide +kernel
theorem dX5_lower_70 : decode cX5_lower 70 = .ok (.goto 15, 3) := by decide +kernel
theorem dX5_lower_73 : decode cX5_lower 73 = .ok (.aload_n 0, 1) := by decide +kernel
theorem dX5_lower_74 : decode cX5_lower 74 = .ok (.getfield 37, 3) := by decide +kernel
theorem dX5_lower_77 : decode cX5_lower 77 = .ok (.bipush 16, 2) := by decide +kernel
theorem dX5_lower_79 : decode cX5_lower 79 = .ok (.iload_n 2, 1) := by decide +kernel
theorem dX5_lower_80 : decode cX5_lower 80 = .ok (.imul, 1) := by decide +kernel
theorem dX5_lower_81 : decode cX5_lower 81 = .ok (.iload 5, 2) := by decide +kernel
theorem dX5_lower_83 : decode cX5_lower 83 = .ok (.iadd, 1) := by decide +kernel
theorem dX5_lower_84 : decode cX5_lower 84 = .ok (.iaload, 1) := by decide +kernel
theorem dX5_lower_85 : decode cX5_lower 85 = .ok (.iastore, 1) := by decide +kernel
theorem dX5_lower_86 : decode cX5_lower 86 = .ok (.iinc 5 1, 3) := by decide +kernel
theorem dX5_lower_89 : decode cX5_lower 89 = .ok (.goto (-78), 3) := by decide +kernel
theorem dX5_lower_92 : decode cX5_lower 92 = .ok (.return_, 1) := by decide +kernel
theorem dX5_lowerGroup_0 : decode cX5_lowerGroup 0 = .ok (.aload_n 0, 1) := by decide +kernel
theorem dX5_lowerGroup_1 : decode cX5_lowerGroup 1 = .ok (.getfield 31, 3) := by decide +kernel
theorem dX5_lowerGroup_4 : decode cX5_lowerGroup 4 = .ok (.iload_n 2, 1) := by decide +kernel
theorem dX5_lowerGroup_5 : decode cX5_lowerGroup 5 = .ok (.aload_n 0, 1) := by decide +kernel
theorem dX5_lowerGroup_6 : decode cX5_lowerGroup 6 = .ok (.getfield 31, 3) := by decide +kernel
theorem dX5_lowerGroup_9 : decode cX5_lowerGroup 9 = .ok (.iload_n 2, 1) := by decide +kernel
theorem dX5_lowerGroup_10 : decode cX5_lowerGroup 10 = .ok (.iaload, 1) := by decide +kernel
theorem dX5_lowerGroup_11 : decode cX5_lowerGroup 11 = .ok (.aload_n 0, 1) := by decide +kernel
theorem dX5_lowerGroup_12 : decode cX5_lowerGroup 12 = .ok (.getfield 7, 3) := by decide +kernel
theorem dX5_lowerGroup_15 : decode cX5_lowerGroup 15 = .ok (.iload_n 1, 1) := by decide +kernel
theorem dX5_lowerGroup_16 : decode cX5_lowerGroup 16 = .ok (.iaload, 1) := by decide +kernel
theorem dX5_lowerGroup_17 : decode cX5_lowerGroup 17 = .ok (.if_icmp .le 12, 3) := by decide +kernel
theorem dX5_lowerGroup_20 : decode cX5_lowerGroup 20 = .ok (.aload_n 0, 1) := by decide +kernel
theorem dX5_lowerGroup_21 : decode cX5_lowerGroup 21 = .ok (.getfield 7, 3) := by decide +kernel
theorem dX5_lowerGroup_24 : decode cX5_lowerGroup 24 = .ok (.iload_n 1, 1) := by decide +kernel
theorem dX5_lowerGroup_25 : decode cX5_lowerGroup 25 = .ok (.iaload, 1) := by decide +kernel
theorem dX5_lowerGroup_26 : decode cX5_lowerGroup 26 = .ok (.goto 9, 3) := by decide +kernel
theorem dX5_lowerGroup_29 : decode cX5_lowerGroup 29 = .ok (.aload_n 0, 1) := by decide +kernel
theorem dX5_lowerGroup_30 : decode cX5_lowerGroup 30 = .ok (.getfield 31, 3) := by decide +kernel
theorem dX5_lowerGroup_33 : decode cX5_lowerGroup 33 = .ok (.iload_n 2, 1) := by decide +kernel
theorem dX5_lowerGroup_34 : decode cX5_lowerGroup 34 = .ok (.iaload, 1) := by decide +kernel
theorem dX5_lowerGroup_35 : decode cX5_lowerGroup 35 = .ok (.iastore, 1) := by decide +kernel
theorem dX5_lowerGroup_36 : decode cX5_lowerGroup 36 = .ok (.return_, 1) := by decide +kernel
theorem dX5_send_0 : decode cX5_send 0 = .ok (.aload_n 0, 1) := by decide +kernel
theorem dX5_send_1 : decode cX5_send 1 = .ok (.getfield 72, 3) := by decide +kernel
theorem dX5_send_4 : decode cX5_send 4 = .ok (.bipush 40, 2) := by decide +kernel
theorem dX5_send_6 : decode cX5_send 6 = .ok (.irem, 1) := by decide +kernel
theorem dX5_send_7 : decode cX5_send 7 = .ok (.istore 4, 2) := by decide +kernel
theorem dX5_send_9 : decode cX5_send 9 = .ok (.aload_n 0, 1) := by decide +kernel
theorem dX5_send_10 : decode cX5_send 10 = .ok (.getfield 47, 3) := by decide +kernel
theorem dX5_send_13 : decode cX5_send 13 = .ok (.iload 4, 2) := by decide +kernel
theorem dX5_send_15 : decode cX5_send 15 = .ok (.iload_n 1, 1) := by decide +kernel
theorem dX5_send_16 : decode cX5_send 16 = .ok (.iastore, 1) := by decide +kernel
theorem dX5_send_17 : decode cX5_send 17 = .ok (.aload_n 0, 1) := by decide +kernel
theorem dX5_send_18 : decode cX5_send 18 = .ok (.getfield 50, 3) := by decide +kernel
theorem dX5_send_21 : decode cX5_send 21 = .ok (.iload 4, 2) := by decide +kernel
theorem dX5_send_23 : decode cX5_send 23 = .ok (.iload_n 2, 1) := by decide +kernel
theorem dX5_send_24 : decode cX5_send 24 = .ok (.iastore, 1) := by decide +kernel
theorem dX5_send_25 : decode cX5_send 25 = .ok (.aload_n 0, 1) := by decide +kernel
theorem dX5_send_26 : decode cX5_send 26 = .ok (.getfield 53, 3) := by decide +kernel
theorem dX5_send_29 : decode cX5_send 29 = .ok (.iload 4, 2) := by decide +kernel
theorem dX5_send_31 : decode cX5_send 31 = .ok (.iload_n 3, 1) := by decide +kernel
theorem dX5_send_32 : decode cX5_send 32 = .ok (.iastore, 1) := by decide +kernel
theorem dX5_send_33 : decode cX5_send 33 = .ok (.aload_n 0, 1) := by decide +kernel
theorem dX5_send_34 : decode cX5_send 34 = .ok (.getfield 56, 3) := by decide +kernel
theorem dX5_send_37 : decode cX5_send 37 = .ok (.iload 4, 2) := by decide +kernel
theorem dX5_send_39 : decode cX5_send 39 = .ok (.aload_n 0, 1) := by decide +kernel
theorem dX5_send_40 : decode cX5_send 40 = .ok (.getfield 69, 3) := by decide +kernel
theorem dX5_send_43 : decode cX5_send 43 = .ok (.iastore, 1) := by decide +kernel
theorem dX5_send_44 : decode cX5_send 44 = .ok (.aload_n 0, 1) := by decide +kernel
theorem dX5_send_45 : decode cX5_send 45 = .ok (.dup, 1) := by decide +kernel
theorem dX5_send_46 : decode cX5_send 46 = .ok (.getfield 72, 3) := by decide +kernel
theorem dX5_send_49 : decode cX5_send 49 = .ok (.iconst 1, 1) := by decide +kernel
theorem dX5_send_50 : decode cX5_send 50 = .ok (.iadd, 1) := by decide +kernel
theorem dX5_send_51 : decode cX5_send 51 = .ok (.putfield 72, 3) := by decide +kernel
theorem dX5_send_54 : decode cX5_send 54 = .ok (.return_, 1) := by decide +kernel
theorem dX5_asks_0 : decode cX5_asks 0 = .ok (.aload_n 0, 1) := by decide +kernel
theorem dX5_asks_1 : decode cX5_asks 1 = .ok (.getfield 22, 3) := by decide +kernel
theorem dX5_asks_4 : decode cX5_asks 4 = .ok (.iload_n 1, 1) := by decide +kernel
theorem dX5_asks_5 : decode cX5_asks 5 = .ok (.iaload, 1) := by decide +kernel
theorem dX5_asks_6 : decode cX5_asks 6 = .ok (.ifCond .ne 7, 3) := by decide +kernel
theorem dX5_asks_9 : decode cX5_asks 9 = .ok (.iconst 1, 1) := by decide +kernel
theorem dX5_asks_10 : decode cX5_asks 10 = .ok (.goto 4, 3) := by decide +kernel
theorem dX5_asks_13 : decode cX5_asks 13 = .ok (.iconst 0, 1) := by decide +kernel
theorem dX5_asks_14 : decode cX5_asks 14 = .ok (.ireturn, 1) := by decide +kernel
theorem dX5_ask_0 : decode cX5_ask 0 = .ok (.iload_n 3, 1) := by decide +kernel
theorem dX5_ask_1 : decode cX5_ask 1 = .ok (.ifCond .eq 30, 3) := by decide +kernel
theorem dX5_ask_4 : decode cX5_ask 4 = .ok (.aload_n 0, 1) := by decide +kernel
theorem dX5_ask_5 : decode cX5_ask 5 = .ok (.iload_n 1, 1) := by decide +kernel
theorem dX5_ask_6 : decode cX5_ask 6 = .ok (.invokevirtual 75, 3) := by decide +kernel
theorem dX5_ask_9 : decode cX5_ask 9 = .ok (.ifCond .eq 22, 3) := by decide +kernel
theorem dX5_ask_12 : decode cX5_ask 12 = .ok (.aload_n 0, 1) := by decide +kernel
theorem dX5_ask_13 : decode cX5_ask 13 = .ok (.iload_n 1, 1) := by decide +kernel
theorem dX5_ask_14 : decode cX5_ask 14 = .ok (.iload_n 2, 1) := by decide +kernel
theorem dX5_ask_15 : decode cX5_ask 15 = .ok (.iload_n 3, 1) := by decide +kernel
theorem dX5_ask_16 : decode cX5_ask 16 = .ok (.invokevirtual 79, 3) := by decide +kernel
theorem dX5_ask_19 : decode cX5_ask 19 = .ok (.aload_n 0, 1) := by decide +kernel
theorem dX5_ask_20 : decode cX5_ask 20 = .ok (.iload_n 1, 1) := by decide +kernel
theorem dX5_ask_21 : decode cX5_ask 21 = .ok (.bipush 8, 2) := by decide +kernel
theorem dX5_ask_23 : decode cX5_ask 23 = .ok (.iload_n 1, 1) := by decide +kernel
theorem dX5_ask_24 : decode cX5_ask 24 = .ok (.imul, 1) := by decide +kernel
theorem dX5_ask_25 : decode cX5_ask 25 = .ok (.iload_n 2, 1) := by decide +kernel
theorem dX5_ask_26 : decode cX5_ask 26 = .ok (.iadd, 1) := by decide +kernel
theorem dX5_ask_27 : decode cX5_ask 27 = .ok (.iload_n 3, 1) := by decide +kernel
theorem dX5_ask_28 : decode cX5_ask 28 = .ok (.invokevirtual 83, 3) := by decide +kernel
theorem dX5_ask_31 : decode cX5_ask 31 = .ok (.return_, 1) := by decide +kernel
theorem dX5_askGroup_0 : decode cX5_askGroup 0 = .ok (.aload_n 0, 1) := by decide +kernel
theorem dX5_askGroup_1 : decode cX5_askGroup 1 = .ok (.iload_n 1, 1) := by decide +kernel
theorem dX5_askGroup_2 : decode cX5_askGroup 2 = .ok (.invokevirtual 75, 3) := by decide +kernel
theorem dX5_askGroup_5 : decode cX5_askGroup 5 = .ok (.ifCond .eq 21, 3) := by decide +kernel
theorem dX5_askGroup_8 : decode cX5_askGroup 8 = .ok (.aload_n 0, 1) := by decide +kernel
theorem dX5_askGroup_9 : decode cX5_askGroup 9 = .ok (.iload_n 1, 1) := by decide +kernel
theorem dX5_askGroup_10 : decode cX5_askGroup 10 = .ok (.iload_n 2, 1) := by decide +kernel
theorem dX5_askGroup_11 : decode cX5_askGroup 11 = .ok (.iconst 0, 1) := by decide +kernel
theorem dX5_askGroup_12 : decode cX5_askGroup 12 = .ok (.invokevirtual 79, 3) := by decide +kernel
theorem dX5_askGroup_15 : decode cX5_askGroup 15 = .ok (.aload_n 0, 1) := by decide +kernel
theorem dX5_askGroup_16 : decode cX5_askGroup 16 = .ok (.iload_n 1, 1) := by decide +kernel
theorem dX5_askGroup_17 : decode cX5_askGroup 17 = .ok (.bipush 8, 2) := by decide +kernel
theorem dX5_askGroup_19 : decode cX5_askGroup 19 = .ok (.iload_n 1, 1) := by decide +kernel
theorem dX5_askGroup_20 : decode cX5_askGroup 20 = .ok (.imul, 1) := by decide +kernel
theorem dX5_askGroup_21 : decode cX5_askGroup 21 = .ok (.iload_n 2, 1) := by decide +kernel
theorem dX5_askGroup_22 : decode cX5_askGroup 22 = .ok (.iadd, 1) := by decide +kernel
theorem dX5_askGroup_23 : decode cX5_askGroup 23 = .ok (.invokevirtual 86, 3) := by decide +kernel
theorem dX5_askGroup_26 : decode cX5_askGroup 26 = .ok (.return_, 1) := by decide +kernel
theorem dX5_including_0 : decode cX5_including 0 = .ok (.bipush 8, 2) := by decide +kernel
theorem dX5_including_2 : decode cX5_including 2 = .ok (.iload_n 1, 1) := by decide +kernel
theorem dX5_including_3 : decode cX5_including 3 = .ok (.imul, 1) := by decide +kernel
theorem dX5_including_4 : decode cX5_including 4 = .ok (.iload_n 2, 1) := by decide +kernel
theorem dX5_including_5 : decode cX5_including 5 = .ok (.iadd, 1) := by decide +kernel
theorem dX5_including_6 : decode cX5_including 6 = .ok (.istore 5, 2) := by decide +kernel
theorem dX5_including_8 : decode cX5_including 8 = .ok (.aload_n 0, 1) := by decide +kernel
theorem dX5_including_9 : decode cX5_including 9 = .ok (.iload 5, 2) := by decide +kernel
theorem dX5_including_11 : decode cX5_including 11 = .ok (.iconst 1, 1) := by decide +kernel
theorem dX5_including_12 : decode cX5_including 12 = .ok (.invokevirtual 90, 3) := by decide +kernel
theorem dX5_including_15 : decode cX5_including 15 = .ok (.istore 6, 2) := by decide +kernel
theorem dX5_including_17 : decode cX5_including 17 = .ok (.iload_n 3, 1) := by decide +kernel
theorem dX5_including_18 : decode cX5_including 18 = .ok (.ifCond .eq 13, 3) := by decide +kernel
theorem dX5_including_21 : decode cX5_including 21 = .ok (.iload_n 3, 1) := by decide +kernel
theorem dX5_including_22 : decode cX5_including 22 = .ok (.iconst 4, 1) := by decide +kernel
theorem dX5_including_23 : decode cX5_including 23 = .ok (.if_icmp .eq 8, 3) := by decide +kernel
theorem dX5_including_26 : decode cX5_including 26 = .ok (.iload_n 3, 1) := by decide +kernel
theorem dX5_including_27 : decode cX5_including 27 = .ok (.iconst 2, 1) := by decide +kernel
theorem dX5_including_28 : decode cX5_including 28 = .ok (.if_icmp .ne 32, 3) := by decide +kernel
theorem dX5_including_31 : decode cX5_including 31 = .ok (.aload_n 0, 1) := by decide +kernel
theorem dX5_including_32 : decode cX5_including 32 = .ok (.iload 5, 2) := by decide +kernel
theorem dX5_including_34 : decode cX5_including 34 = .ok (.iconst 0, 1) := by decide +kernel
theorem dX5_including_35 : decode cX5_including 35 = .ok (.iload 6, 2) := by decide +kernel
theorem dX5_including_37 : decode cX5_including 37 = .ok (.iload 4, 2) := by decide +kernel
theorem dX5_including_39 : decode cX5_including 39 = .ok (.ior, 1) := by decide +kernel
theorem dX5_including_40 : decode cX5_including 40 = .ok (.iconst 0, 1) := by decide +kernel
theorem dX5_including_41 : decode cX5_including 41 = .ok (.invokevirtual 94, 3) := by decide +kernel
theorem dX5_including_44 : decode cX5_including 44 = .ok (.aload_n 0, 1) := by decide +kernel
theorem dX5_including_45 : decode cX5_including 45 = .ok (.iload 5, 2) := by decide +kernel
theorem dX5_including_47 : decode cX5_including 47 = .ok (.iload 4, 2) := by decide +kernel
theorem dX5_including_49 : decode cX5_including 49 = .ok (.aload_n 0, 1) := by decide +kernel
theorem dX5_including_50 : decode cX5_including 50 = .ok (.iload_n 1, 1) := by decide +kernel
theorem dX5_including_51 : decode cX5_including 51 = .ok (.invokevirtual 98, 3) := by decide +kernel
theorem dX5_including_54 : decode cX5_including 54 = .ok (.invokevirtual 102, 3) := by decide +kernel
theorem dX5_including_57 : decode cX5_including 57 = .ok (.goto 44, 3) := by decide +kernel
theorem dX5_including_60 : decode cX5_including 60 = .ok (.iload_n 3, 1) := by decide +kernel
theorem dX5_including_61 : decode cX5_including 61 = .ok (.iconst 1, 1) := by decide +kernel
theorem dX5_including_62 : decode cX5_including 62 = .ok (.if_icmp .eq 8, 3) := by decide +kernel
theorem dX5_including_65 : decode cX5_including 65 = .ok (.iload_n 3, 1) := by decide +kernel
theorem dX5_including_66 : decode cX5_including 66 = .ok (.iconst 3, 1) := by decide +kernel
theorem dX5_including_67 : decode cX5_including 67 = .ok (.if_icmp .ne 34, 3) := by decide +kernel
theorem dX5_including_70 : decode cX5_including 70 = .ok (.aload_n 0, 1) := by decide +kernel
theorem dX5_including_71 : decode cX5_including 71 = .ok (.iload 5, 2) := by decide +kernel
theorem dX5_including_73 : decode cX5_including 73 = .ok (.iconst 1, 1) := by decide +kernel
theorem dX5_including_74 : decode cX5_including 74 = .ok (.iload 6, 2) := by decide +kernel
theorem dX5_including_76 : decode cX5_including 76 = .ok (.iload 4, 2) := by decide +kernel
theorem dX5_including_78 : decode cX5_including 78 = .ok (.iand, 1) := by decide +kernel
theorem dX5_including_79 : decode cX5_including 79 = .ok (.iload 4, 2) := by decide +kernel
theorem dX5_including_81 : decode cX5_including 81 = .ok (.iload 6, 2) := by decide +kernel
theorem dX5_including_83 : decode cX5_including 83 = .ok (.iconst (-1), 1) := by decide +kernel
theorem dX5_including_84 : decode cX5_including 84 = .ok (.ixor, 1) := by decide +kernel
theorem dX5_including_85 : decode cX5_including 85 = .ok (.iand, 1) := by decide +kernel
theorem dX5_including_86 : decode cX5_including 86 = .ok (.invokevirtual 94, 3) := by decide +kernel
theorem dX5_including_89 : decode cX5_including 89 = .ok (.aload_n 0, 1) := by decide +kernel
theorem dX5_including_90 : decode cX5_including 90 = .ok (.getfield 31, 3) := by decide +kernel
theorem dX5_including_93 : decode cX5_including 93 = .ok (.iload 5, 2) := by decide +kernel
theorem dX5_including_95 : decode cX5_including 95 = .ok (.aload_n 0, 1) := by decide +kernel
theorem dX5_including_96 : decode cX5_including 96 = .ok (.iload_n 1, 1) := by decide +kernel
theorem dX5_including_97 : decode cX5_including 97 = .ok (.invokevirtual 98, 3) := by decide +kernel
theorem dX5_including_100 : decode cX5_including 100 = .ok (.iastore, 1) := by decide +kernel
theorem dX5_including_101 : decode cX5_including 101 = .ok (.iload_n 3, 1) := by decide +kernel
theorem dX5_including_102 : decode cX5_including 102 = .ok (.iconst 2, 1) := by decide +kernel
theorem dX5_including_103 : decode cX5_including 103 = .ok (.if_icmp .ne 19, 3) := by decide +kernel
theorem dX5_including_106 : decode cX5_including 106 = .ok (.aload_n 0, 1) := by decide +kernel
theorem dX5_including_107 : decode cX5_including 107 = .ok (.iload_n 1, 1) := by decide +kernel
theorem dX5_including_108 : decode cX5_including 108 = .ok (.iload_n 2, 1) := by decide +kernel
theorem dX5_including_109 : decode cX5_including 109 = .ok (.iload 6, 2) := by decide +kernel
theorem dX5_including_111 : decode cX5_including 111 = .ok (.iload 4, 2) := by decide +kernel
theorem dX5_including_113 : decode cX5_including 113 = .ok (.iconst (-1), 1) := by decide +kernel
theorem dX5_including_114 : decode cX5_including 114 = .ok (.ixor, 1) := by decide +kernel
theorem dX5_including_115 : decode cX5_including 115 = .ok (.iand, 1) := by decide +kernel
theorem dX5_including_116 : decode cX5_including 116 = .ok (.invokevirtual 105, 3) := by decide +kernel
theorem dX5_including_119 : decode cX5_including 119 = .ok (.goto 24, 3) := by decide +kernel
theorem dX5_including_122 : decode cX5_including 122 = .ok (.iload_n 3, 1) := by decide +kernel
theorem dX5_including_123 : decode cX5_including 123 = .ok (.iconst 3, 1) := by decide +kernel
theorem dX5_including_124 : decode cX5_including 124 = .ok (.if_icmp .eq 8, 3) := by decide +kernel
theorem dX5_including_127 : decode cX5_including 127 = .ok (.iload_n 3, 1) := by decide +kernel
theorem dX5_including_128 : decode cX5_including 128 = .ok (.iconst 5, 1) := by decide +kernel
theorem dX5_including_129 : decode cX5_including 129 = .ok (.if_icmp .ne 14, 3) := by decide +kernel
theorem dX5_including_132 : decode cX5_including 132 = .ok (.aload_n 0, 1) := by decide +kernel
theorem dX5_including_133 : decode cX5_including 133 = .ok (.iload_n 1, 1) := by decide +kernel
theorem dX5_including_134 : decode cX5_including 134 = .ok (.iload_n 2, 1) := by decide +kernel
theorem dX5_including_135 : decode cX5_including 135 = .ok (.iload 6, 2) := by decide +kernel
theorem dX5_including_137 : decode cX5_including 137 = .ok (.iload 4, 2) := by decide +kernel
theorem dX5_including_139 : decode cX5_including 139 = .ok (.iand, 1) := by decide +kernel
theorem dX5_including_140 : decode cX5_including 140 = .ok (.invokevirtual 105, 3) := by decide +kernel
theorem dX5_including_143 : decode cX5_including 143 = .ok (.return_, 1) := by decide +kernel
theorem dX5_excluding_0 : decode cX5_excluding 0 = .ok (.bipush 8, 2) := by decide +kernel
theorem dX5_excluding_2 : decode cX5_excluding 2 = .ok (.iload_n 1, 1) := by decide +kernel
theorem dX5_excluding_3 : decode cX5_excluding 3 = .ok (.imul, 1) := by decide +kernel
theorem dX5_excluding_4 : decode cX5_excluding 4 = .ok (.iload_n 2, 1) := by decide +kernel
theorem dX5_excluding_5 : decode cX5_excluding 5 = .ok (.iadd, 1) := by decide +kernel
theorem dX5_excluding_6 : decode cX5_excluding 6 = .ok (.istore 5, 2) := by decide +kernel
theorem dX5_excluding_8 : decode cX5_excluding 8 = .ok (.aload_n 0, 1) := by decide +kernel
theorem dX5_excluding_9 : decode cX5_excluding 9 = .ok (.iload 5, 2) := by decide +kernel
theorem dX5_excluding_11 : decode cX5_excluding 11 = .ok (.iconst 1, 1) := by decide +kernel
theorem dX5_excluding_12 : decode cX5_excluding 12 = .ok (.invokevirtual 90, 3) := by decide +kernel
theorem dX5_excluding_15 : decode cX5_excluding 15 = .ok (.istore 6, 2) := by decide +kernel
theorem dX5_excluding_17 : decode cX5_excluding 17 = .ok (.aload_n 0, 1) := by decide +kernel
theorem dX5_excluding_18 : decode cX5_excluding 18 = .ok (.iload 5, 2) := by decide +kernel
theorem dX5_excluding_20 : decode cX5_excluding 20 = .ok (.iconst 2, 1) := by decide +kernel
theorem dX5_excluding_21 : decode cX5_excluding 21 = .ok (.invokevirtual 90, 3) := by decide +kernel
theorem dX5_excluding_24 : decode cX5_excluding 24 = .ok (.istore 7, 2) := by decide +kernel
theorem dX5_excluding_26 : decode cX5_excluding 26 = .ok (.iload 4, 2) := by decide +kernel
theorem dX5_excluding_28 : decode cX5_excluding 28 = .ok (.iload 6, 2) := by decide +kernel
theorem dX5_excluding_30 : decode cX5_excluding 30 = .ok (.iconst (-1), 1) := by decide +kernel
theorem dX5_excluding_31 : decode cX5_excluding 31 = .ok (.ixor, 1) := by decide +kernel
theorem dX5_excluding_32 : decode cX5_excluding 32 = .ok (.iand, 1) := by decide +kernel
theorem dX5_excluding_33 : decode cX5_excluding 33 = .ok (.iload 7, 2) := by decide +kernel
theorem dX5_excluding_35 : decode cX5_excluding 35 = .ok (.iconst (-1), 1) := by decide +kernel
theorem dX5_excluding_36 : decode cX5_excluding 36 = .ok (.ixor, 1) := by decide +kernel
theorem dX5_excluding_37 : decode cX5_excluding 37 = .ok (.iand, 1) := by decide +kernel
theorem dX5_excluding_38 : decode cX5_excluding 38 = .ok (.istore 8, 2) := by decide +kernel
theorem dX5_excluding_40 : decode cX5_excluding 40 = .ok (.aload_n 0, 1) := by decide +kernel
theorem dX5_excluding_41 : decode cX5_excluding 41 = .ok (.getfield 31, 3) := by decide +kernel
theorem dX5_excluding_44 : decode cX5_excluding 44 = .ok (.iload 5, 2) := by decide +kernel
theorem dX5_excluding_46 : decode cX5_excluding 46 = .ok (.iaload, 1) := by decide +kernel
theorem dX5_excluding_47 : decode cX5_excluding 47 = .ok (.istore 9, 2) := by decide +kernel
theorem dX5_excluding_49 : decode cX5_excluding 49 = .ok (.iload_n 3, 1) := by decide +kernel
theorem dX5_excluding_50 : decode cX5_excluding 50 = .ok (.ifCond .eq 13, 3) := by decide +kernel
theorem dX5_excluding_53 : decode cX5_excluding 53 = .ok (.iload_n 3, 1) := by decide +kernel
theorem dX5_excluding_54 : decode cX5_excluding 54 = .ok (.iconst 4, 1) := by decide +kernel
theorem dX5_excluding_55 : decode cX5_excluding 55 = .ok (.if_icmp .eq 8, 3) := by decide +kernel
theorem dX5_excluding_58 : decode cX5_excluding 58 = .ok (.iload_n 3, 1) := by decide +kernel
theorem dX5_excluding_59 : decode cX5_excluding 59 = .ok (.iconst 2, 1) := by decide +kernel
theorem dX5_excluding_60 : decode cX5_excluding 60 = .ok (.if_icmp .ne 38, 3) := by decide +kernel
theorem dX5_excluding_63 : decode cX5_excluding 63 = .ok (.aload_n 0, 1) := by decide +kernel
theorem dX5_excluding_64 : decode cX5_excluding 64 = .ok (.iload 5, 2) := by decide +kernel
theorem dX5_excluding_66 : decode cX5_excluding 66 = .ok (.iconst 1, 1) := by decide +kernel
theorem dX5_excluding_67 : decode cX5_excluding 67 = .ok (.iload 6, 2) := by decide +kernel
theorem dX5_excluding_69 : decode cX5_excluding 69 = .ok (.iload 4, 2) := by decide +kernel
theorem dX5_excluding_71 : decode cX5_excluding 71 = .ok (.ior, 1) := by decide +kernel
theorem dX5_excluding_72 : decode cX5_excluding 72 = .ok (.iload 7, 2) := by decide +kernel
theorem dX5_excluding_74 : decode cX5_excluding 74 = .ok (.iload 4, 2) := by decide +kernel
theorem dX5_excluding_76 : decode cX5_excluding 76 = .ok (.iconst (-1), 1) := by decide +kernel
theorem dX5_excluding_77 : decode cX5_excluding 77 = .ok (.ixor, 1) := by decide +kernel
theorem dX5_excluding_78 : decode cX5_excluding 78 = .ok (.iand, 1) := by decide +kernel
theorem dX5_excluding_79 : decode cX5_excluding 79 = .ok (.invokevirtual 94, 3) := by decide +kernel
theorem dX5_excluding_82 : decode cX5_excluding 82 = .ok (.aload_n 0, 1) := by decide +kernel
theorem dX5_excluding_83 : decode cX5_excluding 83 = .ok (.iload 5, 2) := by decide +kernel
theorem dX5_excluding_85 : decode cX5_excluding 85 = .ok (.iload 4, 2) := by decide +kernel
theorem dX5_excluding_87 : decode cX5_excluding 87 = .ok (.aload_n 0, 1) := by decide +kernel
theorem dX5_excluding_88 : decode cX5_excluding 88 = .ok (.iload_n 1, 1) := by decide +kernel
theorem dX5_excluding_89 : decode cX5_excluding 89 = .ok (.invokevirtual 98, 3) := by decide +kernel
theorem dX5_excluding_92 : decode cX5_excluding 92 = .ok (.invokevirtual 102, 3) := by decide +kernel
theorem dX5_excluding_95 : decode cX5_excluding 95 = .ok (.goto 94, 3) := by decide +kernel
theorem dX5_excluding_98 : decode cX5_excluding 98 = .ok (.iload_n 3, 1) := by decide +kernel
theorem dX5_excluding_99 : decode cX5_excluding 99 = .ok (.iconst 5, 1) := by decide +kernel
theorem dX5_excluding_100 : decode cX5_excluding 100 = .ok (.if_icmp .ne 35, 3) := by decide +kernel
theorem dX5_excluding_103 : decode cX5_excluding 103 = .ok (.aload_n 0, 1) := by decide +kernel
theorem dX5_excluding_104 : decode cX5_excluding 104 = .ok (.iload 5, 2) := by decide +kernel
theorem dX5_excluding_106 : decode cX5_excluding 106 = .ok (.iconst 1, 1) := by decide +kernel
theorem dX5_excluding_107 : decode cX5_excluding 107 = .ok (.iload 6, 2) := by decide +kernel
theorem dX5_excluding_109 : decode cX5_excluding 109 = .ok (.iload 4, 2) := by decide +kernel
theorem dX5_excluding_111 : decode cX5_excluding 111 = .ok (.iload 7, 2) := by decide +kernel
theorem dX5_excluding_113 : decode cX5_excluding 113 = .ok (.iconst (-1), 1) := by decide +kernel
theorem dX5_excluding_114 : decode cX5_excluding 114 = .ok (.ixor, 1) := by decide +kernel
theorem dX5_excluding_115 : decode cX5_excluding 115 = .ok (.iand, 1) := by decide +kernel
theorem dX5_excluding_116 : decode cX5_excluding 116 = .ok (.ior, 1) := by decide +kernel
theorem dX5_excluding_117 : decode cX5_excluding 117 = .ok (.iload 7, 2) := by decide +kernel
theorem dX5_excluding_119 : decode cX5_excluding 119 = .ok (.invokevirtual 94, 3) := by decide +kernel
theorem dX5_excluding_122 : decode cX5_excluding 122 = .ok (.aload_n 0, 1) := by decide +kernel
theorem dX5_excluding_123 : decode cX5_excluding 123 = .ok (.iload 5, 2) := by decide +kernel
theorem dX5_excluding_125 : decode cX5_excluding 125 = .ok (.iload 8, 2) := by decide +kernel
theorem dX5_excluding_127 : decode cX5_excluding 127 = .ok (.iload 9, 2) := by decide +kernel
theorem dX5_excluding_129 : decode cX5_excluding 129 = .ok (.invokevirtual 102, 3) := by decide +kernel
theorem dX5_excluding_132 : decode cX5_excluding 132 = .ok (.goto 57, 3) := by decide +kernel
theorem dX5_excluding_135 : decode cX5_excluding 135 = .ok (.aload_n 0, 1) := by decide +kernel
theorem dX5_excluding_136 : decode cX5_excluding 136 = .ok (.iload 5, 2) := by decide +kernel
theorem dX5_excluding_138 : decode cX5_excluding 138 = .ok (.iconst 1, 1) := by decide +kernel
theorem dX5_excluding_139 : decode cX5_excluding 139 = .ok (.iload 4, 2) := by decide +kernel
theorem dX5_excluding_141 : decode cX5_excluding 141 = .ok (.iload 7, 2) := by decide +kernel
theorem dX5_excluding_143 : decode cX5_excluding 143 = .ok (.iconst (-1), 1) := by decide +kernel
theorem dX5_excluding_144 : decode cX5_excluding 144 = .ok (.ixor, 1) := by decide +kernel
theorem dX5_excluding_145 : decode cX5_excluding 145 = .ok (.iand, 1) := by decide +kernel
theorem dX5_excluding_146 : decode cX5_excluding 146 = .ok (.iload 7, 2) := by decide +kernel
theorem dX5_excluding_148 : decode cX5_excluding 148 = .ok (.iload 4, 2) := by decide +kernel
theorem dX5_excluding_150 : decode cX5_excluding 150 = .ok (.iand, 1) := by decide +kernel
theorem dX5_excluding_151 : decode cX5_excluding 151 = .ok (.invokevirtual 94, 3) := by decide +kernel
theorem dX5_excluding_154 : decode cX5_excluding 154 = .ok (.aload_n 0, 1) := by decide +kernel
theorem dX5_excluding_155 : decode cX5_excluding 155 = .ok (.iload 5, 2) := by decide +kernel
theorem dX5_excluding_157 : decode cX5_excluding 157 = .ok (.iload 8, 2) := by decide +kernel
theorem dX5_excluding_159 : decode cX5_excluding 159 = .ok (.iload_n 3, 1) := by decide +kernel
theorem dX5_excluding_160 : decode cX5_excluding 160 = .ok (.iconst 1, 1) := by decide +kernel
theorem dX5_excluding_161 : decode cX5_excluding 161 = .ok (.if_icmp .ne 11, 3) := by decide +kernel
theorem dX5_excluding_164 : decode cX5_excluding 164 = .ok (.aload_n 0, 1) := by decide +kernel
theorem dX5_excluding_165 : decode cX5_excluding 165 = .ok (.iload_n 1, 1) := by decide +kernel
theorem dX5_excluding_166 : decode cX5_excluding 166 = .ok (.invokevirtual 98, 3) := by decide +kernel
theorem dX5_excluding_169 : decode cX5_excluding 169 = .ok (.goto 5, 3) := by decide +kernel
theorem dX5_excluding_172 : decode cX5_excluding 172 = .ok (.iload 9, 2) := by decide +kernel
theorem dX5_excluding_174 : decode cX5_excluding 174 = .ok (.invokevirtual 102, 3) := by decide +kernel
theorem dX5_excluding_177 : decode cX5_excluding 177 = .ok (.aload_n 0, 1) := by decide +kernel
theorem dX5_excluding_178 : decode cX5_excluding 178 = .ok (.getfield 31, 3) := by decide +kernel
theorem dX5_excluding_181 : decode cX5_excluding 181 = .ok (.iload 5, 2) := by decide +kernel
theorem dX5_excluding_183 : decode cX5_excluding 183 = .ok (.aload_n 0, 1) := by decide +kernel
theorem dX5_excluding_184 : decode cX5_excluding 184 = .ok (.iload_n 1, 1) := by decide +kernel
theorem dX5_excluding_185 : decode cX5_excluding 185 = .ok (.invokevirtual 98, 3) := by decide +kernel
theorem dX5_excluding_188 : decode cX5_excluding 188 = .ok (.iastore, 1) := by decide +kernel
theorem dX5_excluding_189 : decode cX5_excluding 189 = .ok (.iload_n 3, 1) := by decide +kernel
theorem dX5_excluding_190 : decode cX5_excluding 190 = .ok (.iconst 2, 1) := by decide +kernel
theorem dX5_excluding_191 : decode cX5_excluding 191 = .ok (.if_icmp .ne 25, 3) := by decide +kernel
theorem dX5_excluding_194 : decode cX5_excluding 194 = .ok (.aload_n 0, 1) := by decide +kernel
theorem dX5_excluding_195 : decode cX5_excluding 195 = .ok (.iload_n 1, 1) := by decide +kernel
theorem dX5_excluding_196 : decode cX5_excluding 196 = .ok (.iload_n 2, 1) := by decide +kernel
theorem dX5_excluding_197 : decode cX5_excluding 197 = .ok (.iload 6, 2) := by decide +kernel
theorem dX5_excluding_199 : decode cX5_excluding 199 = .ok (.iload 4, 2) := by decide +kernel
theorem dX5_excluding_201 : decode cX5_excluding 201 = .ok (.iconst (-1), 1) := by decide +kernel
theorem dX5_excluding_202 : decode cX5_excluding 202 = .ok (.ixor, 1) := by decide +kernel
theorem dX5_excluding_203 : decode cX5_excluding 203 = .ok (.iand, 1) := by decide +kernel
theorem dX5_excluding_204 : decode cX5_excluding 204 = .ok (.invokevirtual 105, 3) := by decide +kernel
theorem dX5_excluding_207 : decode cX5_excluding 207 = .ok (.aload_n 0, 1) := by decide +kernel
theorem dX5_excluding_208 : decode cX5_excluding 208 = .ok (.iload_n 1, 1) := by decide +kernel
theorem dX5_excluding_209 : decode cX5_excluding 209 = .ok (.iload_n 2, 1) := by decide +kernel
theorem dX5_excluding_210 : decode cX5_excluding 210 = .ok (.invokevirtual 108, 3) := by decide +kernel
theorem dX5_excluding_213 : decode cX5_excluding 213 = .ok (.goto 26, 3) := by decide +kernel
theorem dX5_excluding_216 : decode cX5_excluding 216 = .ok (.iload_n 3, 1) := by decide +kernel
theorem dX5_excluding_217 : decode cX5_excluding 217 = .ok (.iconst 3, 1) := by decide +kernel
theorem dX5_excluding_218 : decode cX5_excluding 218 = .ok (.if_icmp .eq 8, 3) := by decide +kernel
theorem dX5_excluding_221 : decode cX5_excluding 221 = .ok (.iload_n 3, 1) := by decide +kernel
theorem dX5_excluding_222 : decode cX5_excluding 222 = .ok (.iconst 5, 1) := by decide +kernel
theorem dX5_excluding_223 : decode cX5_excluding 223 = .ok (.if_icmp .ne 16, 3) := by decide +kernel
theorem dX5_excluding_226 : decode cX5_excluding 226 = .ok (.aload_n 0, 1) := by decide +kernel
theorem dX5_excluding_227 : decode cX5_excluding 227 = .ok (.iload_n 1, 1) := by decide +kernel
theorem dX5_excluding_228 : decode cX5_excluding 228 = .ok (.iload_n 2, 1) := by decide +kernel
theorem dX5_excluding_229 : decode cX5_excluding 229 = .ok (.iload 4, 2) := by decide +kernel
theorem dX5_excluding_231 : decode cX5_excluding 231 = .ok (.iload 7, 2) := by decide +kernel
theorem dX5_excluding_233 : decode cX5_excluding 233 = .ok (.iconst (-1), 1) := by decide +kernel
theorem dX5_excluding_234 : decode cX5_excluding 234 = .ok (.ixor, 1) := by decide +kernel
theorem dX5_excluding_235 : decode cX5_excluding 235 = .ok (.iand, 1) := by decide +kernel
theorem dX5_excluding_236 : decode cX5_excluding 236 = .ok (.invokevirtual 105, 3) := by decide +kernel
theorem dX5_excluding_239 : decode cX5_excluding 239 = .ok (.return_, 1) := by decide +kernel
theorem dX5_reported_0 : decode cX5_reported 0 = .ok (.aload_n 0, 1) := by decide +kernel
theorem dX5_reported_1 : decode cX5_reported 1 = .ok (.getfield 72, 3) := by decide +kernel
theorem dX5_reported_4 : decode cX5_reported 4 = .ok (.istore 5, 2) := by decide +kernel
theorem dX5_reported_6 : decode cX5_reported 6 = .ok (.aload_n 0, 1) := by decide +kernel
theorem dX5_reported_7 : decode cX5_reported 7 = .ok (.getfield 28, 3) := by decide +kernel
theorem dX5_reported_10 : decode cX5_reported 10 = .ok (.bipush 8, 2) := by decide +kernel
theorem dX5_reported_12 : decode cX5_reported 12 = .ok (.iload_n 1, 1) := by decide +kernel
theorem dX5_reported_13 : decode cX5_reported 13 = .ok (.imul, 1) := by decide +kernel
theorem dX5_reported_14 : decode cX5_reported 14 = .ok (.iload_n 2, 1) := by decide +kernel
theorem dX5_reported_15 : decode cX5_reported 15 = .ok (.iadd, 1) := by decide +kernel
theorem dX5_reported_16 : decode cX5_reported 16 = .ok (.iaload, 1) := by decide +kernel
theorem dX5_reported_17 : decode cX5_reported 17 = .ok (.iconst 1, 1) := by decide +kernel
theorem dX5_reported_18 : decode cX5_reported 18 = .ok (.if_icmp .ne 15, 3) := by decide +kernel
theorem dX5_reported_21 : decode cX5_reported 21 = .ok (.aload_n 0, 1) := by decide +kernel
theorem dX5_reported_22 : decode cX5_reported 22 = .ok (.iload_n 1, 1) := by decide +kernel
theorem dX5_reported_23 : decode cX5_reported 23 = .ok (.iload_n 2, 1) := by decide +kernel
theorem dX5_reported_24 : decode cX5_reported 24 = .ok (.iload_n 3, 1) := by decide +kernel
theorem dX5_reported_25 : decode cX5_reported 25 = .ok (.iload 4, 2) := by decide +kernel
theorem dX5_reported_27 : decode cX5_reported 27 = .ok (.invokevirtual 111, 3) := by decide +kernel
theorem dX5_reported_30 : decode cX5_reported 30 = .ok (.goto 12, 3) := by decide +kernel
theorem dX5_reported_33 : decode cX5_reported 33 = .ok (.aload_n 0, 1) := by decide +kernel
theorem dX5_reported_34 : decode cX5_reported 34 = .ok (.iload_n 1, 1) := by decide +kernel
theorem dX5_reported_35 : decode cX5_reported 35 = .ok (.iload_n 2, 1) := by decide +kernel
theorem dX5_reported_36 : decode cX5_reported 36 = .ok (.iload_n 3, 1) := by decide +kernel
theorem dX5_reported_37 : decode cX5_reported 37 = .ok (.iload 4, 2) := by decide +kernel
theorem dX5_reported_39 : decode cX5_reported 39 = .ok (.invokevirtual 114, 3) := by decide +kernel
theorem dX5_reported_42 : decode cX5_reported 42 = .ok (.aload_n 0, 1) := by decide +kernel
theorem dX5_reported_43 : decode cX5_reported 43 = .ok (.getfield 72, 3) := by decide +kernel
theorem dX5_reported_46 : decode cX5_reported 46 = .ok (.iload 5, 2) := by decide +kernel
theorem dX5_reported_48 : decode cX5_reported 48 = .ok (.isub, 1) := by decide +kernel
theorem dX5_reported_49 : decode cX5_reported 49 = .ok (.ireturn, 1) := by decide +kernel
theorem dX5_settings_0 : decode cX5_settings 0 = .ok (.aload_n 0, 1) := by decide +kernel
theorem dX5_settings_1 : decode cX5_settings 1 = .ok (.aload_n 0, 1) := by decide +kernel
theorem dX5_settings_2 : decode cX5_settings 2 = .ok (.iload_n 1, 1) := by decide +kernel
theorem dX5_settings_3 : decode cX5_settings 3 = .ok (.invokevirtual 117, 3) := by decide +kernel
theorem dX5_settings_6 : decode cX5_settings 6 = .ok (.ifCond .ne 7, 3) := by decide +kernel
theorem dX5_settings_9 : decode cX5_settings 9 = .ok (.iconst 1, 1) := by decide +kernel
theorem dX5_settings_10 : decode cX5_settings 10 = .ok (.goto 39, 3) := by decide +kernel
theorem dX5_settings_13 : decode cX5_settings 13 = .ok (.iload_n 2, 1) := by decide +kernel
theorem dX5_settings_14 : decode cX5_settings 14 = .ok (.iconst 1, 1) := by decide +kernel
theorem dX5_settings_15 : decode cX5_settings 15 = .ok (.bipush 7, 2) := by decide +kernel
theorem dX5_settings_17 : decode cX5_settings 17 = .ok (.invokestatic 120, 3) := by decide +kernel
theorem dX5_settings_20 : decode cX5_settings 20 = .ok (.ifCond .eq 28, 3) := by decide +kernel
theorem dX5_settings_23 : decode cX5_settings 23 = .ok (.iload_n 3, 1) := by decide +kernel
theorem dX5_settings_24 : decode cX5_settings 24 = .ok (.iconst 1, 1) := by decide +kernel
theorem dX5_settings_25 : decode cX5_settings 25 = .ok (.sipush 200, 3) := by decide +kernel
theorem dX5_settings_28 : decode cX5_settings 28 = .ok (.invokestatic 120, 3) := by decide +kernel
theorem dX5_settings_31 : decode cX5_settings 31 = .ok (.ifCond .eq 17, 3) := by decide +kernel
theorem dX5_settings_34 : decode cX5_settings 34 = .ok (.iload 4, 2) := by decide +kernel
theorem dX5_settings_36 : decode cX5_settings 36 = .ok (.iconst 1, 1) := by decide +kernel
theorem dX5_settings_37 : decode cX5_settings 37 = .ok (.iload_n 3, 1) := by decide +kernel
theorem dX5_settings_38 : decode cX5_settings 38 = .ok (.invokestatic 120, 3) := by decide +kernel
theorem dX5_settings_41 : decode cX5_settings 41 = .ok (.ifCond .eq 7, 3) := by decide +kernel
theorem dX5_settings_44 : decode cX5_settings 44 = .ok (.iconst 0, 1) := by decide +kernel
theorem dX5_settings_45 : decode cX5_settings 45 = .ok (.goto 4, 3) := by decide +kernel
theorem dX5_settings_48 : decode cX5_settings 48 = .ok (.iconst 2, 1) := by decide +kernel
theorem dX5_settings_49 : decode cX5_settings 49 = .ok (.putfield 66, 3) := by decide +kernel
theorem dX5_settings_52 : decode cX5_settings 52 = .ok (.aload_n 0, 1) := by decide +kernel
theorem dX5_settings_53 : decode cX5_settings 53 = .ok (.getfield 66, 3) := by decide +kernel
theorem dX5_settings_56 : decode cX5_settings 56 = .ok (.ifCond .le 5, 3) := by decide +kernel
theorem dX5_settings_59 : decode cX5_settings 59 = .ok (.iconst 0, 1) := by decide +kernel
theorem dX5_settings_60 : decode cX5_settings 60 = .ok (.ireturn, 1) := by decide +kernel
theorem dX5_settings_61 : decode cX5_settings 61 = .ok (.aload_n 0, 1) := by decide +kernel
theorem dX5_settings_62 : decode cX5_settings 62 = .ok (.getfield 7, 3) := by decide +kernel
theorem dX5_settings_65 : decode cX5_settings 65 = .ok (.iload_n 1, 1) := by decide +kernel
theorem dX5_settings_66 : decode cX5_settings 66 = .ok (.iload_n 2, 1) := by decide +kernel
theorem dX5_settings_67 : decode cX5_settings 67 = .ok (.iastore, 1) := by decide +kernel
theorem dX5_settings_68 : decode cX5_settings 68 = .ok (.aload_n 0, 1) := by decide +kernel
theorem dX5_settings_69 : decode cX5_settings 69 = .ok (.getfield 13, 3) := by decide +kernel
theorem dX5_settings_72 : decode cX5_settings 72 = .ok (.iload_n 1, 1) := by decide +kernel
theorem dX5_settings_73 : decode cX5_settings 73 = .ok (.iload_n 3, 1) := by decide +kernel
theorem dX5_settings_74 : decode cX5_settings 74 = .ok (.iastore, 1) := by decide +kernel
theorem dX5_settings_75 : decode cX5_settings 75 = .ok (.aload_n 0, 1) := by decide +kernel
theorem dX5_settings_76 : decode cX5_settings 76 = .ok (.getfield 16, 3) := by decide +kernel
theorem dX5_settings_79 : decode cX5_settings 79 = .ok (.iload_n 1, 1) := by decide +kernel
theorem dX5_settings_80 : decode cX5_settings 80 = .ok (.iload 4, 2) := by decide +kernel
theorem dX5_settings_82 : decode cX5_settings 82 = .ok (.iastore, 1) := by decide +kernel
theorem dX5_settings_83 : decode cX5_settings 83 = .ok (.aload_n 0, 1) := by decide +kernel
theorem dX5_settings_84 : decode cX5_settings 84 = .ok (.getfield 25, 3) := by decide +kernel
theorem dX5_settings_87 : decode cX5_settings 87 = .ok (.iload_n 1, 1) := by decide +kernel
theorem dX5_settings_88 : decode cX5_settings 88 = .ok (.iload_n 3, 1) := by decide +kernel
theorem dX5_settings_89 : decode cX5_settings 89 = .ok (.iastore, 1) := by decide +kernel
theorem dX5_settings_90 : decode cX5_settings 90 = .ok (.aload_n 0, 1) := by decide +kernel
theorem dX5_settings_91 : decode cX5_settings 91 = .ok (.iload_n 1, 1) := by decide +kernel
theorem dX5_settings_92 : decode cX5_settings 92 = .ok (.invokevirtual 98, 3) := by decide +kernel
theorem dX5_settings_95 : decode cX5_settings 95 = .ok (.ireturn, 1) := by decide +kernel
theorem dX5_report_0 : decode cX5_report 0 = .ok (.aload_n 0, 1) := by decide +kernel
theorem dX5_report_1 : decode cX5_report 1 = .ok (.aload_n 0, 1) := by decide +kernel
theorem dX5_report_2 : decode cX5_report 2 = .ok (.iload_n 1, 1) := by decide +kernel
theorem dX5_report_3 : decode cX5_report 3 = .ok (.invokevirtual 117, 3) := by decide +kernel
theorem dX5_report_6 : decode cX5_report 6 = .ok (.ifCond .eq 13, 3) := by decide +kernel
theorem dX5_report_9 : decode cX5_report 9 = .ok (.iload_n 2, 1) := by decide +kernel
theorem dX5_report_10 : decode cX5_report 10 = .ok (.iconst 0, 1) := by decide +kernel
theorem dX5_report_11 : decode cX5_report 11 = .ok (.bipush 7, 2) := by decide +kernel
theorem dX5_report_13 : decode cX5_report 13 = .ok (.invokestatic 120, 3) := by decide +kernel
theorem dX5_report_16 : decode cX5_report 16 = .ok (.ifCond .ne 7, 3) := by decide +kernel
theorem dX5_report_19 : decode cX5_report 19 = .ok (.iconst 1, 1) := by decide +kernel
theorem dX5_report_20 : decode cX5_report 20 = .ok (.goto 28, 3) := by decide +kernel
theorem dX5_report_23 : decode cX5_report 23 = .ok (.iload_n 3, 1) := by decide +kernel
theorem dX5_report_24 : decode cX5_report 24 = .ok (.iconst 0, 1) := by decide +kernel
theorem dX5_report_25 : decode cX5_report 25 = .ok (.iconst 5, 1) := by decide +kernel
theorem dX5_report_26 : decode cX5_report 26 = .ok (.invokestatic 120, 3) := by decide +kernel
theorem dX5_report_29 : decode cX5_report 29 = .ok (.ifCond .eq 18, 3) := by decide +kernel
theorem dX5_report_32 : decode cX5_report 32 = .ok (.iload 4, 2) := by decide +kernel
theorem dX5_report_34 : decode cX5_report 34 = .ok (.iconst 0, 1) := by decide +kernel
theorem dX5_report_35 : decode cX5_report 35 = .ok (.ldc 124, 2) := by decide +kernel
theorem dX5_report_37 : decode cX5_report 37 = .ok (.invokestatic 120, 3) := by decide +kernel
theorem dX5_report_40 : decode cX5_report 40 = .ok (.ifCond .eq 7, 3) := by decide +kernel
theorem dX5_report_43 : decode cX5_report 43 = .ok (.iconst 0, 1) := by decide +kernel
theorem dX5_report_44 : decode cX5_report 44 = .ok (.goto 4, 3) := by decide +kernel
theorem dX5_report_47 : decode cX5_report 47 = .ok (.iconst 2, 1) := by decide +kernel
theorem dX5_report_48 : decode cX5_report 48 = .ok (.putfield 66, 3) := by decide +kernel
theorem dX5_report_51 : decode cX5_report 51 = .ok (.aload_n 0, 1) := by decide +kernel
theorem dX5_report_52 : decode cX5_report 52 = .ok (.getfield 66, 3) := by decide +kernel
theorem dX5_report_55 : decode cX5_report 55 = .ok (.ifCond .le 7, 3) := by decide +kernel
theorem dX5_report_58 : decode cX5_report 58 = .ok (.iconst 0, 1) := by decide +kernel
theorem dX5_report_59 : decode cX5_report 59 = .ok (.goto 12, 3) := by decide +kernel
theorem dX5_report_62 : decode cX5_report 62 = .ok (.aload_n 0, 1) := by decide +kernel
theorem dX5_report_63 : decode cX5_report 63 = .ok (.iload_n 1, 1) := by decide +kernel
theorem dX5_report_64 : decode cX5_report 64 = .ok (.iload_n 2, 1) := by decide +kernel
theorem dX5_report_65 : decode cX5_report 65 = .ok (.iload_n 3, 1) := by decide +kernel
theorem dX5_report_66 : decode cX5_report 66 = .ok (.iload 4, 2) := by decide +kernel
theorem dX5_report_68 : decode cX5_report 68 = .ok (.invokevirtual 125, 3) := by decide +kernel
theorem dX5_report_71 : decode cX5_report 71 = .ok (.ireturn, 1) := by decide +kernel
theorem dX5_query_0 : decode cX5_query 0 = .ok (.aload_n 0, 1) := by decide +kernel
theorem dX5_query_1 : decode cX5_query 1 = .ok (.aload_n 0, 1) := by decide +kernel
theorem dX5_query_2 : decode cX5_query 2 = .ok (.iload_n 1, 1) := by decide +kernel
theorem dX5_query_3 : decode cX5_query 3 = .ok (.invokevirtual 117, 3) := by decide +kernel
theorem dX5_query_6 : decode cX5_query 6 = .ok (.ifCond .eq 13, 3) := by decide +kernel
theorem dX5_query_9 : decode cX5_query 9 = .ok (.iload_n 3, 1) := by decide +kernel
theorem dX5_query_10 : decode cX5_query 10 = .ok (.iconst (-1), 1) := by decide +kernel
theorem dX5_query_11 : decode cX5_query 11 = .ok (.bipush 7, 2) := by decide +kernel
theorem dX5_query_13 : decode cX5_query 13 = .ok (.invokestatic 120, 3) := by decide +kernel
theorem dX5_query_16 : decode cX5_query 16 = .ok (.ifCond .ne 7, 3) := by decide +kernel
theorem dX5_query_19 : decode cX5_query 19 = .ok (.iconst 1, 1) := by decide +kernel
theorem dX5_query_20 : decode cX5_query 20 = .ok (.goto 30, 3) := by decide +kernel
theorem dX5_query_23 : decode cX5_query 23 = .ok (.iload_n 2, 1) := by decide +kernel
theorem dX5_query_24 : decode cX5_query 24 = .ok (.iconst 0, 1) := by decide +kernel
theorem dX5_query_25 : decode cX5_query 25 = .ok (.sipush 999, 3) := by decide +kernel
theorem dX5_query_28 : decode cX5_query 28 = .ok (.invokestatic 120, 3) := by decide +kernel
theorem dX5_query_31 : decode cX5_query 31 = .ok (.ifCond .eq 18, 3) := by decide +kernel
theorem dX5_query_34 : decode cX5_query 34 = .ok (.iload 4, 2) := by decide +kernel
theorem dX5_query_36 : decode cX5_query 36 = .ok (.iconst 0, 1) := by decide +kernel
theorem dX5_query_37 : decode cX5_query 37 = .ok (.ldc 124, 2) := by decide +kernel
theorem dX5_query_39 : decode cX5_query 39 = .ok (.invokestatic 120, 3) := by decide +kernel
theorem dX5_query_42 : decode cX5_query 42 = .ok (.ifCond .eq 7, 3) := by decide +kernel
theorem dX5_query_45 : decode cX5_query 45 = .ok (.iconst 0, 1) := by decide +kernel
theorem dX5_query_46 : decode cX5_query 46 = .ok (.goto 4, 3) := by decide +kernel
theorem dX5_query_49 : decode cX5_query 49 = .ok (.iconst 2, 1) := by decide +kernel
theorem dX5_query_50 : decode cX5_query 50 = .ok (.putfield 66, 3) := by decide +kernel
theorem dX5_query_53 : decode cX5_query 53 = .ok (.aload_n 0, 1) := by decide +kernel
theorem dX5_query_54 : decode cX5_query 54 = .ok (.getfield 66, 3) := by decide +kernel
theorem dX5_query_57 : decode cX5_query 57 = .ok (.ifCond .le 5, 3) := by decide +kernel
theorem dX5_query_60 : decode cX5_query 60 = .ok (.iconst 0, 1) := by decide +kernel
theorem dX5_query_61 : decode cX5_query 61 = .ok (.ireturn, 1) := by decide +kernel
theorem dX5_query_62 : decode cX5_query 62 = .ok (.iload_n 2, 1) := by decide +kernel
theorem dX5_query_63 : decode cX5_query 63 = .ok (.sipush 500, 3) := by decide +kernel
theorem dX5_query_66 : decode cX5_query 66 = .ok (.if_icmp .ge 108, 3) := by decide +kernel
theorem dX5_query_69 : decode cX5_query 69 = .ok (.aload_n 0, 1) := by decide +kernel
theorem dX5_query_70 : decode cX5_query 70 = .ok (.getfield 19, 3) := by decide +kernel
theorem dX5_query_73 : decode cX5_query 73 = .ok (.iload_n 1, 1) := by decide +kernel
theorem dX5_query_74 : decode cX5_query 74 = .ok (.aload_n 0, 1) := by decide +kernel
theorem dX5_query_75 : decode cX5_query 75 = .ok (.getfield 22, 3) := by decide +kernel
theorem dX5_query_78 : decode cX5_query 78 = .ok (.iload_n 1, 1) := by decide +kernel
theorem dX5_query_79 : decode cX5_query 79 = .ok (.iaload, 1) := by decide +kernel
theorem dX5_query_80 : decode cX5_query 80 = .ok (.ifCond .eq 13, 3) := by decide +kernel
theorem dX5_query_83 : decode cX5_query 83 = .ok (.iload_n 2, 1) := by decide +kernel
theorem dX5_query_84 : decode cX5_query 84 = .ok (.aload_n 0, 1) := by decide +kernel
theorem dX5_query_85 : decode cX5_query 85 = .ok (.getfield 19, 3) := by decide +kernel
theorem dX5_query_88 : decode cX5_query 88 = .ok (.iload_n 1, 1) := by decide +kernel
theorem dX5_query_89 : decode cX5_query 89 = .ok (.iaload, 1) := by decide +kernel
theorem dX5_query_90 : decode cX5_query 90 = .ok (.if_icmp .ge 7, 3) := by decide +kernel
theorem dX5_query_93 : decode cX5_query 93 = .ok (.iload_n 2, 1) := by decide +kernel
theorem dX5_query_94 : decode cX5_query 94 = .ok (.goto 9, 3) := by decide +kernel
theorem dX5_query_97 : decode cX5_query 97 = .ok (.aload_n 0, 1) := by decide +kernel
theorem dX5_query_98 : decode cX5_query 98 = .ok (.getfield 19, 3) := by decide +kernel
theorem dX5_query_101 : decode cX5_query 101 = .ok (.iload_n 1, 1) := by decide +kernel
theorem dX5_query_102 : decode cX5_query 102 = .ok (.iaload, 1) := by decide +kernel
theorem dX5_query_103 : decode cX5_query 103 = .ok (.iastore, 1) := by decide +kernel
theorem dX5_query_104 : decode cX5_query 104 = .ok (.aload_n 0, 1) := by decide +kernel
theorem dX5_query_105 : decode cX5_query 105 = .ok (.getfield 22, 3) := by decide +kernel
theorem dX5_query_108 : decode cX5_query 108 = .ok (.iload_n 1, 1) := by decide +kernel
theorem dX5_query_109 : decode cX5_query 109 = .ok (.aload_n 0, 1) := by decide +kernel
theorem dX5_query_110 : decode cX5_query 110 = .ok (.getfield 7, 3) := by decide +kernel
theorem dX5_query_113 : decode cX5_query 113 = .ok (.iload_n 1, 1) := by decide +kernel
theorem dX5_query_114 : decode cX5_query 114 = .ok (.iaload, 1) := by decide +kernel
theorem dX5_query_115 : decode cX5_query 115 = .ok (.aload_n 0, 1) := by decide +kernel
theorem dX5_query_116 : decode cX5_query 116 = .ok (.getfield 13, 3) := by decide +kernel
theorem dX5_query_119 : decode cX5_query 119 = .ok (.iload_n 1, 1) := by decide +kernel
theorem dX5_query_120 : decode cX5_query 120 = .ok (.iaload, 1) := by decide +kernel
theorem dX5_query_121 : decode cX5_query 121 = .ok (.imul, 1) := by decide +kernel
theorem dX5_query_122 : decode cX5_query 122 = .ok (.aload_n 0, 1) := by decide +kernel
theorem dX5_query_123 : decode cX5_query 123 = .ok (.getfield 16, 3) := by decide +kernel
theorem dX5_query_126 : decode cX5_query 126 = .ok (.iload_n 1, 1) := by decide +kernel
theorem dX5_query_127 : decode cX5_query 127 = .ok (.iaload, 1) := by decide +kernel
theorem dX5_query_128 : decode cX5_query 128 = .ok (.iconst 2, 1) := by decide +kernel
theorem dX5_query_129 : decode cX5_query 129 = .ok (.idiv, 1) := by decide +kernel
theorem dX5_query_130 : decode cX5_query 130 = .ok (.iadd, 1) := by decide +kernel
theorem dX5_query_131 : decode cX5_query 131 = .ok (.iastore, 1) := by decide +kernel
theorem dX5_query_132 : decode cX5_query 132 = .ok (.iload_n 3, 1) := by decide +kernel
theorem dX5_query_133 : decode cX5_query 133 = .ok (.iconst (-1), 1) := by decide +kernel
theorem dX5_query_134 : decode cX5_query 134 = .ok (.if_icmp .eq 40, 3) := by decide +kernel
theorem dX5_query_137 : decode cX5_query 137 = .ok (.iload 5, 2) := by decide +kernel
theorem dX5_query_139 : decode cX5_query 139 = .ok (.ifCond .ne 35, 3) := by decide +kernel
theorem dX5_query_142 : decode cX5_query 142 = .ok (.iload 4, 2) := by decide +kernel
theorem dX5_query_144 : decode cX5_query 144 = .ok (.ifCond .eq 19, 3) := by decide +kernel
theorem dX5_query_147 : decode cX5_query 147 = .ok (.aload_n 0, 1) := by decide +kernel
theorem dX5_query_148 : decode cX5_query 148 = .ok (.iload_n 1, 1) := by decide +kernel
theorem dX5_query_149 : decode cX5_query 149 = .ok (.bipush 8, 2) := by decide +kernel
theorem dX5_query_151 : decode cX5_query 151 = .ok (.iload_n 1, 1) := by decide +kernel
theorem dX5_query_152 : decode cX5_query 152 = .ok (.imul, 1) := by decide +kernel
theorem dX5_query_153 : decode cX5_query 153 = .ok (.iload_n 3, 1) := by decide +kernel
theorem dX5_query_154 : decode cX5_query 154 = .ok (.iadd, 1) := by decide +kernel
theorem dX5_query_155 : decode cX5_query 155 = .ok (.iload 4, 2) := by decide +kernel
theorem dX5_query_157 : decode cX5_query 157 = .ok (.invokevirtual 83, 3) := by decide +kernel
theorem dX5_query_160 : decode cX5_query 160 = .ok (.goto 14, 3) := by decide +kernel
theorem dX5_query_163 : decode cX5_query 163 = .ok (.aload_n 0, 1) := by decide +kernel
theorem dX5_query_164 : decode cX5_query 164 = .ok (.iload_n 1, 1) := by decide +kernel
theorem dX5_query_165 : decode cX5_query 165 = .ok (.bipush 8, 2) := by decide +kernel
theorem dX5_query_167 : decode cX5_query 167 = .ok (.iload_n 1, 1) := by decide +kernel
theorem dX5_query_168 : decode cX5_query 168 = .ok (.imul, 1) := by decide +kernel
theorem dX5_query_169 : decode cX5_query 169 = .ok (.iload_n 3, 1) := by decide +kernel
theorem dX5_query_170 : decode cX5_query 170 = .ok (.iadd, 1) := by decide +kernel
theorem dX5_query_171 : decode cX5_query 171 = .ok (.invokevirtual 86, 3) := by decide +kernel
theorem dX5_query_174 : decode cX5_query 174 = .ok (.aload_n 0, 1) := by decide +kernel
theorem dX5_query_175 : decode cX5_query 175 = .ok (.iload_n 1, 1) := by decide +kernel
theorem dX5_query_176 : decode cX5_query 176 = .ok (.invokevirtual 75, 3) := by decide +kernel
theorem dX5_query_179 : decode cX5_query 179 = .ok (.ireturn, 1) := by decide +kernel
theorem dX5_tickRecord_0 : decode cX5_tickRecord 0 = .ok (.aload_n 0, 1) := by decide +kernel
theorem dX5_tickRecord_1 : decode cX5_tickRecord 1 = .ok (.getfield 31, 3) := by decide +kernel
theorem dX5_tickRecord_4 : decode cX5_tickRecord 4 = .ok (.iload_n 1, 1) := by decide +kernel
theorem dX5_tickRecord_5 : decode cX5_tickRecord 5 = .ok (.iaload, 1) := by decide +kernel
theorem dX5_tickRecord_6 : decode cX5_tickRecord 6 = .ok (.iconst 1, 1) := by decide +kernel
theorem dX5_tickRecord_7 : decode cX5_tickRecord 7 = .ok (.if_icmp .ne 7, 3) := by decide +kernel
theorem dX5_tickRecord_10 : decode cX5_tickRecord 10 = .ok (.iconst 1, 1) := by decide +kernel
theorem dX5_tickRecord_11 : decode cX5_tickRecord 11 = .ok (.goto 4, 3) := by decide +kernel
theorem dX5_tickRecord_14 : decode cX5_tickRecord 14 = .ok (.iconst 0, 1) := by decide +kernel
theorem dX5_tickRecord_15 : decode cX5_tickRecord 15 = .ok (.istore_n 2, 1) := by decide +kernel
theorem dX5_tickRecord_16 : decode cX5_tickRecord 16 = .ok (.aload_n 0, 1) := by decide +kernel
theorem dX5_tickRecord_17 : decode cX5_tickRecord 17 = .ok (.getfield 31, 3) := by decide +kernel
theorem dX5_tickRecord_20 : decode cX5_tickRecord 20 = .ok (.iload_n 1, 1) := by decide +kernel
theorem dX5_tickRecord_21 : decode cX5_tickRecord 21 = .ok (.aload_n 0, 1) := by decide +kernel
theorem dX5_tickRecord_22 : decode cX5_tickRecord 22 = .ok (.getfield 31, 3) := by decide +kernel
theorem dX5_tickRecord_25 : decode cX5_tickRecord 25 = .ok (.iload_n 1, 1) := by decide +kernel
theorem dX5_tickRecord_26 : decode cX5_tickRecord 26 = .ok (.iaload, 1) := by decide +kernel
theorem dX5_tickRecord_27 : decode cX5_tickRecord 27 = .ok (.ifCond .le 14, 3) := by decide +kernel
theorem dX5_tickRecord_30 : decode cX5_tickRecord 30 = .ok (.aload_n 0, 1) := by decide +kernel
theorem dX5_tickRecord_31 : decode cX5_tickRecord 31 = .ok (.getfield 31, 3) := by decide +kernel
theorem dX5_tickRecord_34 : decode cX5_tickRecord 34 = .ok (.iload_n 1, 1) := by decide +kernel
theorem dX5_tickRecord_35 : decode cX5_tickRecord 35 = .ok (.iaload, 1) := by decide +kernel
theorem dX5_tickRecord_36 : decode cX5_tickRecord 36 = .ok (.iconst 1, 1) := by decide +kernel
theorem dX5_tickRecord_37 : decode cX5_tickRecord 37 = .ok (.isub, 1) := by decide +kernel
theorem dX5_tickRecord_38 : decode cX5_tickRecord 38 = .ok (.goto 4, 3) := by decide +kernel
theorem dX5_tickRecord_41 : decode cX5_tickRecord 41 = .ok (.iconst 0, 1) := by decide +kernel
theorem dX5_tickRecord_42 : decode cX5_tickRecord 42 = .ok (.iastore, 1) := by decide +kernel
theorem dX5_tickRecord_43 : decode cX5_tickRecord 43 = .ok (.iconst 0, 1) := by decide +kernel
theorem dX5_tickRecord_44 : decode cX5_tickRecord 44 = .ok (.istore_n 3, 1) := by decide +kernel
theorem dX5_tickRecord_45 : decode cX5_tickRecord 45 = .ok (.iconst 0, 1) := by decide +kernel
theorem dX5_tickRecord_46 : decode cX5_tickRecord 46 = .ok (.istore 4, 2) := by decide +kernel
theorem dX5_tickRecord_48 : decode cX5_tickRecord 48 = .ok (.iload 4, 2) := by decide +kernel
theorem dX5_tickRecord_50 : decode cX5_tickRecord 50 = .ok (.bipush 16, 2) := by decide +kernel
theorem dX5_tickRecord_52 : decode cX5_tickRecord 52 = .ok (.if_icmp .ge 65, 3) := by decide +kernel
theorem dX5_tickRecord_55 : decode cX5_tickRecord 55 = .ok (.aload_n 0, 1) := by decide +kernel
theorem dX5_tickRecord_56 : decode cX5_tickRecord 56 = .ok (.getfield 37, 3) := by decide +kernel
theorem dX5_tickRecord_59 : decode cX5_tickRecord 59 = .ok (.bipush 16, 2) := by decide +kernel
theorem dX5_tickRecord_61 : decode cX5_tickRecord 61 = .ok (.iload_n 1, 1) := by decide +kernel
theorem dX5_tickRecord_62 : decode cX5_tickRecord 62 = .ok (.imul, 1) := by decide +kernel
theorem dX5_tickRecord_63 : decode cX5_tickRecord 63 = .ok (.iload 4, 2) := by decide +kernel
theorem dX5_tickRecord_65 : decode cX5_tickRecord 65 = .ok (.iadd, 1) := by decide +kernel
theorem dX5_tickRecord_66 : decode cX5_tickRecord 66 = .ok (.iaload, 1) := by decide +kernel
theorem dX5_tickRecord_67 : decode cX5_tickRecord 67 = .ok (.istore 5, 2) := by decide +kernel
theorem dX5_tickRecord_69 : decode cX5_tickRecord 69 = .ok (.iload 5, 2) := by decide +kernel
theorem dX5_tickRecord_71 : decode cX5_tickRecord 71 = .ok (.iconst 1, 1) := by decide +kernel
theorem dX5_tickRecord_72 : decode cX5_tickRecord 72 = .ok (.if_icmp .ne 12, 3) := by decide +kernel
theorem dX5_tickRecord_75 : decode cX5_tickRecord 75 = .ok (.iload_n 3, 1) := by decide +kernel
theorem dX5_tickRecord_76 : decode cX5_tickRecord 76 = .ok (.iconst 1, 1) := by decide +kernel
theorem dX5_tickRecord_77 : decode cX5_tickRecord 77 = .ok (.iload 4, 2) := by decide +kernel
theorem dX5_tickRecord_79 : decode cX5_tickRecord 79 = .ok (.ishl, 1) := by decide +kernel
theorem dX5_tickRecord_80 : decode cX5_tickRecord 80 = .ok (.iadd, 1) := by decide +kernel
theorem dX5_tickRecord_81 : decode cX5_tickRecord 81 = .ok (.goto 4, 3) := by decide +kernel
theorem dX5_tickRecord_84 : decode cX5_tickRecord 84 = .ok (.iload_n 3, 1) := by decide +kernel
theorem dX5_tickRecord_85 : decode cX5_tickRecord 85 = .ok (.istore_n 3, 1) := by decide +kernel
theorem dX5_tickRecord_86 : decode cX5_tickRecord 86 = .ok (.aload_n 0, 1) := by decide +kernel
theorem dX5_tickRecord_87 : decode cX5_tickRecord 87 = .ok (.getfield 37, 3) := by decide +kernel
theorem dX5_tickRecord_90 : decode cX5_tickRecord 90 = .ok (.bipush 16, 2) := by decide +kernel
theorem dX5_tickRecord_92 : decode cX5_tickRecord 92 = .ok (.iload_n 1, 1) := by decide +kernel
theorem dX5_tickRecord_93 : decode cX5_tickRecord 93 = .ok (.imul, 1) := by decide +kernel
theorem dX5_tickRecord_94 : decode cX5_tickRecord 94 = .ok (.iload 4, 2) := by decide +kernel
theorem dX5_tickRecord_96 : decode cX5_tickRecord 96 = .ok (.iadd, 1) := by decide +kernel
theorem dX5_tickRecord_97 : decode cX5_tickRecord 97 = .ok (.iload 5, 2) := by decide +kernel
theorem dX5_tickRecord_99 : decode cX5_tickRecord 99 = .ok (.ifCond .le 10, 3) := by decide +kernel
theorem dX5_tickRecord_102 : decode cX5_tickRecord 102 = .ok (.iload 5, 2) := by decide +kernel
theorem dX5_tickRecord_104 : decode cX5_tickRecord 104 = .ok (.iconst 1, 1) := by decide +kernel
theorem dX5_tickRecord_105 : decode cX5_tickRecord 105 = .ok (.isub, 1) := by decide +kernel
theorem dX5_tickRecord_106 : decode cX5_tickRecord 106 = .ok (.goto 4, 3) := by decide +kernel
theorem dX5_tickRecord_109 : decode cX5_tickRecord 109 = .ok (.iconst 0, 1) := by decide +kernel
theorem dX5_tickRecord_110 : decode cX5_tickRecord 110 = .ok (.iastore, 1) := by decide +kernel
theorem dX5_tickRecord_111 : decode cX5_tickRecord 111 = .ok (.iinc 4 1, 3) := by decide +kernel
theorem dX5_tickRecord_114 : decode cX5_tickRecord 114 = .ok (.goto (-66), 3) := by decide +kernel
theorem dX5_tickRecord_117 : decode cX5_tickRecord 117 = .ok (.aload_n 0, 1) := by decide +kernel
theorem dX5_tickRecord_118 : decode cX5_tickRecord 118 = .ok (.getfield 28, 3) := by decide +kernel
theorem dX5_tickRecord_121 : decode cX5_tickRecord 121 = .ok (.iload_n 1, 1) := by decide +kernel
theorem dX5_tickRecord_122 : decode cX5_tickRecord 122 = .ok (.iaload, 1) := by decide +kernel
theorem dX5_tickRecord_123 : decode cX5_tickRecord 123 = .ok (.iconst (-1), 1) := by decide +kernel
theorem dX5_tickRecord_124 : decode cX5_tickRecord 124 = .ok (.if_icmp .ne 4, 3) := by decide +kernel
theorem dX5_tickRecord_127 : decode cX5_tickRecord 127 = .ok (.return_, 1) := by decide +kernel
theorem dX5_tickRecord_128 : decode cX5_tickRecord 128 = .ok (.aload_n 0, 1) := by decide +kernel
theorem dX5_tickRecord_129 : decode cX5_tickRecord 129 = .ok (.iload_n 1, 1) := by decide +kernel
theorem dX5_tickRecord_130 : decode cX5_tickRecord 130 = .ok (.iconst 1, 1) := by decide +kernel
theorem dX5_tickRecord_131 : decode cX5_tickRecord 131 = .ok (.invokevirtual 90, 3) := by decide +kernel
theorem dX5_tickRecord_134 : decode cX5_tickRecord 134 = .ok (.istore 4, 2) := by decide +kernel
theorem dX5_tickRecord_136 : decode cX5_tickRecord 136 = .ok (.aload_n 0, 1) := by decide +kernel
theorem dX5_tickRecord_137 : decode cX5_tickRecord 137 = .ok (.iload_n 1, 1) := by decide +kernel
theorem dX5_tickRecord_138 : decode cX5_tickRecord 138 = .ok (.iconst 2, 1) := by decide +kernel
theorem dX5_tickRecord_139 : decode cX5_tickRecord 139 = .ok (.invokevirtual 90, 3) := by decide +kernel
theorem dX5_tickRecord_142 : decode cX5_tickRecord 142 = .ok (.istore 5, 2) := by decide +kernel
theorem dX5_tickRecord_144 : decode cX5_tickRecord 144 = .ok (.aload_n 0, 1) := by decide +kernel
theorem dX5_tickRecord_145 : decode cX5_tickRecord 145 = .ok (.getfield 28, 3) := by decide +kernel
theorem dX5_tickRecord_148 : decode cX5_tickRecord 148 = .ok (.iload_n 1, 1) := by decide +kernel
theorem dX5_tickRecord_149 : decode cX5_tickRecord 149 = .ok (.iaload, 1) := by decide +kernel
theorem dX5_tickRecord_150 : decode cX5_tickRecord 150 = .ok (.iconst 1, 1) := by decide +kernel
theorem dX5_tickRecord_151 : decode cX5_tickRecord 151 = .ok (.if_icmp .ne 26, 3) := by decide +kernel
theorem dX5_tickRecord_154 : decode cX5_tickRecord 154 = .ok (.iload_n 2, 1) := by decide +kernel
theorem dX5_tickRecord_155 : decode cX5_tickRecord 155 = .ok (.ifCond .ne 22, 3) := by decide +kernel
theorem dX5_tickRecord_158 : decode cX5_tickRecord 158 = .ok (.aload_n 0, 1) := by decide +kernel
theorem dX5_tickRecord_159 : decode cX5_tickRecord 159 = .ok (.iload_n 1, 1) := by decide +kernel
theorem dX5_tickRecord_160 : decode cX5_tickRecord 160 = .ok (.iconst 1, 1) := by decide +kernel
theorem dX5_tickRecord_161 : decode cX5_tickRecord 161 = .ok (.iload 4, 2) := by decide +kernel
theorem dX5_tickRecord_163 : decode cX5_tickRecord 163 = .ok (.iload_n 3, 1) := by decide +kernel
theorem dX5_tickRecord_164 : decode cX5_tickRecord 164 = .ok (.iconst (-1), 1) := by decide +kernel
theorem dX5_tickRecord_165 : decode cX5_tickRecord 165 = .ok (.ixor, 1) := by decide +kernel
theorem dX5_tickRecord_166 : decode cX5_tickRecord 166 = .ok (.iand, 1) := by decide +kernel
theorem dX5_tickRecord_167 : decode cX5_tickRecord 167 = .ok (.iload 5, 2) := by decide +kernel
theorem dX5_tickRecord_169 : decode cX5_tickRecord 169 = .ok (.iload_n 3, 1) := by decide +kernel
theorem dX5_tickRecord_170 : decode cX5_tickRecord 170 = .ok (.ior, 1) := by decide +kernel
theorem dX5_tickRecord_171 : decode cX5_tickRecord 171 = .ok (.invokevirtual 94, 3) := by decide +kernel
theorem dX5_tickRecord_174 : decode cX5_tickRecord 174 = .ok (.goto 16, 3) := by decide +kernel
theorem dX5_tickRecord_177 : decode cX5_tickRecord 177 = .ok (.aload_n 0, 1) := by decide +kernel
theorem dX5_tickRecord_178 : decode cX5_tickRecord 178 = .ok (.iload_n 1, 1) := by decide +kernel
theorem dX5_tickRecord_179 : decode cX5_tickRecord 179 = .ok (.iconst 0, 1) := by decide +kernel
theorem dX5_tickRecord_180 : decode cX5_tickRecord 180 = .ok (.iload 4, 2) := by decide +kernel
theorem dX5_tickRecord_182 : decode cX5_tickRecord 182 = .ok (.iload_n 3, 1) := by decide +kernel
theorem dX5_tickRecord_183 : decode cX5_tickRecord 183 = .ok (.iconst (-1), 1) := by decide +kernel
theorem dX5_tickRecord_184 : decode cX5_tickRecord 184 = .ok (.ixor, 1) := by decide +kernel
theorem dX5_tickRecord_185 : decode cX5_tickRecord 185 = .ok (.iand, 1) := by decide +kernel
theorem dX5_tickRecord_186 : decode cX5_tickRecord 186 = .ok (.iconst 0, 1) := by decide +kernel
theorem dX5_tickRecord_187 : decode cX5_tickRecord 187 = .ok (.invokevirtual 94, 3) := by decide +kernel
theorem dX5_tickRecord_190 : decode cX5_tickRecord 190 = .ok (.return_, 1) := by decide +kernel
theorem dX5_tickLink_0 : decode cX5_tickLink 0 = .ok (.aload_n 0, 1) := by decide +kernel
theorem dX5_tickLink_1 : decode cX5_tickLink 1 = .ok (.getfield 22, 3) := by decide +kernel
theorem dX5_tickLink_4 : decode cX5_tickLink 4 = .ok (.iload_n 1, 1) := by decide +kernel
theorem dX5_tickLink_5 : decode cX5_tickLink 5 = .ok (.iaload, 1) := by decide +kernel
theorem dX5_tickLink_6 : decode cX5_tickLink 6 = .ok (.ifCond .le 45, 3) := by decide +kernel
theorem dX5_tickLink_9 : decode cX5_tickLink 9 = .ok (.aload_n 0, 1) := by decide +kernel
theorem dX5_tickLink_10 : decode cX5_tickLink 10 = .ok (.getfield 22, 3) := by decide +kernel
theorem dX5_tickLink_13 : decode cX5_tickLink 13 = .ok (.iload_n 1, 1) := by decide +kernel
theorem dX5_tickLink_14 : decode cX5_tickLink 14 = .ok (.dup2, 1) := by decide +kernel
theorem dX5_tickLink_15 : decode cX5_tickLink 15 = .ok (.iaload, 1) := by decide +kernel
theorem dX5_tickLink_16 : decode cX5_tickLink 16 = .ok (.iconst 1, 1) := by decide +kernel
theorem dX5_tickLink_17 : decode cX5_tickLink 17 = .ok (.isub, 1) := by decide +kernel
theorem dX5_tickLink_18 : decode cX5_tickLink 18 = .ok (.iastore, 1) := by decide +kernel
theorem dX5_tickLink_19 : decode cX5_tickLink 19 = .ok (.aload_n 0, 1) := by decide +kernel
theorem dX5_tickLink_20 : decode cX5_tickLink 20 = .ok (.getfield 22, 3) := by decide +kernel
theorem dX5_tickLink_23 : decode cX5_tickLink 23 = .ok (.iload_n 1, 1) := by decide +kernel
theorem dX5_tickLink_24 : decode cX5_tickLink 24 = .ok (.iaload, 1) := by decide +kernel
theorem dX5_tickLink_25 : decode cX5_tickLink 25 = .ok (.ifCond .ne 24, 3) := by decide +kernel
theorem dX5_tickLink_28 : decode cX5_tickLink 28 = .ok (.aload_n 0, 1) := by decide +kernel
theorem dX5_tickLink_29 : decode cX5_tickLink 29 = .ok (.getfield 19, 3) := by decide +kernel
theorem dX5_tickLink_32 : decode cX5_tickLink 32 = .ok (.iload_n 1, 1) := by decide +kernel
theorem dX5_tickLink_33 : decode cX5_tickLink 33 = .ok (.sipush 500, 3) := by decide +kernel
theorem dX5_tickLink_36 : decode cX5_tickLink 36 = .ok (.iastore, 1) := by decide +kernel
theorem dX5_tickLink_37 : decode cX5_tickLink 37 = .ok (.aload_n 0, 1) := by decide +kernel
theorem dX5_tickLink_38 : decode cX5_tickLink 38 = .ok (.getfield 25, 3) := by decide +kernel
theorem dX5_tickLink_41 : decode cX5_tickLink 41 = .ok (.iload_n 1, 1) := by decide +kernel
theorem dX5_tickLink_42 : decode cX5_tickLink 42 = .ok (.aload_n 0, 1) := by decide +kernel
theorem dX5_tickLink_43 : decode cX5_tickLink 43 = .ok (.getfield 13, 3) := by decide +kernel
theorem dX5_tickLink_46 : decode cX5_tickLink 46 = .ok (.iload_n 1, 1) := by decide +kernel
theorem dX5_tickLink_47 : decode cX5_tickLink 47 = .ok (.iaload, 1) := by decide +kernel
theorem dX5_tickLink_48 : decode cX5_tickLink 48 = .ok (.iastore, 1) := by decide +kernel
theorem dX5_tickLink_49 : decode cX5_tickLink 49 = .ok (.iconst 0, 1) := by decide +kernel
theorem dX5_tickLink_50 : decode cX5_tickLink 50 = .ok (.ireturn, 1) := by decide +kernel
theorem dX5_tickLink_51 : decode cX5_tickLink 51 = .ok (.aload_n 0, 1) := by decide +kernel
theorem dX5_tickLink_52 : decode cX5_tickLink 52 = .ok (.getfield 25, 3) := by decide +kernel
theorem dX5_tickLink_55 : decode cX5_tickLink 55 = .ok (.iload_n 1, 1) := by decide +kernel
theorem dX5_tickLink_56 : decode cX5_tickLink 56 = .ok (.dup2, 1) := by decide +kernel
theorem dX5_tickLink_57 : decode cX5_tickLink 57 = .ok (.iaload, 1) := by decide +kernel
theorem dX5_tickLink_58 : decode cX5_tickLink 58 = .ok (.iconst 1, 1) := by decide +kernel
theorem dX5_tickLink_59 : decode cX5_tickLink 59 = .ok (.isub, 1) := by decide +kernel
theorem dX5_tickLink_60 : decode cX5_tickLink 60 = .ok (.iastore, 1) := by decide +kernel
theorem dX5_tickLink_61 : decode cX5_tickLink 61 = .ok (.aload_n 0, 1) := by decide +kernel
theorem dX5_tickLink_62 : decode cX5_tickLink 62 = .ok (.getfield 25, 3) := by decide +kernel
theorem dX5_tickLink_65 : decode cX5_tickLink 65 = .ok (.iload_n 1, 1) := by decide +kernel
theorem dX5_tickLink_66 : decode cX5_tickLink 66 = .ok (.iaload, 1) := by decide +kernel
theorem dX5_tickLink_67 : decode cX5_tickLink 67 = .ok (.ifCond .le 5, 3) := by decide +kernel
theorem dX5_tickLink_70 : decode cX5_tickLink 70 = .ok (.iconst 0, 1) := by decide +kernel
theorem dX5_tickLink_71 : decode cX5_tickLink 71 = .ok (.ireturn, 1) := by decide +kernel
theorem dX5_tickLink_72 : decode cX5_tickLink 72 = .ok (.aload_n 0, 1) := by decide +kernel
theorem dX5_tickLink_73 : decode cX5_tickLink 73 = .ok (.getfield 25, 3) := by decide +kernel
theorem dX5_tickLink_76 : decode cX5_tickLink 76 = .ok (.iload_n 1, 1) := by decide +kernel
theorem dX5_tickLink_77 : decode cX5_tickLink 77 = .ok (.aload_n 0, 1) := by decide +kernel
theorem dX5_tickLink_78 : decode cX5_tickLink 78 = .ok (.getfield 13, 3) := by decide +kernel
theorem dX5_tickLink_81 : decode cX5_tickLink 81 = .ok (.iload_n 1, 1) := by decide +kernel
theorem dX5_tickLink_82 : decode cX5_tickLink 82 = .ok (.iaload, 1) := by decide +kernel
theorem dX5_tickLink_83 : decode cX5_tickLink 83 = .ok (.iastore, 1) := by decide +kernel
theorem dX5_tickLink_84 : decode cX5_tickLink 84 = .ok (.aload_n 0, 1) := by decide +kernel
theorem dX5_tickLink_85 : decode cX5_tickLink 85 = .ok (.iload_n 1, 1) := by decide +kernel
theorem dX5_tickLink_86 : decode cX5_tickLink 86 = .ok (.iconst (-1), 1) := by decide +kernel
theorem dX5_tickLink_87 : decode cX5_tickLink 87 = .ok (.iconst 0, 1) := by decide +kernel
theorem dX5_tickLink_88 : decode cX5_tickLink 88 = .ok (.invokevirtual 79, 3) := by decide +kernel
theorem dX5_tickLink_91 : decode cX5_tickLink 91 = .ok (.iconst 1, 1) := by decide +kernel
theorem dX5_tickLink_92 : decode cX5_tickLink 92 = .ok (.ireturn, 1) := by decide +kernel
theorem dX5_tick_0 : decode cX5_tick 0 = .ok (.aload_n 0, 1) := by decide +kernel
theorem dX5_tick_1 : decode cX5_tick 1 = .ok (.iload_n 1, 1) := by decide +kernel
theorem dX5_tick_2 : decode cX5_tick 2 = .ok (.iconst 0, 1) := by decide +kernel
theorem dX5_tick_3 : decode cX5_tick 3 = .ok (.sipush 2000, 3) := by decide +kernel
theorem dX5_tick_6 : decode cX5_tick 6 = .ok (.invokestatic 120, 3) := by decide +kernel
theorem dX5_tick_9 : decode cX5_tick 9 = .ok (.ifCond .eq 7, 3) := by decide +kernel
theorem dX5_tick_12 : decode cX5_tick 12 = .ok (.iconst 0, 1) := by decide +kernel
theorem dX5_tick_13 : decode cX5_tick 13 = .ok (.goto 4, 3) := by decide +kernel
theorem dX5_tick_16 : decode cX5_tick 16 = .ok (.iconst 1, 1) := by decide +kernel
theorem dX5_tick_17 : decode cX5_tick 17 = .ok (.putfield 66, 3) := by decide +kernel
theorem dX5_tick_20 : decode cX5_tick 20 = .ok (.aload_n 0, 1) := by decide +kernel
theorem dX5_tick_21 : decode cX5_tick 21 = .ok (.getfield 66, 3) := by decide +kernel
theorem dX5_tick_24 : decode cX5_tick 24 = .ok (.ifCond .le 5, 3) := by decide +kernel
theorem dX5_tick_27 : decode cX5_tick 27 = .ok (.iconst 0, 1) := by decide +kernel
theorem dX5_tick_28 : decode cX5_tick 28 = .ok (.ireturn, 1) := by decide +kernel
theorem dX5_tick_29 : decode cX5_tick 29 = .ok (.iconst 0, 1) := by decide +kernel
theorem dX5_tick_30 : decode cX5_tick 30 = .ok (.istore_n 2, 1) := by decide +kernel
theorem dX5_tick_31 : decode cX5_tick 31 = .ok (.iconst 0, 1) := by decide +kernel
theorem dX5_tick_32 : decode cX5_tick 32 = .ok (.istore_n 3, 1) := by decide +kernel
theorem dX5_tick_33 : decode cX5_tick 33 = .ok (.iload_n 3, 1) := by decide +kernel
theorem dX5_tick_34 : decode cX5_tick 34 = .ok (.iload_n 1, 1) := by decide +kernel
theorem dX5_tick_35 : decode cX5_tick 35 = .ok (.if_icmp .ge 81, 3) := by decide +kernel
theorem dX5_tick_38 : decode cX5_tick 38 = .ok (.aload_n 0, 1) := by decide +kernel
theorem dX5_tick_39 : decode cX5_tick 39 = .ok (.dup, 1) := by decide +kernel
theorem dX5_tick_40 : decode cX5_tick 40 = .ok (.getfield 69, 3) := by decide +kernel
theorem dX5_tick_43 : decode cX5_tick 43 = .ok (.iconst 1, 1) := by decide +kernel
theorem dX5_tick_44 : decode cX5_tick 44 = .ok (.iadd, 1) := by decide +kernel
theorem dX5_tick_45 : decode cX5_tick 45 = .ok (.putfield 69, 3) := by decide +kernel
theorem dX5_tick_48 : decode cX5_tick 48 = .ok (.iconst 0, 1) := by decide +kernel
theorem dX5_tick_49 : decode cX5_tick 49 = .ok (.istore 4, 2) := by decide +kernel
theorem dX5_tick_51 : decode cX5_tick 51 = .ok (.iload 4, 2) := by decide +kernel
theorem dX5_tick_53 : decode cX5_tick 53 = .ok (.bipush 8, 2) := by decide +kernel
theorem dX5_tick_55 : decode cX5_tick 55 = .ok (.aload_n 0, 1) := by decide +kernel
theorem dX5_tick_56 : decode cX5_tick 56 = .ok (.getfield 59, 3) := by decide +kernel
theorem dX5_tick_59 : decode cX5_tick 59 = .ok (.imul, 1) := by decide +kernel
theorem dX5_tick_60 : decode cX5_tick 60 = .ok (.if_icmp .ge 15, 3) := by decide +kernel
theorem dX5_tick_63 : decode cX5_tick 63 = .ok (.aload_n 0, 1) := by decide +kernel
theorem dX5_tick_64 : decode cX5_tick 64 = .ok (.iload 4, 2) := by decide +kernel
theorem dX5_tick_66 : decode cX5_tick 66 = .ok (.invokevirtual 129, 3) := by decide +kernel
theorem dX5_tick_69 : decode cX5_tick 69 = .ok (.iinc 4 1, 3) := by decide +kernel
theorem dX5_tick_72 : decode cX5_tick 72 = .ok (.goto (-21), 3) := by decide +kernel
theorem dX5_tick_75 : decode cX5_tick 75 = .ok (.iconst 0, 1) := by decide +kernel
theorem dX5_tick_76 : decode cX5_tick 76 = .ok (.istore 4, 2) := by decide +kernel
theorem dX5_tick_78 : decode cX5_tick 78 = .ok (.iload 4, 2) := by decide +kernel
theorem dX5_tick_80 : decode cX5_tick 80 = .ok (.aload_n 0, 1) := by decide +kernel
theorem dX5_tick_81 : decode cX5_tick 81 = .ok (.getfield 59, 3) := by decide +kernel
theorem dX5_tick_84 : decode cX5_tick 84 = .ok (.if_icmp .ge 26, 3) := by decide +kernel
theorem dX5_tick_87 : decode cX5_tick 87 = .ok (.aload_n 0, 1) := by decide +kernel
theorem dX5_tick_88 : decode cX5_tick 88 = .ok (.iload 4, 2) := by decide +kernel
theorem dX5_tick_90 : decode cX5_tick 90 = .ok (.invokevirtual 133, 3) := by decide +kernel
theorem dX5_tick_93 : decode cX5_tick 93 = .ok (.ifCond .eq 9, 3) := by decide +kernel
theorem dX5_tick_96 : decode cX5_tick 96 = .ok (.iload_n 2, 1) := by decide +kernel
theorem dX5_tick_97 : decode cX5_tick 97 = .ok (.iconst 1, 1) := by decide +kernel
theorem dX5_tick_98 : decode cX5_tick 98 = .ok (.iadd, 1) := by decide +kernel
theorem dX5_tick_99 : decode cX5_tick 99 = .ok (.goto 4, 3) := by decide +kernel
theorem dX5_tick_102 : decode cX5_tick 102 = .ok (.iload_n 2, 1) := by decide +kernel
theorem dX5_tick_103 : decode cX5_tick 103 = .ok (.istore_n 2, 1) := by decide +kernel
theorem dX5_tick_104 : decode cX5_tick 104 = .ok (.iinc 4 1, 3) := by decide +kernel
theorem dX5_tick_107 : decode cX5_tick 107 = .ok (.goto (-29), 3) := by decide +kernel
theorem dX5_tick_110 : decode cX5_tick 110 = .ok (.iinc 3 1, 3) := by decide +kernel
theorem dX5_tick_113 : decode cX5_tick 113 = .ok (.goto (-80), 3) := by decide +kernel
theorem dX5_tick_116 : decode cX5_tick 116 = .ok (.iload_n 2, 1) := by decide +kernel
theorem dX5_tick_117 : decode cX5_tick 117 = .ok (.ireturn, 1) := by decide +kernel
theorem dX5_member_0 : decode cX5_member 0 = .ok (.aload_n 0, 1) := by decide +kernel
theorem dX5_member_1 : decode cX5_member 1 = .ok (.aload_n 0, 1) := by decide +kernel
theorem dX5_member_2 : decode cX5_member 2 = .ok (.iload_n 1, 1) := by decide +kernel
theorem dX5_member_3 : decode cX5_member 3 = .ok (.invokevirtual 117, 3) := by decide +kernel
theorem dX5_member_6 : decode cX5_member 6 = .ok (.ifCond .eq 22, 3) := by decide +kernel
theorem dX5_member_9 : decode cX5_member 9 = .ok (.iload_n 2, 1) := by decide +kernel
theorem dX5_member_10 : decode cX5_member 10 = .ok (.iconst 0, 1) := by decide +kernel
theorem dX5_member_11 : decode cX5_member 11 = .ok (.iconst 5, 1) := by decide +kernel
theorem dX5_member_12 : decode cX5_member 12 = .ok (.invokestatic 120, 3) := by decide +kernel
theorem dX5_member_15 : decode cX5_member 15 = .ok (.ifCond .eq 13, 3) := by decide +kernel
theorem dX5_member_18 : decode cX5_member 18 = .ok (.iload_n 3, 1) := by decide +kernel
theorem dX5_member_19 : decode cX5_member 19 = .ok (.iconst 0, 1) := by decide +kernel
theorem dX5_member_20 : decode cX5_member 20 = .ok (.bipush 7, 2) := by decide +kernel
theorem dX5_member_22 : decode cX5_member 22 = .ok (.invokestatic 120, 3) := by decide +kernel
theorem dX5_member_25 : decode cX5_member 25 = .ok (.ifCond .ne 7, 3) := by decide +kernel
theorem dX5_member_28 : decode cX5_member 28 = .ok (.iconst 1, 1) := by decide +kernel
theorem dX5_member_29 : decode cX5_member 29 = .ok (.goto 19, 3) := by decide +kernel
theorem dX5_member_32 : decode cX5_member 32 = .ok (.iload 5, 2) := by decide +kernel
theorem dX5_member_34 : decode cX5_member 34 = .ok (.iconst 0, 1) := by decide +kernel
theorem dX5_member_35 : decode cX5_member 35 = .ok (.ldc 124, 2) := by decide +kernel
theorem dX5_member_37 : decode cX5_member 37 = .ok (.invokestatic 120, 3) := by decide +kernel
theorem dX5_member_40 : decode cX5_member 40 = .ok (.ifCond .eq 7, 3) := by decide +kernel
theorem dX5_member_43 : decode cX5_member 43 = .ok (.iconst 0, 1) := by decide +kernel
theorem dX5_member_44 : decode cX5_member 44 = .ok (.goto 4, 3) := by decide +kernel
theorem dX5_member_47 : decode cX5_member 47 = .ok (.iconst 2, 1) := by decide +kernel
theorem dX5_member_48 : decode cX5_member 48 = .ok (.putfield 66, 3) := by decide +kernel
theorem dX5_member_51 : decode cX5_member 51 = .ok (.aload_n 0, 1) := by decide +kernel
theorem dX5_member_52 : decode cX5_member 52 = .ok (.getfield 66, 3) := by decide +kernel
theorem dX5_member_55 : decode cX5_member 55 = .ok (.ifCond .le 5, 3) := by decide +kernel
theorem dX5_member_58 : decode cX5_member 58 = .ok (.iconst 0, 1) := by decide +kernel
theorem dX5_member_59 : decode cX5_member 59 = .ok (.ireturn, 1) := by decide +kernel
theorem dX5_member_60 : decode cX5_member 60 = .ok (.bipush 48, 2) := by decide +kernel
theorem dX5_member_62 : decode cX5_member 62 = .ok (.iload_n 1, 1) := by decide +kernel
theorem dX5_member_63 : decode cX5_member 63 = .ok (.imul, 1) := by decide +kernel
theorem dX5_member_64 : decode cX5_member 64 = .ok (.bipush 8, 2) := by decide +kernel
theorem dX5_member_66 : decode cX5_member 66 = .ok (.iload_n 2, 1) := by decide +kernel
theorem dX5_member_67 : decode cX5_member 67 = .ok (.imul, 1) := by decide +kernel
theorem dX5_member_68 : decode cX5_member 68 = .ok (.iadd, 1) := by decide +kernel
theorem dX5_member_69 : decode cX5_member 69 = .ok (.iload_n 3, 1) := by decide +kernel
theorem dX5_member_70 : decode cX5_member 70 = .ok (.iadd, 1) := by decide +kernel
theorem dX5_member_71 : decode cX5_member 71 = .ok (.istore 6, 2) := by decide +kernel
theorem dX5_member_73 : decode cX5_member 73 = .ok (.aload_n 0, 1) := by decide +kernel
theorem dX5_member_74 : decode cX5_member 74 = .ok (.getfield 40, 3) := by decide +kernel
theorem dX5_member_77 : decode cX5_member 77 = .ok (.iload 6, 2) := by decide +kernel
theorem dX5_member_79 : decode cX5_member 79 = .ok (.baload, 1) := by decide +kernel
theorem dX5_member_80 : decode cX5_member 80 = .ok (.istore 7, 2) := by decide +kernel
theorem dX5_member_82 : decode cX5_member 82 = .ok (.aload_n 0, 1) := by decide +kernel
theorem dX5_member_83 : decode cX5_member 83 = .ok (.getfield 44, 3) := by decide +kernel
theorem dX5_member_86 : decode cX5_member 86 = .ok (.iload 6, 2) := by decide +kernel
theorem dX5_member_88 : decode cX5_member 88 = .ok (.iaload, 1) := by decide +kernel
theorem dX5_member_89 : decode cX5_member 89 = .ok (.istore 8, 2) := by decide +kernel
theorem dX5_member_91 : decode cX5_member 91 = .ok (.aload_n 0, 1) := by decide +kernel
theorem dX5_member_92 : decode cX5_member 92 = .ok (.getfield 40, 3) := by decide +kernel
theorem dX5_member_95 : decode cX5_member 95 = .ok (.iload 6, 2) := by decide +kernel
theorem dX5_member_97 : decode cX5_member 97 = .ok (.iload 4, 2) := by decide +kernel
theorem dX5_member_99 : decode cX5_member 99 = .ok (.bastore, 1) := by decide +kernel
theorem dX5_member_100 : decode cX5_member 100 = .ok (.aload_n 0, 1) := by decide +kernel
theorem dX5_member_101 : decode cX5_member 101 = .ok (.getfield 44, 3) := by decide +kernel
theorem dX5_member_104 : decode cX5_member 104 = .ok (.iload 6, 2) := by decide +kernel
theorem dX5_member_106 : decode cX5_member 106 = .ok (.iload 5, 2) := by decide +kernel
theorem dX5_member_108 : decode cX5_member 108 = .ok (.iastore, 1) := by decide +kernel
theorem dX5_member_109 : decode cX5_member 109 = .ok (.aload_n 0, 1) := by decide +kernel
theorem dX5_member_110 : decode cX5_member 110 = .ok (.getfield 72, 3) := by decide +kernel
theorem dX5_member_113 : decode cX5_member 113 = .ok (.istore 9, 2) := by decide +kernel
theorem dX5_member_115 : decode cX5_member 115 = .ok (.iload 7, 2) := by decide +kernel
theorem dX5_member_117 : decode cX5_member 117 = .ok (.iload 4, 2) := by decide +kernel
theorem dX5_member_119 : decode cX5_member 119 = .ok (.if_icmp .eq 26, 3) := by decide +kernel
theorem dX5_member_122 : decode cX5_member 122 = .ok (.aload_n 0, 1) := by decide +kernel
theorem dX5_member_123 : decode cX5_member 123 = .ok (.iload_n 1, 1) := by decide +kernel
theorem dX5_member_124 : decode cX5_member 124 = .ok (.iload_n 3, 1) := by decide +kernel
theorem dX5_member_125 : decode cX5_member 125 = .ok (.iload 4, 2) := by decide +kernel
theorem dX5_member_127 : decode cX5_member 127 = .ok (.ifCond .eq 7, 3) := by decide +kernel
theorem dX5_member_130 : decode cX5_member 130 = .ok (.iconst 3, 1) := by decide +kernel
theorem dX5_member_131 : decode cX5_member 131 = .ok (.goto 4, 3) := by decide +kernel
theorem dX5_member_134 : decode cX5_member 134 = .ok (.iconst 2, 1) := by decide +kernel
theorem dX5_member_135 : decode cX5_member 135 = .ok (.iload 5, 2) := by decide +kernel
theorem dX5_member_137 : decode cX5_member 137 = .ok (.invokevirtual 125, 3) := by decide +kernel
theorem dX5_member_140 : decode cX5_member 140 = .ok (.istore 10, 2) := by decide +kernel
theorem dX5_member_142 : decode cX5_member 142 = .ok (.goto 83, 3) := by decide +kernel
theorem dX5_member_145 : decode cX5_member 145 = .ok (.iload 4, 2) := by decide +kernel
theorem dX5_member_147 : decode cX5_member 147 = .ok (.ifCond .eq 13, 3) := by decide +kernel
theorem dX5_member_150 : decode cX5_member 150 = .ok (.iload 8, 2) := by decide +kernel
theorem dX5_member_152 : decode cX5_member 152 = .ok (.iload 5, 2) := by decide +kernel
theorem dX5_member_154 : decode cX5_member 154 = .ok (.iconst (-1), 1) := by decide +kernel
theorem dX5_member_155 : decode cX5_member 155 = .ok (.ixor, 1) := by decide +kernel
theorem dX5_member_156 : decode cX5_member 156 = .ok (.iand, 1) := by decide +kernel
theorem dX5_member_157 : decode cX5_member 157 = .ok (.goto 10, 3) := by decide +kernel
theorem dX5_member_160 : decode cX5_member 160 = .ok (.iload 5, 2) := by decide +kernel
theorem dX5_member_162 : decode cX5_member 162 = .ok (.iload 8, 2) := by decide +kernel
theorem dX5_member_164 : decode cX5_member 164 = .ok (.iconst (-1), 1) := by decide +kernel
theorem dX5_member_165 : decode cX5_member 165 = .ok (.ixor, 1) := by decide +kernel
theorem dX5_member_166 : decode cX5_member 166 = .ok (.iand, 1) := by decide +kernel
theorem dX5_member_167 : decode cX5_member 167 = .ok (.istore 10, 2) := by decide +kernel
theorem dX5_member_169 : decode cX5_member 169 = .ok (.iload 4, 2) := by decide +kernel
theorem dX5_member_171 : decode cX5_member 171 = .ok (.ifCond .eq 13, 3) := by decide +kernel
theorem dX5_member_174 : decode cX5_member 174 = .ok (.iload 5, 2) := by decide +kernel
theorem dX5_member_176 : decode cX5_member 176 = .ok (.iload 8, 2) := by decide +kernel
theorem dX5_member_178 : decode cX5_member 178 = .ok (.iconst (-1), 1) := by decide +kernel
theorem dX5_member_179 : decode cX5_member 179 = .ok (.ixor, 1) := by decide +kernel
theorem dX5_member_180 : decode cX5_member 180 = .ok (.iand, 1) := by decide +kernel
theorem dX5_member_181 : decode cX5_member 181 = .ok (.goto 10, 3) := by decide +kernel
theorem dX5_member_184 : decode cX5_member 184 = .ok (.iload 8, 2) := by decide +kernel
theorem dX5_member_186 : decode cX5_member 186 = .ok (.iload 5, 2) := by decide +kernel
theorem dX5_member_188 : decode cX5_member 188 = .ok (.iconst (-1), 1) := by decide +kernel
theorem dX5_member_189 : decode cX5_member 189 = .ok (.ixor, 1) := by decide +kernel
theorem dX5_member_190 : decode cX5_member 190 = .ok (.iand, 1) := by decide +kernel
theorem dX5_member_191 : decode cX5_member 191 = .ok (.istore 11, 2) := by decide +kernel
theorem dX5_member_193 : decode cX5_member 193 = .ok (.iload 10, 2) := by decide +kernel
theorem dX5_member_195 : decode cX5_member 195 = .ok (.ifCond .eq 14, 3) := by decide +kernel
theorem dX5_member_198 : decode cX5_member 198 = .ok (.aload_n 0, 1) := by decide +kernel
theorem dX5_member_199 : decode cX5_member 199 = .ok (.iload_n 1, 1) := by decide +kernel
theorem dX5_member_200 : decode cX5_member 200 = .ok (.iload_n 3, 1) := by decide +kernel
theorem dX5_member_201 : decode cX5_member 201 = .ok (.iconst 4, 1) := by decide +kernel
theorem dX5_member_202 : decode cX5_member 202 = .ok (.iload 10, 2) := by decide +kernel
theorem dX5_member_204 : decode cX5_member 204 = .ok (.invokevirtual 125, 3) := by decide +kernel
theorem dX5_member_207 : decode cX5_member 207 = .ok (.istore 12, 2) := by decide +kernel
theorem dX5_member_209 : decode cX5_member 209 = .ok (.iload 11, 2) := by decide +kernel
theorem dX5_member_211 : decode cX5_member 211 = .ok (.ifCond .eq 14, 3) := by decide +kernel
theorem dX5_member_214 : decode cX5_member 214 = .ok (.aload_n 0, 1) := by decide +kernel
theorem dX5_member_215 : decode cX5_member 215 = .ok (.iload_n 1, 1) := by decide +kernel
theorem dX5_member_216 : decode cX5_member 216 = .ok (.iload_n 3, 1) := by decide +kernel
theorem dX5_member_217 : decode cX5_member 217 = .ok (.iconst 5, 1) := by decide +kernel
theorem dX5_member_218 : decode cX5_member 218 = .ok (.iload 11, 2) := by decide +kernel
theorem dX5_member_220 : decode cX5_member 220 = .ok (.invokevirtual 125, 3) := by decide +kernel
theorem dX5_member_223 : decode cX5_member 223 = .ok (.istore 12, 2) := by decide +kernel
theorem dX5_member_225 : decode cX5_member 225 = .ok (.aload_n 0, 1) := by decide +kernel
theorem dX5_member_226 : decode cX5_member 226 = .ok (.getfield 72, 3) := by decide +kernel
theorem dX5_member_229 : decode cX5_member 229 = .ok (.iload 9, 2) := by decide +kernel
theorem dX5_member_231 : decode cX5_member 231 = .ok (.isub, 1) := by decide +kernel
theorem dX5_member_232 : decode cX5_member 232 = .ok (.ireturn, 1) := by decide +kernel
theorem dX5_answer_0 : decode cX5_answer 0 = .ok (.aload_n 0, 1) := by decide +kernel
theorem dX5_answer_1 : decode cX5_answer 1 = .ok (.aload_n 0, 1) := by decide +kernel
theorem dX5_answer_2 : decode cX5_answer 2 = .ok (.iload_n 1, 1) := by decide +kernel
theorem dX5_answer_3 : decode cX5_answer 3 = .ok (.invokevirtual 117, 3) := by decide +kernel
theorem dX5_answer_6 : decode cX5_answer 6 = .ok (.ifCond .eq 16, 3) := by decide +kernel
theorem dX5_answer_9 : decode cX5_answer 9 = .ok (.iload_n 2, 1) := by decide +kernel
theorem dX5_answer_10 : decode cX5_answer 10 = .ok (.iconst 0, 1) := by decide +kernel
theorem dX5_answer_11 : decode cX5_answer 11 = .ok (.iconst 5, 1) := by decide +kernel
theorem dX5_answer_12 : decode cX5_answer 12 = .ok (.invokestatic 120, 3) := by decide +kernel
theorem dX5_answer_15 : decode cX5_answer 15 = .ok (.ifCond .eq 7, 3) := by decide +kernel
theorem dX5_answer_18 : decode cX5_answer 18 = .ok (.iconst 0, 1) := by decide +kernel
theorem dX5_answer_19 : decode cX5_answer 19 = .ok (.goto 4, 3) := by decide +kernel
theorem dX5_answer_22 : decode cX5_answer 22 = .ok (.iconst 1, 1) := by decide +kernel
theorem dX5_answer_23 : decode cX5_answer 23 = .ok (.putfield 66, 3) := by decide +kernel
theorem dX5_answer_26 : decode cX5_answer 26 = .ok (.aload_n 0, 1) := by decide +kernel
theorem dX5_answer_27 : decode cX5_answer 27 = .ok (.getfield 66, 3) := by decide +kernel
theorem dX5_answer_30 : decode cX5_answer 30 = .ok (.ifCond .le 5, 3) := by decide +kernel
theorem dX5_answer_33 : decode cX5_answer 33 = .ok (.iconst 0, 1) := by decide +kernel
theorem dX5_answer_34 : decode cX5_answer 34 = .ok (.ireturn, 1) := by decide +kernel
theorem dX5_answer_35 : decode cX5_answer 35 = .ok (.iconst 0, 1) := by decide +kernel
theorem dX5_answer_36 : decode cX5_answer 36 = .ok (.istore_n 3, 1) := by decide +kernel
theorem dX5_answer_37 : decode cX5_answer 37 = .ok (.iconst 0, 1) := by decide +kernel
theorem dX5_answer_38 : decode cX5_answer 38 = .ok (.istore 4, 2) := by decide +kernel
theorem dX5_answer_40 : decode cX5_answer 40 = .ok (.iload 4, 2) := by decide +kernel
theorem dX5_answer_42 : decode cX5_answer 42 = .ok (.bipush 8, 2) := by decide +kernel
theorem dX5_answer_44 : decode cX5_answer 44 = .ok (.if_icmp .ge 77, 3) := by decide +kernel
theorem dX5_answer_47 : decode cX5_answer 47 = .ok (.bipush 48, 2) := by decide +kernel
theorem dX5_answer_49 : decode cX5_answer 49 = .ok (.iload_n 1, 1) := by decide +kernel
theorem dX5_answer_50 : decode cX5_answer 50 = .ok (.imul, 1) := by decide +kernel
theorem dX5_answer_51 : decode cX5_answer 51 = .ok (.bipush 8, 2) := by decide +kernel
theorem dX5_answer_53 : decode cX5_answer 53 = .ok (.iload_n 2, 1) := by decide +kernel
theorem dX5_answer_54 : decode cX5_answer 54 = .ok (.imul, 1) := by decide +kernel
theorem dX5_answer_55 : decode cX5_answer 55 = .ok (.iadd, 1) := by decide +kernel
theorem dX5_answer_56 : decode cX5_answer 56 = .ok (.iload 4, 2) := by decide +kernel
theorem dX5_answer_58 : decode cX5_answer 58 = .ok (.iadd, 1) := by decide +kernel
theorem dX5_answer_59 : decode cX5_answer 59 = .ok (.istore 5, 2) := by decide +kernel
theorem dX5_answer_61 : decode cX5_answer 61 = .ok (.aload_n 0, 1) := by decide +kernel
theorem dX5_answer_62 : decode cX5_answer 62 = .ok (.getfield 40, 3) := by decide +kernel
theorem dX5_answer_65 : decode cX5_answer 65 = .ok (.iload 5, 2) := by decide +kernel
theorem dX5_answer_67 : decode cX5_answer 67 = .ok (.baload, 1) := by decide +kernel
theorem dX5_answer_68 : decode cX5_answer 68 = .ok (.ifCond .ne 13, 3) := by decide +kernel
theorem dX5_answer_71 : decode cX5_answer 71 = .ok (.aload_n 0, 1) := by decide +kernel
theorem dX5_answer_72 : decode cX5_answer 72 = .ok (.getfield 44, 3) := by decide +kernel
theorem dX5_answer_75 : decode cX5_answer 75 = .ok (.iload 5, 2) := by decide +kernel
theorem dX5_answer_77 : decode cX5_answer 77 = .ok (.iaload, 1) := by decide +kernel
theorem dX5_answer_78 : decode cX5_answer 78 = .ok (.ifCond .eq 37, 3) := by decide +kernel
theorem dX5_answer_81 : decode cX5_answer 81 = .ok (.aload_n 0, 1) := by decide +kernel
theorem dX5_answer_82 : decode cX5_answer 82 = .ok (.iload_n 1, 1) := by decide +kernel
theorem dX5_answer_83 : decode cX5_answer 83 = .ok (.iload 4, 2) := by decide +kernel
theorem dX5_answer_85 : decode cX5_answer 85 = .ok (.aload_n 0, 1) := by decide +kernel
theorem dX5_answer_86 : decode cX5_answer 86 = .ok (.getfield 40, 3) := by decide +kernel
theorem dX5_answer_89 : decode cX5_answer 89 = .ok (.iload 5, 2) := by decide +kernel
theorem dX5_answer_91 : decode cX5_answer 91 = .ok (.baload, 1) := by decide +kernel
theorem dX5_answer_92 : decode cX5_answer 92 = .ok (.ifCond .eq 7, 3) := by decide +kernel
theorem dX5_answer_95 : decode cX5_answer 95 = .ok (.iconst 1, 1) := by decide +kernel
theorem dX5_answer_96 : decode cX5_answer 96 = .ok (.goto 4, 3) := by decide +kernel
theorem dX5_answer_99 : decode cX5_answer 99 = .ok (.iconst 0, 1) := by decide +kernel
theorem dX5_answer_100 : decode cX5_answer 100 = .ok (.aload_n 0, 1) := by decide +kernel
theorem dX5_answer_101 : decode cX5_answer 101 = .ok (.getfield 44, 3) := by decide +kernel
theorem dX5_answer_104 : decode cX5_answer 104 = .ok (.iload 5, 2) := by decide +kernel
theorem dX5_answer_106 : decode cX5_answer 106 = .ok (.iaload, 1) := by decide +kernel
theorem dX5_answer_107 : decode cX5_answer 107 = .ok (.invokevirtual 125, 3) := by decide +kernel
theorem dX5_answer_110 : decode cX5_answer 110 = .ok (.istore 6, 2) := by decide +kernel
theorem dX5_answer_112 : decode cX5_answer 112 = .ok (.iinc 3 1, 3) := by decide +kernel
theorem dX5_answer_115 : decode cX5_answer 115 = .ok (.iinc 4 1, 3) := by decide +kernel
theorem dX5_answer_118 : decode cX5_answer 118 = .ok (.goto (-78), 3) := by decide +kernel
theorem dX5_answer_121 : decode cX5_answer 121 = .ok (.iload_n 3, 1) := by decide +kernel
theorem dX5_answer_122 : decode cX5_answer 122 = .ok (.ireturn, 1) := by decide +kernel
theorem dX5_wanted_0 : decode cX5_wanted 0 = .ok (.aload_n 0, 1) := by decide +kernel
theorem dX5_wanted_1 : decode cX5_wanted 1 = .ok (.aload_n 0, 1) := by decide +kernel
theorem dX5_wanted_2 : decode cX5_wanted 2 = .ok (.iload_n 1, 1) := by decide +kernel
theorem dX5_wanted_3 : decode cX5_wanted 3 = .ok (.invokevirtual 117, 3) := by decide +kernel
theorem dX5_wanted_6 : decode cX5_wanted 6 = .ok (.ifCond .eq 27, 3) := by decide +kernel
theorem dX5_wanted_9 : decode cX5_wanted 9 = .ok (.iload_n 2, 1) := by decide +kernel
theorem dX5_wanted_10 : decode cX5_wanted 10 = .ok (.iconst 0, 1) := by decide +kernel
theorem dX5_wanted_11 : decode cX5_wanted 11 = .ok (.bipush 7, 2) := by decide +kernel
theorem dX5_wanted_13 : decode cX5_wanted 13 = .ok (.invokestatic 120, 3) := by decide +kernel
theorem dX5_wanted_16 : decode cX5_wanted 16 = .ok (.ifCond .eq 17, 3) := by decide +kernel
theorem dX5_wanted_19 : decode cX5_wanted 19 = .ok (.iload_n 3, 1) := by decide +kernel
theorem dX5_wanted_20 : decode cX5_wanted 20 = .ok (.iconst 0, 1) := by decide +kernel
theorem dX5_wanted_21 : decode cX5_wanted 21 = .ok (.bipush 15, 2) := by decide +kernel
theorem dX5_wanted_23 : decode cX5_wanted 23 = .ok (.invokestatic 120, 3) := by decide +kernel
theorem dX5_wanted_26 : decode cX5_wanted 26 = .ok (.ifCond .eq 7, 3) := by decide +kernel
theorem dX5_wanted_29 : decode cX5_wanted 29 = .ok (.iconst 0, 1) := by decide +kernel
theorem dX5_wanted_30 : decode cX5_wanted 30 = .ok (.goto 4, 3) := by decide +kernel
theorem dX5_wanted_33 : decode cX5_wanted 33 = .ok (.iconst 1, 1) := by decide +kernel
theorem dX5_wanted_34 : decode cX5_wanted 34 = .ok (.putfield 66, 3) := by decide +kernel
theorem dX5_wanted_37 : decode cX5_wanted 37 = .ok (.iconst 0, 1) := by decide +kernel
theorem dX5_wanted_38 : decode cX5_wanted 38 = .ok (.istore 4, 2) := by decide +kernel
theorem dX5_wanted_40 : decode cX5_wanted 40 = .ok (.iconst 0, 1) := by decide +kernel
theorem dX5_wanted_41 : decode cX5_wanted 41 = .ok (.istore 5, 2) := by decide +kernel
theorem dX5_wanted_43 : decode cX5_wanted 43 = .ok (.iload 5, 2) := by decide +kernel
theorem dX5_wanted_45 : decode cX5_wanted 45 = .ok (.bipush 6, 2) := by decide +kernel
theorem dX5_wanted_47 : decode cX5_wanted 47 = .ok (.if_icmp .ge 72, 3) := by decide +kernel
theorem dX5_wanted_50 : decode cX5_wanted 50 = .ok (.aload_n 0, 1) := by decide +kernel
theorem dX5_wanted_51 : decode cX5_wanted 51 = .ok (.getfield 66, 3) := by decide +kernel
theorem dX5_wanted_54 : decode cX5_wanted 54 = .ok (.ifCond .ne 65, 3) := by decide +kernel
theorem dX5_wanted_57 : decode cX5_wanted 57 = .ok (.bipush 48, 2) := by decide +kernel
theorem dX5_wanted_59 : decode cX5_wanted 59 = .ok (.iload_n 1, 1) := by decide +kernel
theorem dX5_wanted_60 : decode cX5_wanted 60 = .ok (.imul, 1) := by decide +kernel
theorem dX5_wanted_61 : decode cX5_wanted 61 = .ok (.bipush 8, 2) := by decide +kernel
theorem dX5_wanted_63 : decode cX5_wanted 63 = .ok (.iload 5, 2) := by decide +kernel
theorem dX5_wanted_65 : decode cX5_wanted 65 = .ok (.imul, 1) := by decide +kernel
theorem dX5_wanted_66 : decode cX5_wanted 66 = .ok (.iadd, 1) := by decide +kernel
theorem dX5_wanted_67 : decode cX5_wanted 67 = .ok (.iload_n 2, 1) := by decide +kernel
theorem dX5_wanted_68 : decode cX5_wanted 68 = .ok (.iadd, 1) := by decide +kernel
theorem dX5_wanted_69 : decode cX5_wanted 69 = .ok (.istore 6, 2) := by decide +kernel
theorem dX5_wanted_71 : decode cX5_wanted 71 = .ok (.iload 4, 2) := by decide +kernel
theorem dX5_wanted_73 : decode cX5_wanted 73 = .ok (.ifCond .ne 33, 3) := by decide +kernel
theorem dX5_wanted_76 : decode cX5_wanted 76 = .ok (.aload_n 0, 1) := by decide +kernel
theorem dX5_wanted_77 : decode cX5_wanted 77 = .ok (.getfield 44, 3) := by decide +kernel
theorem dX5_wanted_80 : decode cX5_wanted 80 = .ok (.iload 6, 2) := by decide +kernel
theorem dX5_wanted_82 : decode cX5_wanted 82 = .ok (.iaload, 1) := by decide +kernel
theorem dX5_wanted_83 : decode cX5_wanted 83 = .ok (.iload_n 3, 1) := by decide +kernel
theorem dX5_wanted_84 : decode cX5_wanted 84 = .ok (.ishr, 1) := by decide +kernel
theorem dX5_wanted_85 : decode cX5_wanted 85 = .ok (.iconst 1, 1) := by decide +kernel
theorem dX5_wanted_86 : decode cX5_wanted 86 = .ok (.iand, 1) := by decide +kernel
theorem dX5_wanted_87 : decode cX5_wanted 87 = .ok (.iconst 1, 1) := by decide +kernel
theorem dX5_wanted_88 : decode cX5_wanted 88 = .ok (.if_icmp .ne 7, 3) := by decide +kernel
theorem dX5_wanted_91 : decode cX5_wanted 91 = .ok (.iconst 1, 1) := by decide +kernel
theorem dX5_wanted_92 : decode cX5_wanted 92 = .ok (.goto 4, 3) := by decide +kernel
theorem dX5_wanted_95 : decode cX5_wanted 95 = .ok (.iconst 0, 1) := by decide +kernel
theorem dX5_wanted_96 : decode cX5_wanted 96 = .ok (.aload_n 0, 1) := by decide +kernel
theorem dX5_wanted_97 : decode cX5_wanted 97 = .ok (.getfield 40, 3) := by decide +kernel
theorem dX5_wanted_100 : decode cX5_wanted 100 = .ok (.iload 6, 2) := by decide +kernel
theorem dX5_wanted_102 : decode cX5_wanted 102 = .ok (.baload, 1) := by decide +kernel
theorem dX5_wanted_103 : decode cX5_wanted 103 = .ok (.if_icmp .eq 7, 3) := by decide +kernel
theorem dX5_wanted_106 : decode cX5_wanted 106 = .ok (.iconst 1, 1) := by decide +kernel
theorem dX5_wanted_107 : decode cX5_wanted 107 = .ok (.goto 4, 3) := by decide +kernel
theorem dX5_wanted_110 : decode cX5_wanted 110 = .ok (.iconst 0, 1) := by decide +kernel
theorem dX5_wanted_111 : decode cX5_wanted 111 = .ok (.istore 4, 2) := by decide +kernel
theorem dX5_wanted_113 : decode cX5_wanted 113 = .ok (.iinc 5 1, 3) := by decide +kernel
theorem dX5_wanted_116 : decode cX5_wanted 116 = .ok (.goto (-73), 3) := by decide +kernel
theorem dX5_wanted_119 : decode cX5_wanted 119 = .ok (.iload 4, 2) := by decide +kernel
theorem dX5_wanted_121 : decode cX5_wanted 121 = .ok (.ireturn, 1) := by decide +kernel
theorem dX5_passed_0 : decode cX5_passed 0 = .ok (.aload_n 0, 1) := by decide +kernel
theorem dX5_passed_1 : decode cX5_passed 1 = .ok (.aload_n 0, 1) := by decide +kernel
theorem dX5_passed_2 : decode cX5_passed 2 = .ok (.iload_n 1, 1) := by decide +kernel
theorem dX5_passed_3 : decode cX5_passed 3 = .ok (.invokevirtual 117, 3) := by decide +kernel
theorem dX5_passed_6 : decode cX5_passed 6 = .ok (.ifCond .eq 27, 3) := by decide +kernel
theorem dX5_passed_9 : decode cX5_passed 9 = .ok (.iload_n 2, 1) := by decide +kernel
theorem dX5_passed_10 : decode cX5_passed 10 = .ok (.iconst 0, 1) := by decide +kernel
theorem dX5_passed_11 : decode cX5_passed 11 = .ok (.bipush 7, 2) := by decide +kernel
theorem dX5_passed_13 : decode cX5_passed 13 = .ok (.invokestatic 120, 3) := by decide +kernel
theorem dX5_passed_16 : decode cX5_passed 16 = .ok (.ifCond .eq 17, 3) := by decide +kernel
theorem dX5_passed_19 : decode cX5_passed 19 = .ok (.iload_n 3, 1) := by decide +kernel
theorem dX5_passed_20 : decode cX5_passed 20 = .ok (.iconst 0, 1) := by decide +kernel
theorem dX5_passed_21 : decode cX5_passed 21 = .ok (.bipush 15, 2) := by decide +kernel
theorem dX5_passed_23 : decode cX5_passed 23 = .ok (.invokestatic 120, 3) := by decide +kernel
theorem dX5_passed_26 : decode cX5_passed 26 = .ok (.ifCond .eq 7, 3) := by decide +kernel
theorem dX5_passed_29 : decode cX5_passed 29 = .ok (.iconst 0, 1) := by decide +kernel
theorem dX5_passed_30 : decode cX5_passed 30 = .ok (.goto 4, 3) := by decide +kernel
theorem dX5_passed_33 : decode cX5_passed 33 = .ok (.iconst 1, 1) := by decide +kernel
theorem dX5_passed_34 : decode cX5_passed 34 = .ok (.putfield 66, 3) := by decide +kernel
theorem dX5_passed_37 : decode cX5_passed 37 = .ok (.iconst 0, 1) := by decide +kernel
theorem dX5_passed_38 : decode cX5_passed 38 = .ok (.istore 4, 2) := by decide +kernel
theorem dX5_passed_40 : decode cX5_passed 40 = .ok (.iconst 0, 1) := by decide +kernel
theorem dX5_passed_41 : decode cX5_passed 41 = .ok (.istore 5, 2) := by decide +kernel
theorem dX5_passed_43 : decode cX5_passed 43 = .ok (.iload 5, 2) := by decide +kernel
theorem dX5_passed_45 : decode cX5_passed 45 = .ok (.aload_n 0, 1) := by decide +kernel
theorem dX5_passed_46 : decode cX5_passed 46 = .ok (.getfield 59, 3) := by decide +kernel
theorem dX5_passed_49 : decode cX5_passed 49 = .ok (.if_icmp .ge 104, 3) := by decide +kernel
theorem dX5_passed_52 : decode cX5_passed 52 = .ok (.aload_n 0, 1) := by decide +kernel
theorem dX5_passed_53 : decode cX5_passed 53 = .ok (.getfield 66, 3) := by decide +kernel
theorem dX5_passed_56 : decode cX5_passed 56 = .ok (.ifCond .ne 97, 3) := by decide +kernel
theorem dX5_passed_59 : decode cX5_passed 59 = .ok (.bipush 8, 2) := by decide +kernel
theorem dX5_passed_61 : decode cX5_passed 61 = .ok (.iload 5, 2) := by decide +kernel
theorem dX5_passed_63 : decode cX5_passed 63 = .ok (.imul, 1) := by decide +kernel
theorem dX5_passed_64 : decode cX5_passed 64 = .ok (.iload_n 2, 1) := by decide +kernel
theorem dX5_passed_65 : decode cX5_passed 65 = .ok (.iadd, 1) := by decide +kernel
theorem dX5_passed_66 : decode cX5_passed 66 = .ok (.istore 6, 2) := by decide +kernel
theorem dX5_passed_68 : decode cX5_passed 68 = .ok (.aload_n 0, 1) := by decide +kernel
theorem dX5_passed_69 : decode cX5_passed 69 = .ok (.getfield 34, 3) := by decide +kernel
theorem dX5_passed_72 : decode cX5_passed 72 = .ok (.bipush 16, 2) := by decide +kernel
theorem dX5_passed_74 : decode cX5_passed 74 = .ok (.iload 6, 2) := by decide +kernel
theorem dX5_passed_76 : decode cX5_passed 76 = .ok (.imul, 1) := by decide +kernel
theorem dX5_passed_77 : decode cX5_passed 77 = .ok (.iload_n 3, 1) := by decide +kernel
theorem dX5_passed_78 : decode cX5_passed 78 = .ok (.iadd, 1) := by decide +kernel
theorem dX5_passed_79 : decode cX5_passed 79 = .ok (.iaload, 1) := by decide +kernel
theorem dX5_passed_80 : decode cX5_passed 80 = .ok (.istore 7, 2) := by decide +kernel
theorem dX5_passed_82 : decode cX5_passed 82 = .ok (.aload_n 0, 1) := by decide +kernel
theorem dX5_passed_83 : decode cX5_passed 83 = .ok (.getfield 28, 3) := by decide +kernel
theorem dX5_passed_86 : decode cX5_passed 86 = .ok (.iload 6, 2) := by decide +kernel
theorem dX5_passed_88 : decode cX5_passed 88 = .ok (.iaload, 1) := by decide +kernel
theorem dX5_passed_89 : decode cX5_passed 89 = .ok (.ifCond .ne 9, 3) := by decide +kernel
theorem dX5_passed_92 : decode cX5_passed 92 = .ok (.iload 7, 2) := by decide +kernel
theorem dX5_passed_94 : decode cX5_passed 94 = .ok (.iconst 1, 1) := by decide +kernel
theorem dX5_passed_95 : decode cX5_passed 95 = .ok (.if_icmp .eq 20, 3) := by decide +kernel
theorem dX5_passed_98 : decode cX5_passed 98 = .ok (.aload_n 0, 1) := by decide +kernel
theorem dX5_passed_99 : decode cX5_passed 99 = .ok (.getfield 28, 3) := by decide +kernel
theorem dX5_passed_102 : decode cX5_passed 102 = .ok (.iload 6, 2) := by decide +kernel
theorem dX5_passed_104 : decode cX5_passed 104 = .ok (.iaload, 1) := by decide +kernel
theorem dX5_passed_105 : decode cX5_passed 105 = .ok (.iconst 1, 1) := by decide +kernel
theorem dX5_passed_106 : decode cX5_passed 106 = .ok (.if_icmp .ne 13, 3) := by decide +kernel
theorem dX5_passed_109 : decode cX5_passed 109 = .ok (.iload 7, 2) := by decide +kernel
theorem dX5_passed_111 : decode cX5_passed 111 = .ok (.iconst 2, 1) := by decide +kernel
theorem dX5_passed_112 : decode cX5_passed 112 = .ok (.if_icmp .eq 7, 3) := by decide +kernel
theorem dX5_passed_115 : decode cX5_passed 115 = .ok (.iconst 1, 1) := by decide +kernel
theorem dX5_passed_116 : decode cX5_passed 116 = .ok (.goto 4, 3) := by decide +kernel
theorem dX5_passed_119 : decode cX5_passed 119 = .ok (.iconst 0, 1) := by decide +kernel
theorem dX5_passed_120 : decode cX5_passed 120 = .ok (.istore 8, 2) := by decide +kernel
theorem dX5_passed_122 : decode cX5_passed 122 = .ok (.iload 5, 2) := by decide +kernel
theorem dX5_passed_124 : decode cX5_passed 124 = .ok (.iload_n 1, 1) := by decide +kernel
theorem dX5_passed_125 : decode cX5_passed 125 = .ok (.if_icmp .eq 18, 3) := by decide +kernel
theorem dX5_passed_128 : decode cX5_passed 128 = .ok (.iload 8, 2) := by decide +kernel
theorem dX5_passed_130 : decode cX5_passed 130 = .ok (.ifCond .eq 13, 3) := by decide +kernel
theorem dX5_passed_133 : decode cX5_passed 133 = .ok (.iload 4, 2) := by decide +kernel
theorem dX5_passed_135 : decode cX5_passed 135 = .ok (.iconst 1, 1) := by decide +kernel
theorem dX5_passed_136 : decode cX5_passed 136 = .ok (.iload 5, 2) := by decide +kernel
theorem dX5_passed_138 : decode cX5_passed 138 = .ok (.ishl, 1) := by decide +kernel
theorem dX5_passed_139 : decode cX5_passed 139 = .ok (.iadd, 1) := by decide +kernel
theorem dX5_passed_140 : decode cX5_passed 140 = .ok (.goto 5, 3) := by decide +kernel
theorem dX5_passed_143 : decode cX5_passed 143 = .ok (.iload 4, 2) := by decide +kernel
theorem dX5_passed_145 : decode cX5_passed 145 = .ok (.istore 4, 2) := by decide +kernel
theorem dX5_passed_147 : decode cX5_passed 147 = .ok (.iinc 5 1, 3) := by decide +kernel
theorem dX5_passed_150 : decode cX5_passed 150 = .ok (.goto (-107), 3) := by decide +kernel
theorem dX5_passed_153 : decode cX5_passed 153 = .ok (.iload 4, 2) := by decide +kernel
theorem dX5_passed_155 : decode cX5_passed 155 = .ok (.ireturn, 1) := by decide +kernel
theorem dX5_knows_0 : decode cX5_knows 0 = .ok (.aload_n 0, 1) := by decide +kernel
theorem dX5_knows_1 : decode cX5_knows 1 = .ok (.aload_n 0, 1) := by decide +kernel
theorem dX5_knows_2 : decode cX5_knows 2 = .ok (.iload_n 1, 1) := by decide +kernel
theorem dX5_knows_3 : decode cX5_knows 3 = .ok (.invokevirtual 117, 3) := by decide +kernel
theorem dX5_knows_6 : decode cX5_knows 6 = .ok (.ifCond .eq 17, 3) := by decide +kernel
theorem dX5_knows_9 : decode cX5_knows 9 = .ok (.iload_n 2, 1) := by decide +kernel
theorem dX5_knows_10 : decode cX5_knows 10 = .ok (.iconst 0, 1) := by decide +kernel
theorem dX5_knows_11 : decode cX5_knows 11 = .ok (.bipush 7, 2) := by decide +kernel
theorem dX5_knows_13 : decode cX5_knows 13 = .ok (.invokestatic 120, 3) := by decide +kernel
theorem dX5_knows_16 : decode cX5_knows 16 = .ok (.ifCond .eq 7, 3) := by decide +kernel
theorem dX5_knows_19 : decode cX5_knows 19 = .ok (.iconst 0, 1) := by decide +kernel
theorem dX5_knows_20 : decode cX5_knows 20 = .ok (.goto 4, 3) := by decide +kernel
theorem dX5_knows_23 : decode cX5_knows 23 = .ok (.iconst 1, 1) := by decide +kernel
theorem dX5_knows_24 : decode cX5_knows 24 = .ok (.putfield 66, 3) := by decide +kernel
theorem dX5_knows_27 : decode cX5_knows 27 = .ok (.aload_n 0, 1) := by decide +kernel
theorem dX5_knows_28 : decode cX5_knows 28 = .ok (.getfield 66, 3) := by decide +kernel
theorem dX5_knows_31 : decode cX5_knows 31 = .ok (.ifCond .ne 7, 3) := by decide +kernel
theorem dX5_knows_34 : decode cX5_knows 34 = .ok (.iconst 1, 1) := by decide +kernel
theorem dX5_knows_35 : decode cX5_knows 35 = .ok (.goto 4, 3) := by decide +kernel
theorem dX5_knows_38 : decode cX5_knows 38 = .ok (.iconst 0, 1) := by decide +kernel
theorem dX5_knows_39 : decode cX5_knows 39 = .ok (.ireturn, 1) := by decide +kernel
theorem dX5_mode_0 : decode cX5_mode 0 = .ok (.aload_n 0, 1) := by decide +kernel
theorem dX5_mode_1 : decode cX5_mode 1 = .ok (.iload_n 1, 1) := by decide +kernel
theorem dX5_mode_2 : decode cX5_mode 2 = .ok (.iload_n 2, 1) := by decide +kernel
theorem dX5_mode_3 : decode cX5_mode 3 = .ok (.invokevirtual 136, 3) := by decide +kernel
theorem dX5_mode_6 : decode cX5_mode 6 = .ok (.ifCond .eq 17, 3) := by decide +kernel
theorem dX5_mode_9 : decode cX5_mode 9 = .ok (.aload_n 0, 1) := by decide +kernel
theorem dX5_mode_10 : decode cX5_mode 10 = .ok (.getfield 28, 3) := by decide +kernel
theorem dX5_mode_13 : decode cX5_mode 13 = .ok (.bipush 8, 2) := by decide +kernel
theorem dX5_mode_15 : decode cX5_mode 15 = .ok (.iload_n 1, 1) := by decide +kernel
theorem dX5_mode_16 : decode cX5_mode 16 = .ok (.imul, 1) := by decide +kernel
theorem dX5_mode_17 : decode cX5_mode 17 = .ok (.iload_n 2, 1) := by decide +kernel
theorem dX5_mode_18 : decode cX5_mode 18 = .ok (.iadd, 1) := by decide +kernel
theorem dX5_mode_19 : decode cX5_mode 19 = .ok (.iaload, 1) := by decide +kernel
theorem dX5_mode_20 : decode cX5_mode 20 = .ok (.goto 4, 3) := by decide +kernel
theorem dX5_mode_23 : decode cX5_mode 23 = .ok (.iconst 0, 1) := by decide +kernel
theorem dX5_mode_24 : decode cX5_mode 24 = .ok (.ireturn, 1) := by decide +kernel
theorem dX5_sources_0 : decode cX5_sources 0 = .ok (.aload_n 0, 1) := by decide +kernel
theorem dX5_sources_1 : decode cX5_sources 1 = .ok (.iload_n 1, 1) := by decide +kernel
theorem dX5_sources_2 : decode cX5_sources 2 = .ok (.iload_n 2, 1) := by decide +kernel
theorem dX5_sources_3 : decode cX5_sources 3 = .ok (.invokevirtual 136, 3) := by decide +kernel
theorem dX5_sources_6 : decode cX5_sources 6 = .ok (.ifCond .eq 25, 3) := by decide +kernel
theorem dX5_sources_9 : decode cX5_sources 9 = .ok (.aload_n 0, 1) := by decide +kernel
theorem dX5_sources_10 : decode cX5_sources 10 = .ok (.bipush 8, 2) := by decide +kernel
theorem dX5_sources_12 : decode cX5_sources 12 = .ok (.iload_n 1, 1) := by decide +kernel
theorem dX5_sources_13 : decode cX5_sources 13 = .ok (.imul, 1) := by decide +kernel
theorem dX5_sources_14 : decode cX5_sources 14 = .ok (.iload_n 2, 1) := by decide +kernel
theorem dX5_sources_15 : decode cX5_sources 15 = .ok (.iadd, 1) := by decide +kernel
theorem dX5_sources_16 : decode cX5_sources 16 = .ok (.iload_n 3, 1) := by decide +kernel
theorem dX5_sources_17 : decode cX5_sources 17 = .ok (.ifCond .eq 7, 3) := by decide +kernel
theorem dX5_sources_20 : decode cX5_sources 20 = .ok (.iconst 1, 1) := by decide +kernel
theorem dX5_sources_21 : decode cX5_sources 21 = .ok (.goto 4, 3) := by decide +kernel
theorem dX5_sources_24 : decode cX5_sources 24 = .ok (.iconst 2, 1) := by decide +kernel
theorem dX5_sources_25 : decode cX5_sources 25 = .ok (.invokevirtual 90, 3) := by decide +kernel
theorem dX5_sources_28 : decode cX5_sources 28 = .ok (.goto 4, 3) := by decide +kernel
theorem dX5_sources_31 : decode cX5_sources 31 = .ok (.iconst 0, 1) := by decide +kernel
theorem dX5_sources_32 : decode cX5_sources 32 = .ok (.ireturn, 1) := by decide +kernel
theorem dX5_timer_0 : decode cX5_timer 0 = .ok (.aload_n 0, 1) := by decide +kernel
theorem dX5_timer_1 : decode cX5_timer 1 = .ok (.aload_n 0, 1) := by decide +kernel
theorem dX5_timer_2 : decode cX5_timer 2 = .ok (.iload_n 1, 1) := by decide +kernel
theorem dX5_timer_3 : decode cX5_timer 3 = .ok (.invokevirtual 117, 3) := by decide +kernel
theorem dX5_timer_6 : decode cX5_timer 6 = .ok (.ifCond .eq 27, 3) := by decide +kernel
theorem dX5_timer_9 : decode cX5_timer 9 = .ok (.iload_n 2, 1) := by decide +kernel
theorem dX5_timer_10 : decode cX5_timer 10 = .ok (.iconst 0, 1) := by decide +kernel
theorem dX5_timer_11 : decode cX5_timer 11 = .ok (.bipush 7, 2) := by decide +kernel
theorem dX5_timer_13 : decode cX5_timer 13 = .ok (.invokestatic 120, 3) := by decide +kernel
theorem dX5_timer_16 : decode cX5_timer 16 = .ok (.ifCond .eq 17, 3) := by decide +kernel
theorem dX5_timer_19 : decode cX5_timer 19 = .ok (.iload_n 3, 1) := by decide +kernel
theorem dX5_timer_20 : decode cX5_timer 20 = .ok (.iconst 0, 1) := by decide +kernel
theorem dX5_timer_21 : decode cX5_timer 21 = .ok (.bipush 15, 2) := by decide +kernel
theorem dX5_timer_23 : decode cX5_timer 23 = .ok (.invokestatic 120, 3) := by decide +kernel
theorem dX5_timer_26 : decode cX5_timer 26 = .ok (.ifCond .eq 7, 3) := by decide +kernel
theorem dX5_timer_29 : decode cX5_timer 29 = .ok (.iconst 0, 1) := by decide +kernel
theorem dX5_timer_30 : decode cX5_timer 30 = .ok (.goto 4, 3) := by decide +kernel
theorem dX5_timer_33 : decode cX5_timer 33 = .ok (.iconst 1, 1) := by decide +kernel
theorem dX5_timer_34 : decode cX5_timer 34 = .ok (.putfield 66, 3) := by decide +kernel
theorem dX5_timer_37 : decode cX5_timer 37 = .ok (.aload_n 0, 1) := by decide +kernel
theorem dX5_timer_38 : decode cX5_timer 38 = .ok (.getfield 66, 3) := by decide +kernel
theorem dX5_timer_41 : decode cX5_timer 41 = .ok (.ifCond .le 7, 3) := by decide +kernel
theorem dX5_timer_44 : decode cX5_timer 44 = .ok (.iconst 0, 1) := by decide +kernel
theorem dX5_timer_45 : decode cX5_timer 45 = .ok (.goto 19, 3) := by decide +kernel
theorem dX5_timer_48 : decode cX5_timer 48 = .ok (.aload_n 0, 1) := by decide +kernel
theorem dX5_timer_49 : decode cX5_timer 49 = .ok (.getfield 37, 3) := by decide +kernel
theorem dX5_timer_52 : decode cX5_timer 52 = .ok (.bipush 16, 2) := by decide +kernel
theorem dX5_timer_54 : decode cX5_timer 54 = .ok (.bipush 8, 2) := by decide +kernel
theorem dX5_timer_56 : decode cX5_timer 56 = .ok (.iload_n 1, 1) := by decide +kernel
theorem dX5_timer_57 : decode cX5_timer 57 = .ok (.imul, 1) := by decide +kernel
theorem dX5_timer_58 : decode cX5_timer 58 = .ok (.iload_n 2, 1) := by decide +kernel
theorem dX5_timer_59 : decode cX5_timer 59 = .ok (.iadd, 1) := by decide +kernel
theorem dX5_timer_60 : decode cX5_timer 60 = .ok (.imul, 1) := by decide +kernel
theorem dX5_timer_61 : decode cX5_timer 61 = .ok (.iload_n 3, 1) := by decide +kernel
theorem dX5_timer_62 : decode cX5_timer 62 = .ok (.iadd, 1) := by decide +kernel
theorem dX5_timer_63 : decode cX5_timer 63 = .ok (.iaload, 1) := by decide +kernel
theorem dX5_timer_64 : decode cX5_timer 64 = .ok (.ireturn, 1) := by decide +kernel
theorem dX5_groupTimer_0 : decode cX5_groupTimer 0 = .ok (.aload_n 0, 1) := by decide +kernel
theorem dX5_groupTimer_1 : decode cX5_groupTimer 1 = .ok (.iload_n 1, 1) := by decide +kernel
theorem dX5_groupTimer_2 : decode cX5_groupTimer 2 = .ok (.iload_n 2, 1) := by decide +kernel
theorem dX5_groupTimer_3 : decode cX5_groupTimer 3 = .ok (.invokevirtual 136, 3) := by decide +kernel
theorem dX5_groupTimer_6 : decode cX5_groupTimer 6 = .ok (.ifCond .eq 17, 3) := by decide +kernel
theorem dX5_groupTimer_9 : decode cX5_groupTimer 9 = .ok (.aload_n 0, 1) := by decide +kernel
theorem dX5_groupTimer_10 : decode cX5_groupTimer 10 = .ok (.getfield 31, 3) := by decide +kernel
theorem dX5_groupTimer_13 : decode cX5_groupTimer 13 = .ok (.bipush 8, 2) := by decide +kernel
theorem dX5_groupTimer_15 : decode cX5_groupTimer 15 = .ok (.iload_n 1, 1) := by decide +kernel
theorem dX5_groupTimer_16 : decode cX5_groupTimer 16 = .ok (.imul, 1) := by decide +kernel
theorem dX5_groupTimer_17 : decode cX5_groupTimer 17 = .ok (.iload_n 2, 1) := by decide +kernel
theorem dX5_groupTimer_18 : decode cX5_groupTimer 18 = .ok (.iadd, 1) := by decide +kernel
theorem dX5_groupTimer_19 : decode cX5_groupTimer 19 = .ok (.iaload, 1) := by decide +kernel
theorem dX5_groupTimer_20 : decode cX5_groupTimer 20 = .ok (.goto 4, 3) := by decide +kernel
theorem dX5_groupTimer_23 : decode cX5_groupTimer 23 = .ok (.iconst 0, 1) := by decide +kernel
theorem dX5_groupTimer_24 : decode cX5_groupTimer 24 = .ok (.ireturn, 1) := by decide +kernel
theorem dX5_sent_0 : decode cX5_sent 0 = .ok (.aload_n 0, 1) := by decide +kernel
theorem dX5_sent_1 : decode cX5_sent 1 = .ok (.iconst 0, 1) := by decide +kernel
theorem dX5_sent_2 : decode cX5_sent 2 = .ok (.putfield 66, 3) := by decide +kernel
theorem dX5_sent_5 : decode cX5_sent 5 = .ok (.aload_n 0, 1) := by decide +kernel
theorem dX5_sent_6 : decode cX5_sent 6 = .ok (.getfield 72, 3) := by decide +kernel
theorem dX5_sent_9 : decode cX5_sent 9 = .ok (.ireturn, 1) := by decide +kernel
theorem dX5_asked_0 : decode cX5_asked 0 = .ok (.aload_n 0, 1) := by decide +kernel
theorem dX5_asked_1 : decode cX5_asked 1 = .ok (.iload_n 1, 1) := by decide +kernel
theorem dX5_asked_2 : decode cX5_asked 2 = .ok (.ifCond .lt 17, 3) := by decide +kernel
theorem dX5_asked_5 : decode cX5_asked 5 = .ok (.iload_n 1, 1) := by decide +kernel
theorem dX5_asked_6 : decode cX5_asked 6 = .ok (.bipush 39, 2) := by decide +kernel
theorem dX5_asked_8 : decode cX5_asked 8 = .ok (.if_icmp .gt 11, 3) := by decide +kernel
theorem dX5_asked_11 : decode cX5_asked 11 = .ok (.iload_n 1, 1) := by decide +kernel
theorem dX5_asked_12 : decode cX5_asked 12 = .ok (.aload_n 0, 1) := by decide +kernel
theorem dX5_asked_13 : decode cX5_asked 13 = .ok (.getfield 72, 3) := by decide +kernel
theorem dX5_asked_16 : decode cX5_asked 16 = .ok (.if_icmp .lt 7, 3) := by decide +kernel
theorem dX5_asked_19 : decode cX5_asked 19 = .ok (.iconst 1, 1) := by decide +kernel
theorem dX5_asked_20 : decode cX5_asked 20 = .ok (.goto 17, 3) := by decide +kernel
theorem dX5_asked_23 : decode cX5_asked 23 = .ok (.iload_n 2, 1) := by decide +kernel
theorem dX5_asked_24 : decode cX5_asked 24 = .ok (.iconst 0, 1) := by decide +kernel
theorem dX5_asked_25 : decode cX5_asked 25 = .ok (.iconst 3, 1) := by decide +kernel
theorem dX5_asked_26 : decode cX5_asked 26 = .ok (.invokestatic 120, 3) := by decide +kernel
theorem dX5_asked_29 : decode cX5_asked 29 = .ok (.ifCond .eq 7, 3) := by decide +kernel
theorem dX5_asked_32 : decode cX5_asked 32 = .ok (.iconst 0, 1) := by decide +kernel
theorem dX5_asked_33 : decode cX5_asked 33 = .ok (.goto 4, 3) := by decide +kernel
theorem dX5_asked_36 : decode cX5_asked 36 = .ok (.iconst 2, 1) := by decide +kernel
theorem dX5_asked_37 : decode cX5_asked 37 = .ok (.putfield 66, 3) := by decide +kernel
theorem dX5_asked_40 : decode cX5_asked 40 = .ok (.aload_n 0, 1) := by decide +kernel
theorem dX5_asked_41 : decode cX5_asked 41 = .ok (.getfield 66, 3) := by decide +kernel
theorem dX5_asked_44 : decode cX5_asked 44 = .ok (.ifCond .le 5, 3) := by decide +kernel
theorem dX5_asked_47 : decode cX5_asked 47 = .ok (.iconst 0, 1) := by decide +kernel
theorem dX5_asked_48 : decode cX5_asked 48 = .ok (.ireturn, 1) := by decide +kernel
theorem dX5_asked_49 : decode cX5_asked 49 = .ok (.aload_n 0, 1) := by decide +kernel
theorem dX5_asked_50 : decode cX5_asked 50 = .ok (.getfield 72, 3) := by decide +kernel
theorem dX5_asked_53 : decode cX5_asked 53 = .ok (.iconst 1, 1) := by decide +kernel
theorem dX5_asked_54 : decode cX5_asked 54 = .ok (.isub, 1) := by decide +kernel
theorem dX5_asked_55 : decode cX5_asked 55 = .ok (.iload_n 1, 1) := by decide +kernel
theorem dX5_asked_56 : decode cX5_asked 56 = .ok (.isub, 1) := by decide +kernel
theorem dX5_asked_57 : decode cX5_asked 57 = .ok (.bipush 40, 2) := by decide +kernel
theorem dX5_asked_59 : decode cX5_asked 59 = .ok (.irem, 1) := by decide +kernel
theorem dX5_asked_60 : decode cX5_asked 60 = .ok (.istore_n 3, 1) := by decide +kernel
theorem dX5_asked_61 : decode cX5_asked 61 = .ok (.iload_n 2, 1) := by decide +kernel
theorem dX5_asked_62 : decode cX5_asked 62 = .ok (.ifCond .ne 12, 3) := by decide +kernel
theorem dX5_asked_65 : decode cX5_asked 65 = .ok (.aload_n 0, 1) := by decide +kernel
theorem dX5_asked_66 : decode cX5_asked 66 = .ok (.getfield 47, 3) := by decide +kernel
theorem dX5_asked_69 : decode cX5_asked 69 = .ok (.iload_n 3, 1) := by decide +kernel
theorem dX5_asked_70 : decode cX5_asked 70 = .ok (.iaload, 1) := by decide +kernel
theorem dX5_asked_71 : decode cX5_asked 71 = .ok (.goto 37, 3) := by decide +kernel
theorem dX5_asked_74 : decode cX5_asked 74 = .ok (.iload_n 2, 1) := by decide +kernel
theorem dX5_asked_75 : decode cX5_asked 75 = .ok (.iconst 1, 1) := by decide +kernel
theorem dX5_asked_76 : decode cX5_asked 76 = .ok (.if_icmp .ne 12, 3) := by decide +kernel
theorem dX5_asked_79 : decode cX5_asked 79 = .ok (.aload_n 0, 1) := by decide +kernel
theorem dX5_asked_80 : decode cX5_asked 80 = .ok (.getfield 50, 3) := by decide +kernel
theorem dX5_asked_83 : decode cX5_asked 83 = .ok (.iload_n 3, 1) := by decide +kernel
theorem dX5_asked_84 : decode cX5_asked 84 = .ok (.iaload, 1) := by decide +kernel
theorem dX5_asked_85 : decode cX5_asked 85 = .ok (.goto 23, 3) := by decide +kernel
theorem dX5_asked_88 : decode cX5_asked 88 = .ok (.iload_n 2, 1) := by decide +kernel
theorem dX5_asked_89 : decode cX5_asked 89 = .ok (.iconst 2, 1) := by decide +kernel
theorem dX5_asked_90 : decode cX5_asked 90 = .ok (.if_icmp .ne 12, 3) := by decide +kernel
theorem dX5_asked_93 : decode cX5_asked 93 = .ok (.aload_n 0, 1) := by decide +kernel
theorem dX5_asked_94 : decode cX5_asked 94 = .ok (.getfield 53, 3) := by decide +kernel
theorem dX5_asked_97 : decode cX5_asked 97 = .ok (.iload_n 3, 1) := by decide +kernel
theorem dX5_asked_98 : decode cX5_asked 98 = .ok (.iaload, 1) := by decide +kernel
theorem dX5_asked_99 : decode cX5_asked 99 = .ok (.goto 9, 3) := by decide +kernel
theorem dX5_asked_102 : decode cX5_asked 102 = .ok (.aload_n 0, 1) := by decide +kernel
theorem dX5_asked_103 : decode cX5_asked 103 = .ok (.getfield 56, 3) := by decide +kernel
theorem dX5_asked_106 : decode cX5_asked 106 = .ok (.iload_n 3, 1) := by decide +kernel
theorem dX5_asked_107 : decode cX5_asked 107 = .ok (.iaload, 1) := by decide +kernel
theorem dX5_asked_108 : decode cX5_asked 108 = .ok (.ireturn, 1) := by decide +kernel
theorem dX5_told_0 : decode cX5_told 0 = .ok (.aload_n 0, 1) := by decide +kernel
theorem dX5_told_1 : decode cX5_told 1 = .ok (.aload_n 0, 1) := by decide +kernel
theorem dX5_told_2 : decode cX5_told 2 = .ok (.iload_n 1, 1) := by decide +kernel
theorem dX5_told_3 : decode cX5_told 3 = .ok (.invokevirtual 117, 3) := by decide +kernel
theorem dX5_told_6 : decode cX5_told 6 = .ok (.ifCond .ne 7, 3) := by decide +kernel
theorem dX5_told_9 : decode cX5_told 9 = .ok (.iconst 1, 1) := by decide +kernel
theorem dX5_told_10 : decode cX5_told 10 = .ok (.goto 17, 3) := by decide +kernel
theorem dX5_told_13 : decode cX5_told 13 = .ok (.iload_n 2, 1) := by decide +kernel
theorem dX5_told_14 : decode cX5_told 14 = .ok (.iconst 0, 1) := by decide +kernel
theorem dX5_told_15 : decode cX5_told 15 = .ok (.iconst 5, 1) := by decide +kernel
theorem dX5_told_16 : decode cX5_told 16 = .ok (.invokestatic 120, 3) := by decide +kernel
theorem dX5_told_19 : decode cX5_told 19 = .ok (.ifCond .eq 7, 3) := by decide +kernel
theorem dX5_told_22 : decode cX5_told 22 = .ok (.iconst 0, 1) := by decide +kernel
theorem dX5_told_23 : decode cX5_told 23 = .ok (.goto 4, 3) := by decide +kernel
theorem dX5_told_26 : decode cX5_told 26 = .ok (.iconst 2, 1) := by decide +kernel
theorem dX5_told_27 : decode cX5_told 27 = .ok (.putfield 66, 3) := by decide +kernel
theorem dX5_told_30 : decode cX5_told 30 = .ok (.aload_n 0, 1) := by decide +kernel
theorem dX5_told_31 : decode cX5_told 31 = .ok (.getfield 66, 3) := by decide +kernel
theorem dX5_told_34 : decode cX5_told 34 = .ok (.ifCond .le 5, 3) := by decide +kernel
theorem dX5_told_37 : decode cX5_told 37 = .ok (.iconst 0, 1) := by decide +kernel
theorem dX5_told_38 : decode cX5_told 38 = .ok (.ireturn, 1) := by decide +kernel
theorem dX5_told_39 : decode cX5_told 39 = .ok (.iload_n 2, 1) := by decide +kernel
theorem dX5_told_40 : decode cX5_told 40 = .ok (.ifCond .ne 9, 3) := by decide +kernel
theorem dX5_told_43 : decode cX5_told 43 = .ok (.aload_n 0, 1) := by decide +kernel
theorem dX5_told_44 : decode cX5_told 44 = .ok (.iload_n 1, 1) := by decide +kernel
theorem dX5_told_45 : decode cX5_told 45 = .ok (.invokevirtual 98, 3) := by decide +kernel
theorem dX5_told_48 : decode cX5_told 48 = .ok (.ireturn, 1) := by decide +kernel
theorem dX5_told_49 : decode cX5_told 49 = .ok (.iload_n 2, 1) := by decide +kernel
theorem dX5_told_50 : decode cX5_told 50 = .ok (.iconst 1, 1) := by decide +kernel
theorem dX5_told_51 : decode cX5_told 51 = .ok (.if_icmp .ne 10, 3) := by decide +kernel
theorem dX5_told_54 : decode cX5_told 54 = .ok (.aload_n 0, 1) := by decide +kernel
theorem dX5_told_55 : decode cX5_told 55 = .ok (.getfield 7, 3) := by decide +kernel
theorem dX5_told_58 : decode cX5_told 58 = .ok (.iload_n 1, 1) := by decide +kernel
theorem dX5_told_59 : decode cX5_told 59 = .ok (.iaload, 1) := by decide +kernel
theorem dX5_told_60 : decode cX5_told 60 = .ok (.ireturn, 1) := by decide +kernel
theorem dX5_told_61 : decode cX5_told 61 = .ok (.iload_n 2, 1) := by decide +kernel
theorem dX5_told_62 : decode cX5_told 62 = .ok (.iconst 2, 1) := by decide +kernel
theorem dX5_told_63 : decode cX5_told 63 = .ok (.if_icmp .ne 10, 3) := by decide +kernel
theorem dX5_told_66 : decode cX5_told 66 = .ok (.aload_n 0, 1) := by decide +kernel
theorem dX5_told_67 : decode cX5_told 67 = .ok (.getfield 19, 3) := by decide +kernel
theorem dX5_told_70 : decode cX5_told 70 = .ok (.iload_n 1, 1) := by decide +kernel
theorem dX5_told_71 : decode cX5_told 71 = .ok (.iaload, 1) := by decide +kernel
theorem dX5_told_72 : decode cX5_told 72 = .ok (.ireturn, 1) := by decide +kernel
theorem dX5_told_73 : decode cX5_told 73 = .ok (.iload_n 2, 1) := by decide +kernel
theorem dX5_told_74 : decode cX5_told 74 = .ok (.iconst 3, 1) := by decide +kernel
theorem dX5_told_75 : decode cX5_told 75 = .ok (.if_icmp .ne 10, 3) := by decide +kernel
theorem dX5_told_78 : decode cX5_told 78 = .ok (.aload_n 0, 1) := by decide +kernel
theorem dX5_told_79 : decode cX5_told 79 = .ok (.getfield 22, 3) := by decide +kernel
theorem dX5_told_82 : decode cX5_told 82 = .ok (.iload_n 1, 1) := by decide +kernel
theorem dX5_told_83 : decode cX5_told 83 = .ok (.iaload, 1) := by decide +kernel
theorem dX5_told_84 : decode cX5_told 84 = .ok (.ireturn, 1) := by decide +kernel
theorem dX5_told_85 : decode cX5_told 85 = .ok (.iload_n 2, 1) := by decide +kernel
theorem dX5_told_86 : decode cX5_told 86 = .ok (.iconst 5, 1) := by decide +kernel
theorem dX5_told_87 : decode cX5_told 87 = .ok (.if_icmp .ne 22, 3) := by decide +kernel
theorem dX5_told_90 : decode cX5_told 90 = .ok (.aload_n 0, 1) := by decide +kernel
theorem dX5_told_91 : decode cX5_told 91 = .ok (.iload_n 1, 1) := by decide +kernel
theorem dX5_told_92 : decode cX5_told 92 = .ok (.invokevirtual 75, 3) := by decide +kernel
theorem dX5_told_95 : decode cX5_told 95 = .ok (.ifCond .eq 12, 3) := by decide +kernel
theorem dX5_told_98 : decode cX5_told 98 = .ok (.aload_n 0, 1) := by decide +kernel
theorem dX5_told_99 : decode cX5_told 99 = .ok (.getfield 25, 3) := by decide +kernel
theorem dX5_told_102 : decode cX5_told 102 = .ok (.iload_n 1, 1) := by decide +kernel
theorem dX5_told_103 : decode cX5_told 103 = .ok (.iaload, 1) := by decide +kernel
theorem dX5_told_104 : decode cX5_told 104 = .ok (.goto 4, 3) := by decide +kernel
theorem dX5_told_107 : decode cX5_told 107 = .ok (.iconst 0, 1) := by decide +kernel
theorem dX5_told_108 : decode cX5_told 108 = .ok (.ireturn, 1) := by decide +kernel
theorem dX5_told_109 : decode cX5_told 109 = .ok (.iconst 0, 1) := by decide +kernel
theorem dX5_told_110 : decode cX5_told 110 = .ok (.istore_n 3, 1) := by decide +kernel
theorem dX5_told_111 : decode cX5_told 111 = .ok (.iconst 0, 1) := by decide +kernel
theorem dX5_told_112 : decode cX5_told 112 = .ok (.istore 4, 2) := by decide +kernel
theorem dX5_told_114 : decode cX5_told 114 = .ok (.iload 4, 2) := by decide +kernel
theorem dX5_told_116 : decode cX5_told 116 = .ok (.bipush 8, 2) := by decide +kernel
theorem dX5_told_118 : decode cX5_told 118 = .ok (.if_icmp .ge 33, 3) := by decide +kernel
theorem dX5_told_121 : decode cX5_told 121 = .ok (.aload_n 0, 1) := by decide +kernel
theorem dX5_told_122 : decode cX5_told 122 = .ok (.getfield 28, 3) := by decide +kernel
theorem dX5_told_125 : decode cX5_told 125 = .ok (.bipush 8, 2) := by decide +kernel
theorem dX5_told_127 : decode cX5_told 127 = .ok (.iload_n 1, 1) := by decide +kernel
theorem dX5_told_128 : decode cX5_told 128 = .ok (.imul, 1) := by decide +kernel
theorem dX5_told_129 : decode cX5_told 129 = .ok (.iload 4, 2) := by decide +kernel
theorem dX5_told_131 : decode cX5_told 131 = .ok (.iadd, 1) := by decide +kernel
theorem dX5_told_132 : decode cX5_told 132 = .ok (.iaload, 1) := by decide +kernel
theorem dX5_told_133 : decode cX5_told 133 = .ok (.iconst (-1), 1) := by decide +kernel
theorem dX5_told_134 : decode cX5_told 134 = .ok (.if_icmp .ne 7, 3) := by decide +kernel
theorem dX5_told_137 : decode cX5_told 137 = .ok (.iload_n 3, 1) := by decide +kernel
theorem dX5_told_138 : decode cX5_told 138 = .ok (.goto 6, 3) := by decide +kernel
theorem dX5_told_141 : decode cX5_told 141 = .ok (.iload_n 3, 1) := by decide +kernel
theorem dX5_told_142 : decode cX5_told 142 = .ok (.iconst 1, 1) := by decide +kernel
theorem dX5_told_143 : decode cX5_told 143 = .ok (.iadd, 1) := by decide +kernel
theorem dX5_told_144 : decode cX5_told 144 = .ok (.istore_n 3, 1) := by decide +kernel
theorem dX5_told_145 : decode cX5_told 145 = .ok (.iinc 4 1, 3) := by decide +kernel
theorem dX5_told_148 : decode cX5_told 148 = .ok (.goto (-34), 3) := by decide +kernel
theorem dX5_told_151 : decode cX5_told 151 = .ok (.iload_n 3, 1) := by decide +kernel
theorem dX5_told_152 : decode cX5_told 152 = .ok (.ireturn, 1) := by decide +kernel
theorem dX5_clear_0 : decode cX5_clear 0 = .ok (.aload_n 0, 1) := by decide +kernel
theorem dX5_clear_1 : decode cX5_clear 1 = .ok (.iconst 0, 1) := by decide +kernel
theorem dX5_clear_2 : decode cX5_clear 2 = .ok (.putfield 66, 3) := by decide +kernel
theorem dX5_clear_5 : decode cX5_clear 5 = .ok (.aload_n 0, 1) := by decide +kernel
theorem dX5_clear_6 : decode cX5_clear 6 = .ok (.invokevirtual 63, 3) := by decide +kernel
theorem dX5_clear_9 : decode cX5_clear 9 = .ok (.return_, 1) := by decide +kernel
end
section
theorem dL_cell_0 : decode cL_cell 0 = .ok (.iload_n 1, 1) := by decide +kernel
theorem dL_cell_1 : decode cL_cell 1 = .ok (.aload_n 0, 1) := by decide +kernel
theorem dL_cell_2 : decode cL_cell 2 = .ok (.arraylength, 1) := by decide +kernel
theorem dL_cell_3 : decode cL_cell 3 = .ok (.if_icmp .ge 9, 3) := by decide +kernel
theorem dL_cell_6 : decode cL_cell 6 = .ok (.aload_n 0, 1) := by decide +kernel
theorem dL_cell_7 : decode cL_cell 7 = .ok (.iload_n 1, 1) := by decide +kernel
theorem dL_cell_8 : decode cL_cell 8 = .ok (.iaload, 1) := by decide +kernel
theorem dL_cell_9 : decode cL_cell 9 = .ok (.goto 4, 3) := by decide +kernel
theorem dL_cell_12 : decode cL_cell 12 = .ok (.iconst 0, 1) := by decide +kernel
theorem dL_cell_13 : decode cL_cell 13 = .ok (.ireturn, 1) := by decide +kernel
theorem dL_settings_0 : decode cL_settings 0 = .ok (.aload 5, 2) := by decide +kernel
theorem dL_settings_2 : decode cL_settings 2 = .ok (.iconst 0, 1) := by decide +kernel
theorem dL_settings_3 : decode cL_settings 3 = .ok (.aload_n 0, 1) := by decide +kernel
theorem dL_settings_4 : decode cL_settings 4 = .ok (.iload_n 1, 1) := by decide +kernel
theorem dL_settings_5 : decode cL_settings 5 = .ok (.iload_n 2, 1) := by decide +kernel
theorem dL_settings_6 : decode cL_settings 6 = .ok (.iload_n 3, 1) := by decide +kernel
theorem dL_settings_7 : decode cL_settings 7 = .ok (.iload 4, 2) := by decide +kernel
theorem dL_settings_9 : decode cL_settings 9 = .ok (.invokevirtual 7, 3) := by decide +kernel
theorem dL_settings_12 : decode cL_settings 12 = .ok (.i2l, 1) := by decide +kernel
theorem dL_settings_13 : decode cL_settings 13 = .ok (.lastore, 1) := by decide +kernel
theorem dL_settings_14 : decode cL_settings 14 = .ok (.goto 11, 3) := by decide +kernel
theorem dL_settings_17 : decode cL_settings 17 = .ok (.astore 6, 2) := by decide +kernel
theorem dL_settings_19 : decode cL_settings 19 = .ok (.iconst 1, 1) := by decide +kernel
theorem dL_settings_20 : decode cL_settings 20 = .ok (.ireturn, 1) := by decide +kernel
theorem dL_settings_21 : decode cL_settings 21 = .ok (.astore 6, 2) := by decide +kernel
theorem dL_settings_23 : decode cL_settings 23 = .ok (.iconst 2, 1) := by decide +kernel
theorem dL_settings_24 : decode cL_settings 24 = .ok (.ireturn, 1) := by decide +kernel
theorem dL_settings_25 : decode cL_settings 25 = .ok (.iconst 0, 1) := by decide +kernel
theorem dL_settings_26 : decode cL_settings 26 = .ok (.ireturn, 1) := by decide +kernel
theorem dL_report_0 : decode cL_report 0 = .ok (.aload 5, 2) := by decide +kernel
theorem dL_report_2 : decode cL_report 2 = .ok (.iconst 0, 1) := by decide +kernel
theorem dL_report_3 : decode cL_report 3 = .ok (.aload_n 0, 1) := by decide +kernel
theorem dL_report_4 : decode cL_report 4 = .ok (.iload_n 1, 1) := by decide +kernel
theorem dL_report_5 : decode cL_report 5 = .ok (.iload_n 2, 1) := by decide +kernel
theorem dL_report_6 : decode cL_report 6 = .ok (.iload_n 3, 1) := by decide +kernel
theorem dL_report_7 : decode cL_report 7 = .ok (.iload 4, 2) := by decide +kernel
theorem dL_report_9 : decode cL_report 9 = .ok (.invokevirtual 17, 3) := by decide +kernel
theorem dL_report_12 : decode cL_report 12 = .ok (.i2l, 1) := by decide +kernel
theorem dL_report_13 : decode cL_report 13 = .ok (.lastore, 1) := by decide +kernel
theorem dL_report_14 : decode cL_report 14 = .ok (.goto 11, 3) := by decide +kernel
theorem dL_report_17 : decode cL_report 17 = .ok (.astore 6, 2) := by decide +kernel
theorem dL_report_19 : decode cL_report 19 = .ok (.iconst 1, 1) := by decide +kernel
theorem dL_report_20 : decode cL_report 20 = .ok (.ireturn, 1) := by decide +kernel
theorem dL_report_21 : decode cL_report 21 = .ok (.astore 6, 2) := by decide +kernel
theorem dL_report_23 : decode cL_report 23 = .ok (.iconst 2, 1) := by decide +kernel
theorem dL_report_24 : decode cL_report 24 = .ok (.ireturn, 1) := by decide +kernel
theorem dL_report_25 : decode cL_report 25 = .ok (.iconst 0, 1) := by decide +kernel
theorem dL_report_26 : decode cL_report 26 = .ok (.ireturn, 1) := by decide +kernel
theorem dL_query_0 : decode cL_query 0 = .ok (.aload 6, 2) := by decide +kernel
theorem dL_query_2 : decode cL_query 2 = .ok (.iconst 0, 1) := by decide +kernel
theorem dL_query_3 : decode cL_query 3 = .ok (.aload_n 0, 1) := by decide +kernel
theorem dL_query_4 : decode cL_query 4 = .ok (.iload_n 1, 1) := by decide +kernel
theorem dL_query_5 : decode cL_query 5 = .ok (.iload_n 2, 1) := by decide +kernel
theorem dL_query_6 : decode cL_query 6 = .ok (.iload_n 3, 1) := by decide +kernel
theorem dL_query_7 : decode cL_query 7 = .ok (.iload 4, 2) := by decide +kernel
theorem dL_query_9 : decode cL_query 9 = .ok (.iload 5, 2) := by decide +kernel
theorem dL_query_11 : decode cL_query 11 = .ok (.invokevirtual 20, 3) := by decide +kernel
theorem dL_query_14 : decode cL_query 14 = .ok (.ifCond .eq 7, 3) := by decide +kernel
theorem dL_query_17 : decode cL_query 17 = .ok (.lconst 1, 1) := by decide +kernel
theorem dL_query_18 : decode cL_query 18 = .ok (.goto 4, 3) := by decide +kernel
theorem dL_query_21 : decode cL_query 21 = .ok (.lconst 0, 1) := by decide +kernel
theorem dL_query_22 : decode cL_query 22 = .ok (.lastore, 1) := by decide +kernel
theorem dL_query_23 : decode cL_query 23 = .ok (.goto 11, 3) := by decide +kernel
theorem dL_query_26 : decode cL_query 26 = .ok (.astore 7, 2) := by decide +kernel
theorem dL_query_28 : decode cL_query 28 = .ok (.iconst 1, 1) := by decide +kernel
theorem dL_query_29 : decode cL_query 29 = .ok (.ireturn, 1) := by decide +kernel
theorem dL_query_30 : decode cL_query 30 = .ok (.astore 7, 2) := by decide +kernel
theorem dL_query_32 : decode cL_query 32 = .ok (.iconst 2, 1) := by decide +kernel
theorem dL_query_33 : decode cL_query 33 = .ok (.ireturn, 1) := by decide +kernel
theorem dL_query_34 : decode cL_query 34 = .ok (.iconst 0, 1) := by decide +kernel
theorem dL_query_35 : decode cL_query 35 = .ok (.ireturn, 1) := by decide +kernel
theorem dL_tick_0 : decode cL_tick 0 = .ok (.aload_n 2, 1) := by decide +kernel
theorem dL_tick_1 : decode cL_tick 1 = .ok (.iconst 0, 1) := by decide +kernel
theorem dL_tick_2 : decode cL_tick 2 = .ok (.aload_n 0, 1) := by decide +kernel
theorem dL_tick_3 : decode cL_tick 3 = .ok (.iload_n 1, 1) := by decide +kernel
theorem dL_tick_4 : decode cL_tick 4 = .ok (.invokevirtual 24, 3) := by decide +kernel
theorem dL_tick_7 : decode cL_tick 7 = .ok (.i2l, 1) := by decide +kernel
theorem dL_tick_8 : decode cL_tick 8 = .ok (.lastore, 1) := by decide +kernel
theorem dL_tick_9 : decode cL_tick 9 = .ok (.goto 6, 3) := by decide +kernel
theorem dL_tick_12 : decode cL_tick 12 = .ok (.astore_n 3, 1) := by decide +kernel
theorem dL_tick_13 : decode cL_tick 13 = .ok (.iconst 1, 1) := by decide +kernel
theorem dL_tick_14 : decode cL_tick 14 = .ok (.ireturn, 1) := by decide +kernel
theorem dL_tick_15 : decode cL_tick 15 = .ok (.iconst 0, 1) := by decide +kernel
theorem dL_tick_16 : decode cL_tick 16 = .ok (.ireturn, 1) := by decide +kernel
theorem dL_member_0 : decode cL_member 0 = .ok (.aload 6, 2) := by decide +kernel
theorem dL_member_2 : decode cL_member 2 = .ok (.iconst 0, 1) := by decide +kernel
theorem dL_member_3 : decode cL_member 3 = .ok (.aload_n 0, 1) := by decide +kernel
theorem dL_member_4 : decode cL_member 4 = .ok (.iload_n 1, 1) := by decide +kernel
theorem dL_member_5 : decode cL_member 5 = .ok (.iload_n 2, 1) := by decide +kernel
theorem dL_member_6 : decode cL_member 6 = .ok (.iload_n 3, 1) := by decide +kernel
theorem dL_member_7 : decode cL_member 7 = .ok (.iload 4, 2) := by decide +kernel
theorem dL_member_9 : decode cL_member 9 = .ok (.iload 5, 2) := by decide +kernel
theorem dL_member_11 : decode cL_member 11 = .ok (.invokevirtual 28, 3) := by decide +kernel
theorem dL_member_14 : decode cL_member 14 = .ok (.i2l, 1) := by decide +kernel
theorem dL_member_15 : decode cL_member 15 = .ok (.lastore, 1) := by decide +kernel
theorem dL_member_16 : decode cL_member 16 = .ok (.goto 11, 3) := by decide +kernel
theorem dL_member_19 : decode cL_member 19 = .ok (.astore 7, 2) := by decide +kernel
theorem dL_member_21 : decode cL_member 21 = .ok (.iconst 1, 1) := by decide +kernel
theorem dL_member_22 : decode cL_member 22 = .ok (.ireturn, 1) := by decide +kernel
theorem dL_member_23 : decode cL_member 23 = .ok (.astore 7, 2) := by decide +kernel
theorem dL_member_25 : decode cL_member 25 = .ok (.iconst 2, 1) := by decide +kernel
theorem dL_member_26 : decode cL_member 26 = .ok (.ireturn, 1) := by decide +kernel
theorem dL_member_27 : decode cL_member 27 = .ok (.iconst 0, 1) := by decide +kernel
theorem dL_member_28 : decode cL_member 28 = .ok (.ireturn, 1) := by decide +kernel
theorem dL_answer_0 : decode cL_answer 0 = .ok (.aload_n 3, 1) := by decide +kernel
theorem dL_answer_1 : decode cL_answer 1 = .ok (.iconst 0, 1) := by decide +kernel
theorem dL_answer_2 : decode cL_answer 2 = .ok (.aload_n 0, 1) := by decide +kernel
theorem dL_answer_3 : decode cL_answer 3 = .ok (.iload_n 1, 1) := by decide +kernel
theorem dL_answer_4 : decode cL_answer 4 = .ok (.iload_n 2, 1) := by decide +kernel
theorem dL_answer_5 : decode cL_answer 5 = .ok (.invokevirtual 32, 3) := by decide +kernel
theorem dL_answer_8 : decode cL_answer 8 = .ok (.i2l, 1) := by decide +kernel
theorem dL_answer_9 : decode cL_answer 9 = .ok (.lastore, 1) := by decide +kernel
theorem dL_answer_10 : decode cL_answer 10 = .ok (.goto 7, 3) := by decide +kernel
theorem dL_answer_13 : decode cL_answer 13 = .ok (.astore 4, 2) := by decide +kernel
theorem dL_answer_15 : decode cL_answer 15 = .ok (.iconst 1, 1) := by decide +kernel
theorem dL_answer_16 : decode cL_answer 16 = .ok (.ireturn, 1) := by decide +kernel
theorem dL_answer_17 : decode cL_answer 17 = .ok (.iconst 0, 1) := by decide +kernel
theorem dL_answer_18 : decode cL_answer 18 = .ok (.ireturn, 1) := by decide +kernel
theorem dL_wanted_0 : decode cL_wanted 0 = .ok (.aload 4, 2) := by decide +kernel
theorem dL_wanted_2 : decode cL_wanted 2 = .ok (.iconst 0, 1) := by decide +kernel
theorem dL_wanted_3 : decode cL_wanted 3 = .ok (.aload_n 0, 1) := by decide +kernel
theorem dL_wanted_4 : decode cL_wanted 4 = .ok (.iload_n 1, 1) := by decide +kernel
theorem dL_wanted_5 : decode cL_wanted 5 = .ok (.iload_n 2, 1) := by decide +kernel
theorem dL_wanted_6 : decode cL_wanted 6 = .ok (.iload_n 3, 1) := by decide +kernel
theorem dL_wanted_7 : decode cL_wanted 7 = .ok (.invokevirtual 36, 3) := by decide +kernel
theorem dL_wanted_10 : decode cL_wanted 10 = .ok (.ifCond .eq 7, 3) := by decide +kernel
theorem dL_wanted_13 : decode cL_wanted 13 = .ok (.lconst 1, 1) := by decide +kernel
theorem dL_wanted_14 : decode cL_wanted 14 = .ok (.goto 4, 3) := by decide +kernel
theorem dL_wanted_17 : decode cL_wanted 17 = .ok (.lconst 0, 1) := by decide +kernel
theorem dL_wanted_18 : decode cL_wanted 18 = .ok (.lastore, 1) := by decide +kernel
theorem dL_wanted_19 : decode cL_wanted 19 = .ok (.goto 7, 3) := by decide +kernel
theorem dL_wanted_22 : decode cL_wanted 22 = .ok (.astore 5, 2) := by decide +kernel
theorem dL_wanted_24 : decode cL_wanted 24 = .ok (.iconst 1, 1) := by decide +kernel
theorem dL_wanted_25 : decode cL_wanted 25 = .ok (.ireturn, 1) := by decide +kernel
theorem dL_wanted_26 : decode cL_wanted 26 = .ok (.iconst 0, 1) := by decide +kernel
theorem dL_wanted_27 : decode cL_wanted 27 = .ok (.ireturn, 1) := by decide +kernel
theorem dL_passed_0 : decode cL_passed 0 = .ok (.aload 4, 2) := by decide +kernel
theorem dL_passed_2 : decode cL_passed 2 = .ok (.iconst 0, 1) := by decide +kernel
theorem dL_passed_3 : decode cL_passed 3 = .ok (.aload_n 0, 1) := by decide +kernel
theorem dL_passed_4 : decode cL_passed 4 = .ok (.iload_n 1, 1) := by decide +kernel
theorem dL_passed_5 : decode cL_passed 5 = .ok (.iload_n 2, 1) := by decide +kernel
theorem dL_passed_6 : decode cL_passed 6 = .ok (.iload_n 3, 1) := by decide +kernel
theorem dL_passed_7 : decode cL_passed 7 = .ok (.invokevirtual 40, 3) := by decide +kernel
theorem dL_passed_10 : decode cL_passed 10 = .ok (.i2l, 1) := by decide +kernel
theorem dL_passed_11 : decode cL_passed 11 = .ok (.lastore, 1) := by decide +kernel
theorem dL_passed_12 : decode cL_passed 12 = .ok (.goto 7, 3) := by decide +kernel
theorem dL_passed_15 : decode cL_passed 15 = .ok (.astore 5, 2) := by decide +kernel
theorem dL_passed_17 : decode cL_passed 17 = .ok (.iconst 1, 1) := by decide +kernel
theorem dL_passed_18 : decode cL_passed 18 = .ok (.ireturn, 1) := by decide +kernel
theorem dL_passed_19 : decode cL_passed 19 = .ok (.iconst 0, 1) := by decide +kernel
theorem dL_passed_20 : decode cL_passed 20 = .ok (.ireturn, 1) := by decide +kernel
theorem dL_mode_0 : decode cL_mode 0 = .ok (.aload_n 3, 1) := by decide +kernel
theorem dL_mode_1 : decode cL_mode 1 = .ok (.iconst 0, 1) := by decide +kernel
theorem dL_mode_2 : decode cL_mode 2 = .ok (.aload_n 0, 1) := by decide +kernel
theorem dL_mode_3 : decode cL_mode 3 = .ok (.iload_n 1, 1) := by decide +kernel
theorem dL_mode_4 : decode cL_mode 4 = .ok (.iload_n 2, 1) := by decide +kernel
theorem dL_mode_5 : decode cL_mode 5 = .ok (.invokevirtual 44, 3) := by decide +kernel
theorem dL_mode_8 : decode cL_mode 8 = .ok (.i2l, 1) := by decide +kernel
theorem dL_mode_9 : decode cL_mode 9 = .ok (.lastore, 1) := by decide +kernel
theorem dL_mode_10 : decode cL_mode 10 = .ok (.goto 7, 3) := by decide +kernel
theorem dL_mode_13 : decode cL_mode 13 = .ok (.astore 4, 2) := by decide +kernel
theorem dL_mode_15 : decode cL_mode 15 = .ok (.iconst 1, 1) := by decide +kernel
theorem dL_mode_16 : decode cL_mode 16 = .ok (.ireturn, 1) := by decide +kernel
theorem dL_mode_17 : decode cL_mode 17 = .ok (.iconst 0, 1) := by decide +kernel
theorem dL_mode_18 : decode cL_mode 18 = .ok (.ireturn, 1) := by decide +kernel
theorem dL_sources_0 : decode cL_sources 0 = .ok (.aload 4, 2) := by decide +kernel
theorem dL_sources_2 : decode cL_sources 2 = .ok (.iconst 0, 1) := by decide +kernel
theorem dL_sources_3 : decode cL_sources 3 = .ok (.aload_n 0, 1) := by decide +kernel
theorem dL_sources_4 : decode cL_sources 4 = .ok (.iload_n 1, 1) := by decide +kernel
theorem dL_sources_5 : decode cL_sources 5 = .ok (.iload_n 2, 1) := by decide +kernel
theorem dL_sources_6 : decode cL_sources 6 = .ok (.iload_n 3, 1) := by decide +kernel
theorem dL_sources_7 : decode cL_sources 7 = .ok (.invokevirtual 47, 3) := by decide +kernel
theorem dL_sources_10 : decode cL_sources 10 = .ok (.i2l, 1) := by decide +kernel
theorem dL_sources_11 : decode cL_sources 11 = .ok (.lastore, 1) := by decide +kernel
theorem dL_sources_12 : decode cL_sources 12 = .ok (.goto 7, 3) := by decide +kernel
theorem dL_sources_15 : decode cL_sources 15 = .ok (.astore 5, 2) := by decide +kernel
theorem dL_sources_17 : decode cL_sources 17 = .ok (.iconst 1, 1) := by decide +kernel
theorem dL_sources_18 : decode cL_sources 18 = .ok (.ireturn, 1) := by decide +kernel
theorem dL_sources_19 : decode cL_sources 19 = .ok (.iconst 0, 1) := by decide +kernel
theorem dL_sources_20 : decode cL_sources 20 = .ok (.ireturn, 1) := by decide +kernel
theorem dL_timer_0 : decode cL_timer 0 = .ok (.aload 4, 2) := by decide +kernel
theorem dL_timer_2 : decode cL_timer 2 = .ok (.iconst 0, 1) := by decide +kernel
theorem dL_timer_3 : decode cL_timer 3 = .ok (.aload_n 0, 1) := by decide +kernel
theorem dL_timer_4 : decode cL_timer 4 = .ok (.iload_n 1, 1) := by decide +kernel
theorem dL_timer_5 : decode cL_timer 5 = .ok (.iload_n 2, 1) := by decide +kernel
theorem dL_timer_6 : decode cL_timer 6 = .ok (.iload_n 3, 1) := by decide +kernel
theorem dL_timer_7 : decode cL_timer 7 = .ok (.invokevirtual 51, 3) := by decide +kernel
theorem dL_timer_10 : decode cL_timer 10 = .ok (.i2l, 1) := by decide +kernel
theorem dL_timer_11 : decode cL_timer 11 = .ok (.lastore, 1) := by decide +kernel
theorem dL_timer_12 : decode cL_timer 12 = .ok (.goto 7, 3) := by decide +kernel
theorem dL_timer_15 : decode cL_timer 15 = .ok (.astore 5, 2) := by decide +kernel
theorem dL_timer_17 : decode cL_timer 17 = .ok (.iconst 1, 1) := by decide +kernel
theorem dL_timer_18 : decode cL_timer 18 = .ok (.ireturn, 1) := by decide +kernel
theorem dL_timer_19 : decode cL_timer 19 = .ok (.iconst 0, 1) := by decide +kernel
theorem dL_timer_20 : decode cL_timer 20 = .ok (.ireturn, 1) := by decide +kernel
theorem dL_groupTimer_0 : decode cL_groupTimer 0 = .ok (.aload_n 3, 1) := by decide +kernel
theorem dL_groupTimer_1 : decode cL_groupTimer 1 = .ok (.iconst 0, 1) := by decide +kernel
theorem dL_groupTimer_2 : decode cL_groupTimer 2 = .ok (.aload_n 0, 1) := by decide +kernel
theorem dL_groupTimer_3 : decode cL_groupTimer 3 = .ok (.iload_n 1, 1) := by decide +kernel
theorem dL_groupTimer_4 : decode cL_groupTimer 4 = .ok (.iload_n 2, 1) := by decide +kernel
theorem dL_groupTimer_5 : decode cL_groupTimer 5 = .ok (.invokevirtual 54, 3) := by decide +kernel
theorem dL_groupTimer_8 : decode cL_groupTimer 8 = .ok (.i2l, 1) := by decide +kernel
theorem dL_groupTimer_9 : decode cL_groupTimer 9 = .ok (.lastore, 1) := by decide +kernel
theorem dL_groupTimer_10 : decode cL_groupTimer 10 = .ok (.goto 7, 3) := by decide +kernel
theorem dL_groupTimer_13 : decode cL_groupTimer 13 = .ok (.astore 4, 2) := by decide +kernel
theorem dL_groupTimer_15 : decode cL_groupTimer 15 = .ok (.iconst 1, 1) := by decide +kernel
theorem dL_groupTimer_16 : decode cL_groupTimer 16 = .ok (.ireturn, 1) := by decide +kernel
theorem dL_groupTimer_17 : decode cL_groupTimer 17 = .ok (.iconst 0, 1) := by decide +kernel
theorem dL_groupTimer_18 : decode cL_groupTimer 18 = .ok (.ireturn, 1) := by decide +kernel
theorem dL_asked_0 : decode cL_asked 0 = .ok (.aload_n 3, 1) := by decide +kernel
theorem dL_asked_1 : decode cL_asked 1 = .ok (.iconst 0, 1) := by decide +kernel
theorem dL_asked_2 : decode cL_asked 2 = .ok (.aload_n 0, 1) := by decide +kernel
theorem dL_asked_3 : decode cL_asked 3 = .ok (.iload_n 1, 1) := by decide +kernel
theorem dL_asked_4 : decode cL_asked 4 = .ok (.iload_n 2, 1) := by decide +kernel
theorem dL_asked_5 : decode cL_asked 5 = .ok (.invokevirtual 57, 3) := by decide +kernel
theorem dL_asked_8 : decode cL_asked 8 = .ok (.i2l, 1) := by decide +kernel
theorem dL_asked_9 : decode cL_asked 9 = .ok (.lastore, 1) := by decide +kernel
theorem dL_asked_10 : decode cL_asked 10 = .ok (.goto 11, 3) := by decide +kernel
theorem dL_asked_13 : decode cL_asked 13 = .ok (.astore 4, 2) := by decide +kernel
theorem dL_asked_15 : decode cL_asked 15 = .ok (.iconst 1, 1) := by decide +kernel
theorem dL_asked_16 : decode cL_asked 16 = .ok (.ireturn, 1) := by decide +kernel
theorem dL_asked_17 : decode cL_asked 17 = .ok (.astore 4, 2) := by decide +kernel
theorem dL_asked_19 : decode cL_asked 19 = .ok (.iconst 2, 1) := by decide +kernel
theorem dL_asked_20 : decode cL_asked 20 = .ok (.ireturn, 1) := by decide +kernel
theorem dL_asked_21 : decode cL_asked 21 = .ok (.iconst 0, 1) := by decide +kernel
theorem dL_asked_22 : decode cL_asked 22 = .ok (.ireturn, 1) := by decide +kernel
theorem dL_told_0 : decode cL_told 0 = .ok (.aload_n 3, 1) := by decide +kernel
theorem dL_told_1 : decode cL_told 1 = .ok (.iconst 0, 1) := by decide +kernel
theorem dL_told_2 : decode cL_told 2 = .ok (.aload_n 0, 1) := by decide +kernel
theorem dL_told_3 : decode cL_told 3 = .ok (.iload_n 1, 1) := by decide +kernel
theorem dL_told_4 : decode cL_told 4 = .ok (.iload_n 2, 1) := by decide +kernel
theorem dL_told_5 : decode cL_told 5 = .ok (.invokevirtual 60, 3) := by decide +kernel
theorem dL_told_8 : decode cL_told 8 = .ok (.i2l, 1) := by decide +kernel
theorem dL_told_9 : decode cL_told 9 = .ok (.lastore, 1) := by decide +kernel
theorem dL_told_10 : decode cL_told 10 = .ok (.goto 11, 3) := by decide +kernel
theorem dL_told_13 : decode cL_told 13 = .ok (.astore 4, 2) := by decide +kernel
theorem dL_told_15 : decode cL_told 15 = .ok (.iconst 1, 1) := by decide +kernel
theorem dL_told_16 : decode cL_told 16 = .ok (.ireturn, 1) := by decide +kernel
theorem dL_told_17 : decode cL_told 17 = .ok (.astore 4, 2) := by decide +kernel
theorem dL_told_19 : decode cL_told 19 = .ok (.iconst 2, 1) := by decide +kernel
theorem dL_told_20 : decode cL_told 20 = .ok (.ireturn, 1) := by decide +kernel
theorem dL_told_21 : decode cL_told 21 = .ok (.iconst 0, 1) := by decide +kernel
theorem dL_told_22 : decode cL_told 22 = .ok (.ireturn, 1) := by decide +kernel
theorem dL_law_0 : decode cL_law 0 = .ok (.new 8, 3) := by decide +kernel
theorem dL_law_3 : decode cL_law 3 = .ok (.dup, 1) := by decide +kernel
theorem dL_law_4 : decode cL_law 4 = .ok (.aload_n 0, 1) := by decide +kernel
theorem dL_law_5 : decode cL_law 5 = .ok (.iconst 0, 1) := by decide +kernel
theorem dL_law_6 : decode cL_law 6 = .ok (.invokestatic 63, 3) := by decide +kernel
theorem dL_law_9 : decode cL_law 9 = .ok (.invokespecial 69, 3) := by decide +kernel
theorem dL_law_12 : decode cL_law 12 = .ok (.astore_n 1, 1) := by decide +kernel
theorem dL_law_13 : decode cL_law 13 = .ok (.new 72, 3) := by decide +kernel
theorem dL_law_16 : decode cL_law 16 = .ok (.dup, 1) := by decide +kernel
theorem dL_law_17 : decode cL_law 17 = .ok (.aload_n 0, 1) := by decide +kernel
theorem dL_law_18 : decode cL_law 18 = .ok (.iconst 0, 1) := by decide +kernel
theorem dL_law_19 : decode cL_law 19 = .ok (.invokestatic 63, 3) := by decide +kernel
theorem dL_law_22 : decode cL_law 22 = .ok (.invokespecial 74, 3) := by decide +kernel
theorem dL_law_25 : decode cL_law 25 = .ok (.astore_n 2, 1) := by decide +kernel
theorem dL_law_26 : decode cL_law 26 = .ok (.iconst 1, 1) := by decide +kernel
theorem dL_law_27 : decode cL_law 27 = .ok (.newarray .long, 2) := by decide +kernel
theorem dL_law_29 : decode cL_law 29 = .ok (.astore_n 3, 1) := by decide +kernel
theorem dL_law_30 : decode cL_law 30 = .ok (.iconst 1, 1) := by decide +kernel
theorem dL_law_31 : decode cL_law 31 = .ok (.istore 4, 2) := by decide +kernel
theorem dL_law_33 : decode cL_law 33 = .ok (.iload 4, 2) := by decide +kernel
theorem dL_law_35 : decode cL_law 35 = .ok (.aload_n 0, 1) := by decide +kernel
theorem dL_law_36 : decode cL_law 36 = .ok (.arraylength, 1) := by decide +kernel
theorem dL_law_37 : decode cL_law 37 = .ok (.bipush 6, 2) := by decide +kernel
theorem dL_law_39 : decode cL_law 39 = .ok (.isub, 1) := by decide +kernel
theorem dL_law_40 : decode cL_law 40 = .ok (.if_icmp .gt 910, 3) := by decide +kernel
theorem dL_law_43 : decode cL_law 43 = .ok (.aload_n 0, 1) := by decide +kernel
theorem dL_law_44 : decode cL_law 44 = .ok (.iload 4, 2) := by decide +kernel
theorem dL_law_46 : decode cL_law 46 = .ok (.iaload, 1) := by decide +kernel
theorem dL_law_47 : decode cL_law 47 = .ok (.bipush 15, 2) := by decide +kernel
theorem dL_law_49 : decode cL_law 49 = .ok (.iand, 1) := by decide +kernel
theorem dL_law_50 : decode cL_law 50 = .ok (.tableswitch 894 0 15 #[78, 142, 206, 298, 354, 446, 486, 538, 590, 630, 698, 750, 790, 803, 843, 883], 78) := by decide +kernel
theorem dL_law_128 : decode cL_law 128 = .ok (.aload_n 1, 1) := by decide +kernel
theorem dL_law_129 : decode cL_law 129 = .ok (.aload_n 0, 1) := by decide +kernel
theorem dL_law_130 : decode cL_law 130 = .ok (.iload 4, 2) := by decide +kernel
theorem dL_law_132 : decode cL_law 132 = .ok (.iconst 1, 1) := by decide +kernel
theorem dL_law_133 : decode cL_law 133 = .ok (.iadd, 1) := by decide +kernel
theorem dL_law_134 : decode cL_law 134 = .ok (.iaload, 1) := by decide +kernel
theorem dL_law_135 : decode cL_law 135 = .ok (.aload_n 0, 1) := by decide +kernel
theorem dL_law_136 : decode cL_law 136 = .ok (.iload 4, 2) := by decide +kernel
theorem dL_law_138 : decode cL_law 138 = .ok (.iconst 2, 1) := by decide +kernel
theorem dL_law_139 : decode cL_law 139 = .ok (.iadd, 1) := by decide +kernel
theorem dL_law_140 : decode cL_law 140 = .ok (.iaload, 1) := by decide +kernel
theorem dL_law_141 : decode cL_law 141 = .ok (.aload_n 0, 1) := by decide +kernel
theorem dL_law_142 : decode cL_law 142 = .ok (.iload 4, 2) := by decide +kernel
theorem dL_law_144 : decode cL_law 144 = .ok (.iconst 3, 1) := by decide +kernel
theorem dL_law_145 : decode cL_law 145 = .ok (.iadd, 1) := by decide +kernel
theorem dL_law_146 : decode cL_law 146 = .ok (.iaload, 1) := by decide +kernel
theorem dL_law_147 : decode cL_law 147 = .ok (.aload_n 0, 1) := by decide +kernel
theorem dL_law_148 : decode cL_law 148 = .ok (.iload 4, 2) := by decide +kernel
theorem dL_law_150 : decode cL_law 150 = .ok (.iconst 4, 1) := by decide +kernel
theorem dL_law_151 : decode cL_law 151 = .ok (.iadd, 1) := by decide +kernel
theorem dL_law_152 : decode cL_law 152 = .ok (.iaload, 1) := by decide +kernel
theorem dL_law_153 : decode cL_law 153 = .ok (.aload_n 3, 1) := by decide +kernel
theorem dL_law_154 : decode cL_law 154 = .ok (.invokestatic 75, 3) := by decide +kernel
theorem dL_law_157 : decode cL_law 157 = .ok (.istore 5, 2) := by decide +kernel
theorem dL_law_159 : decode cL_law 159 = .ok (.aload_n 2, 1) := by decide +kernel
theorem dL_law_160 : decode cL_law 160 = .ok (.aload_n 0, 1) := by decide +kernel
theorem dL_law_161 : decode cL_law 161 = .ok (.iload 4, 2) := by decide +kernel
theorem dL_law_163 : decode cL_law 163 = .ok (.iconst 1, 1) := by decide +kernel
theorem dL_law_164 : decode cL_law 164 = .ok (.iadd, 1) := by decide +kernel
theorem dL_law_165 : decode cL_law 165 = .ok (.iaload, 1) := by decide +kernel
theorem dL_law_166 : decode cL_law 166 = .ok (.aload_n 0, 1) := by decide +kernel
theorem dL_law_167 : decode cL_law 167 = .ok (.iload 4, 2) := by decide +kernel
theorem dL_law_169 : decode cL_law 169 = .ok (.iconst 2, 1) := by decide +kernel
theorem dL_law_170 : decode cL_law 170 = .ok (.iadd, 1) := by decide +kernel
theorem dL_law_171 : decode cL_law 171 = .ok (.iaload, 1) := by decide +kernel
theorem dL_law_172 : decode cL_law 172 = .ok (.aload_n 0, 1) := by decide +kernel
theorem dL_law_173 : decode cL_law 173 = .ok (.iload 4, 2) := by decide +kernel
theorem dL_law_175 : decode cL_law 175 = .ok (.iconst 3, 1) := by decide +kernel
theorem dL_law_176 : decode cL_law 176 = .ok (.iadd, 1) := by decide +kernel
theorem dL_law_177 : decode cL_law 177 = .ok (.iaload, 1) := by decide +kernel
theorem dL_law_178 : decode cL_law 178 = .ok (.aload_n 0, 1) := by decide +kernel
theorem dL_law_179 : decode cL_law 179 = .ok (.iload 4, 2) := by decide +kernel
theorem dL_law_181 : decode cL_law 181 = .ok (.iconst 4, 1) := by decide +kernel
theorem dL_law_182 : decode cL_law 182 = .ok (.iadd, 1) := by decide +kernel
theorem dL_law_183 : decode cL_law 183 = .ok (.iaload, 1) := by decide +kernel
theorem dL_law_184 : decode cL_law 184 = .ok (.invokevirtual 78, 3) := by decide +kernel
theorem dL_law_187 : decode cL_law 187 = .ok (.istore 6, 2) := by decide +kernel
theorem dL_law_189 : decode cL_law 189 = .ok (.goto 755, 3) := by decide +kernel
theorem dL_law_192 : decode cL_law 192 = .ok (.aload_n 1, 1) := by decide +kernel
theorem dL_law_193 : decode cL_law 193 = .ok (.aload_n 0, 1) := by decide +kernel
theorem dL_law_194 : decode cL_law 194 = .ok (.iload 4, 2) := by decide +kernel
theorem dL_law_196 : decode cL_law 196 = .ok (.iconst 1, 1) := by decide +kernel
theorem dL_law_197 : decode cL_law 197 = .ok (.iadd, 1) := by decide +kernel
theorem dL_law_198 : decode cL_law 198 = .ok (.iaload, 1) := by decide +kernel
theorem dL_law_199 : decode cL_law 199 = .ok (.aload_n 0, 1) := by decide +kernel
theorem dL_law_200 : decode cL_law 200 = .ok (.iload 4, 2) := by decide +kernel
theorem dL_law_202 : decode cL_law 202 = .ok (.iconst 2, 1) := by decide +kernel
theorem dL_law_203 : decode cL_law 203 = .ok (.iadd, 1) := by decide +kernel
theorem dL_law_204 : decode cL_law 204 = .ok (.iaload, 1) := by decide +kernel
theorem dL_law_205 : decode cL_law 205 = .ok (.aload_n 0, 1) := by decide +kernel
theorem dL_law_206 : decode cL_law 206 = .ok (.iload 4, 2) := by decide +kernel
theorem dL_law_208 : decode cL_law 208 = .ok (.iconst 3, 1) := by decide +kernel
theorem dL_law_209 : decode cL_law 209 = .ok (.iadd, 1) := by decide +kernel
theorem dL_law_210 : decode cL_law 210 = .ok (.iaload, 1) := by decide +kernel
theorem dL_law_211 : decode cL_law 211 = .ok (.aload_n 0, 1) := by decide +kernel
theorem dL_law_212 : decode cL_law 212 = .ok (.iload 4, 2) := by decide +kernel
theorem dL_law_214 : decode cL_law 214 = .ok (.iconst 4, 1) := by decide +kernel
theorem dL_law_215 : decode cL_law 215 = .ok (.iadd, 1) := by decide +kernel
theorem dL_law_216 : decode cL_law 216 = .ok (.iaload, 1) := by decide +kernel
theorem dL_law_217 : decode cL_law 217 = .ok (.aload_n 3, 1) := by decide +kernel
theorem dL_law_218 : decode cL_law 218 = .ok (.invokestatic 79, 3) := by decide +kernel
theorem dL_law_221 : decode cL_law 221 = .ok (.istore 5, 2) := by decide +kernel
theorem dL_law_223 : decode cL_law 223 = .ok (.aload_n 2, 1) := by decide +kernel
theorem dL_law_224 : decode cL_law 224 = .ok (.aload_n 0, 1) := by decide +kernel
theorem dL_law_225 : decode cL_law 225 = .ok (.iload 4, 2) := by decide +kernel
theorem dL_law_227 : decode cL_law 227 = .ok (.iconst 1, 1) := by decide +kernel
theorem dL_law_228 : decode cL_law 228 = .ok (.iadd, 1) := by decide +kernel
theorem dL_law_229 : decode cL_law 229 = .ok (.iaload, 1) := by decide +kernel
theorem dL_law_230 : decode cL_law 230 = .ok (.aload_n 0, 1) := by decide +kernel
theorem dL_law_231 : decode cL_law 231 = .ok (.iload 4, 2) := by decide +kernel
theorem dL_law_233 : decode cL_law 233 = .ok (.iconst 2, 1) := by decide +kernel
theorem dL_law_234 : decode cL_law 234 = .ok (.iadd, 1) := by decide +kernel
theorem dL_law_235 : decode cL_law 235 = .ok (.iaload, 1) := by decide +kernel
theorem dL_law_236 : decode cL_law 236 = .ok (.aload_n 0, 1) := by decide +kernel
theorem dL_law_237 : decode cL_law 237 = .ok (.iload 4, 2) := by decide +kernel
theorem dL_law_239 : decode cL_law 239 = .ok (.iconst 3, 1) := by decide +kernel
theorem dL_law_240 : decode cL_law 240 = .ok (.iadd, 1) := by decide +kernel
theorem dL_law_241 : decode cL_law 241 = .ok (.iaload, 1) := by decide +kernel
theorem dL_law_242 : decode cL_law 242 = .ok (.aload_n 0, 1) := by decide +kernel
theorem dL_law_243 : decode cL_law 243 = .ok (.iload 4, 2) := by decide +kernel
theorem dL_law_245 : decode cL_law 245 = .ok (.iconst 4, 1) := by decide +kernel
theorem dL_law_246 : decode cL_law 246 = .ok (.iadd, 1) := by decide +kernel
theorem dL_law_247 : decode cL_law 247 = .ok (.iaload, 1) := by decide +kernel
theorem dL_law_248 : decode cL_law 248 = .ok (.invokevirtual 81, 3) := by decide +kernel
theorem dL_law_251 : decode cL_law 251 = .ok (.istore 6, 2) := by decide +kernel
theorem dL_law_253 : decode cL_law 253 = .ok (.goto 691, 3) := by decide +kernel
theorem dL_law_256 : decode cL_law 256 = .ok (.aload_n 1, 1) := by decide +kernel
theorem dL_law_257 : decode cL_law 257 = .ok (.aload_n 0, 1) := by decide +kernel
theorem dL_law_258 : decode cL_law 258 = .ok (.iload 4, 2) := by decide +kernel
theorem dL_law_260 : decode cL_law 260 = .ok (.iconst 1, 1) := by decide +kernel
theorem dL_law_261 : decode cL_law 261 = .ok (.iadd, 1) := by decide +kernel
theorem dL_law_262 : decode cL_law 262 = .ok (.iaload, 1) := by decide +kernel
theorem dL_law_263 : decode cL_law 263 = .ok (.aload_n 0, 1) := by decide +kernel
theorem dL_law_264 : decode cL_law 264 = .ok (.iload 4, 2) := by decide +kernel
theorem dL_law_266 : decode cL_law 266 = .ok (.iconst 2, 1) := by decide +kernel
theorem dL_law_267 : decode cL_law 267 = .ok (.iadd, 1) := by decide +kernel
theorem dL_law_268 : decode cL_law 268 = .ok (.iaload, 1) := by decide +kernel
theorem dL_law_269 : decode cL_law 269 = .ok (.aload_n 0, 1) := by decide +kernel
theorem dL_law_270 : decode cL_law 270 = .ok (.iload 4, 2) := by decide +kernel
theorem dL_law_272 : decode cL_law 272 = .ok (.iconst 3, 1) := by decide +kernel
theorem dL_law_273 : decode cL_law 273 = .ok (.iadd, 1) := by decide +kernel
theorem dL_law_274 : decode cL_law 274 = .ok (.iaload, 1) := by decide +kernel
theorem dL_law_275 : decode cL_law 275 = .ok (.aload_n 0, 1) := by decide +kernel
theorem dL_law_276 : decode cL_law 276 = .ok (.iload 4, 2) := by decide +kernel
theorem dL_law_278 : decode cL_law 278 = .ok (.iconst 4, 1) := by decide +kernel
theorem dL_law_279 : decode cL_law 279 = .ok (.iadd, 1) := by decide +kernel
theorem dL_law_280 : decode cL_law 280 = .ok (.iaload, 1) := by decide +kernel
theorem dL_law_281 : decode cL_law 281 = .ok (.aload_n 0, 1) := by decide +kernel
theorem dL_law_282 : decode cL_law 282 = .ok (.iload 4, 2) := by decide +kernel
theorem dL_law_284 : decode cL_law 284 = .ok (.iconst 5, 1) := by decide +kernel
theorem dL_law_285 : decode cL_law 285 = .ok (.iadd, 1) := by decide +kernel
theorem dL_law_286 : decode cL_law 286 = .ok (.iaload, 1) := by decide +kernel
theorem dL_law_287 : decode cL_law 287 = .ok (.ifCond .eq 7, 3) := by decide +kernel
theorem dL_law_290 : decode cL_law 290 = .ok (.iconst 1, 1) := by decide +kernel
theorem dL_law_291 : decode cL_law 291 = .ok (.goto 4, 3) := by decide +kernel
theorem dL_law_294 : decode cL_law 294 = .ok (.iconst 0, 1) := by decide +kernel
theorem dL_law_295 : decode cL_law 295 = .ok (.aload_n 3, 1) := by decide +kernel
theorem dL_law_296 : decode cL_law 296 = .ok (.invokestatic 82, 3) := by decide +kernel
theorem dL_law_299 : decode cL_law 299 = .ok (.istore 5, 2) := by decide +kernel
theorem dL_law_301 : decode cL_law 301 = .ok (.aload_n 2, 1) := by decide +kernel
theorem dL_law_302 : decode cL_law 302 = .ok (.aload_n 0, 1) := by decide +kernel
theorem dL_law_303 : decode cL_law 303 = .ok (.iload 4, 2) := by decide +kernel
theorem dL_law_305 : decode cL_law 305 = .ok (.iconst 1, 1) := by decide +kernel
theorem dL_law_306 : decode cL_law 306 = .ok (.iadd, 1) := by decide +kernel
theorem dL_law_307 : decode cL_law 307 = .ok (.iaload, 1) := by decide +kernel
theorem dL_law_308 : decode cL_law 308 = .ok (.aload_n 0, 1) := by decide +kernel
theorem dL_law_309 : decode cL_law 309 = .ok (.iload 4, 2) := by decide +kernel
theorem dL_law_311 : decode cL_law 311 = .ok (.iconst 2, 1) := by decide +kernel
theorem dL_law_312 : decode cL_law 312 = .ok (.iadd, 1) := by decide +kernel
theorem dL_law_313 : decode cL_law 313 = .ok (.iaload, 1) := by decide +kernel
theorem dL_law_314 : decode cL_law 314 = .ok (.aload_n 0, 1) := by decide +kernel
theorem dL_law_315 : decode cL_law 315 = .ok (.iload 4, 2) := by decide +kernel
theorem dL_law_317 : decode cL_law 317 = .ok (.iconst 3, 1) := by decide +kernel
theorem dL_law_318 : decode cL_law 318 = .ok (.iadd, 1) := by decide +kernel
theorem dL_law_319 : decode cL_law 319 = .ok (.iaload, 1) := by decide +kernel
theorem dL_law_320 : decode cL_law 320 = .ok (.aload_n 0, 1) := by decide +kernel
theorem dL_law_321 : decode cL_law 321 = .ok (.iload 4, 2) := by decide +kernel
theorem dL_law_323 : decode cL_law 323 = .ok (.iconst 4, 1) := by decide +kernel
theorem dL_law_324 : decode cL_law 324 = .ok (.iadd, 1) := by decide +kernel
theorem dL_law_325 : decode cL_law 325 = .ok (.iaload, 1) := by decide +kernel
theorem dL_law_326 : decode cL_law 326 = .ok (.aload_n 0, 1) := by decide +kernel
theorem dL_law_327 : decode cL_law 327 = .ok (.iload 4, 2) := by decide +kernel
theorem dL_law_329 : decode cL_law 329 = .ok (.iconst 5, 1) := by decide +kernel
theorem dL_law_330 : decode cL_law 330 = .ok (.iadd, 1) := by decide +kernel
theorem dL_law_331 : decode cL_law 331 = .ok (.iaload, 1) := by decide +kernel
theorem dL_law_332 : decode cL_law 332 = .ok (.ifCond .eq 7, 3) := by decide +kernel
theorem dL_law_335 : decode cL_law 335 = .ok (.iconst 1, 1) := by decide +kernel
theorem dL_law_336 : decode cL_law 336 = .ok (.goto 4, 3) := by decide +kernel
theorem dL_law_339 : decode cL_law 339 = .ok (.iconst 0, 1) := by decide +kernel
theorem dL_law_340 : decode cL_law 340 = .ok (.invokevirtual 85, 3) := by decide +kernel
theorem dL_law_343 : decode cL_law 343 = .ok (.istore 6, 2) := by decide +kernel
theorem dL_law_345 : decode cL_law 345 = .ok (.goto 599, 3) := by decide +kernel
theorem dL_law_348 : decode cL_law 348 = .ok (.aload_n 1, 1) := by decide +kernel
theorem dL_law_349 : decode cL_law 349 = .ok (.aload_n 0, 1) := by decide +kernel
theorem dL_law_350 : decode cL_law 350 = .ok (.iload 4, 2) := by decide +kernel
theorem dL_law_352 : decode cL_law 352 = .ok (.iconst 1, 1) := by decide +kernel
theorem dL_law_353 : decode cL_law 353 = .ok (.iadd, 1) := by decide +kernel
theorem dL_law_354 : decode cL_law 354 = .ok (.iaload, 1) := by decide +kernel
theorem dL_law_355 : decode cL_law 355 = .ok (.aload_n 3, 1) := by decide +kernel
theorem dL_law_356 : decode cL_law 356 = .ok (.invokestatic 86, 3) := by decide +kernel
theorem dL_law_359 : decode cL_law 359 = .ok (.istore 5, 2) := by decide +kernel
theorem dL_law_361 : decode cL_law 361 = .ok (.aload_n 2, 1) := by decide +kernel
theorem dL_law_362 : decode cL_law 362 = .ok (.aload_n 0, 1) := by decide +kernel
theorem dL_law_363 : decode cL_law 363 = .ok (.iload 4, 2) := by decide +kernel
theorem dL_law_365 : decode cL_law 365 = .ok (.iconst 1, 1) := by decide +kernel
theorem dL_law_366 : decode cL_law 366 = .ok (.iadd, 1) := by decide +kernel
theorem dL_law_367 : decode cL_law 367 = .ok (.iaload, 1) := by decide +kernel
theorem dL_law_368 : decode cL_law 368 = .ok (.invokevirtual 89, 3) := by decide +kernel
theorem dL_law_371 : decode cL_law 371 = .ok (.istore 6, 2) := by decide +kernel
theorem dL_law_373 : decode cL_law 373 = .ok (.aload_n 2, 1) := by decide +kernel
theorem dL_law_374 : decode cL_law 374 = .ok (.invokevirtual 90, 3) := by decide +kernel
theorem dL_law_377 : decode cL_law 377 = .ok (.iload 5, 2) := by decide +kernel
theorem dL_law_379 : decode cL_law 379 = .ok (.if_icmp .eq 5, 3) := by decide +kernel
theorem dL_law_382 : decode cL_law 382 = .ok (.iconst 0, 1) := by decide +kernel
theorem dL_law_383 : decode cL_law 383 = .ok (.ireturn, 1) := by decide +kernel
theorem dL_law_384 : decode cL_law 384 = .ok (.iload 5, 2) := by decide +kernel
theorem dL_law_386 : decode cL_law 386 = .ok (.ifCond .ne 15, 3) := by decide +kernel
theorem dL_law_389 : decode cL_law 389 = .ok (.aload_n 3, 1) := by decide +kernel
theorem dL_law_390 : decode cL_law 390 = .ok (.iconst 0, 1) := by decide +kernel
theorem dL_law_391 : decode cL_law 391 = .ok (.laload, 1) := by decide +kernel
theorem dL_law_392 : decode cL_law 392 = .ok (.iload 6, 2) := by decide +kernel
theorem dL_law_394 : decode cL_law 394 = .ok (.i2l, 1) := by decide +kernel
theorem dL_law_395 : decode cL_law 395 = .ok (.lcmp, 1) := by decide +kernel
theorem dL_law_396 : decode cL_law 396 = .ok (.ifCond .eq 5, 3) := by decide +kernel
theorem dL_law_399 : decode cL_law 399 = .ok (.iconst 0, 1) := by decide +kernel
theorem dL_law_400 : decode cL_law 400 = .ok (.ireturn, 1) := by decide +kernel
theorem dL_law_401 : decode cL_law 401 = .ok (.goto 543, 3) := by decide +kernel
theorem dL_law_404 : decode cL_law 404 = .ok (.aload_n 1, 1) := by decide +kernel
theorem dL_law_405 : decode cL_law 405 = .ok (.aload_n 0, 1) := by decide +kernel
theorem dL_law_406 : decode cL_law 406 = .ok (.iload 4, 2) := by decide +kernel
theorem dL_law_408 : decode cL_law 408 = .ok (.iconst 1, 1) := by decide +kernel
theorem dL_law_409 : decode cL_law 409 = .ok (.iadd, 1) := by decide +kernel
theorem dL_law_410 : decode cL_law 410 = .ok (.iaload, 1) := by decide +kernel
theorem dL_law_411 : decode cL_law 411 = .ok (.aload_n 0, 1) := by decide +kernel
theorem dL_law_412 : decode cL_law 412 = .ok (.iload 4, 2) := by decide +kernel
theorem dL_law_414 : decode cL_law 414 = .ok (.iconst 2, 1) := by decide +kernel
theorem dL_law_415 : decode cL_law 415 = .ok (.iadd, 1) := by decide +kernel
theorem dL_law_416 : decode cL_law 416 = .ok (.iaload, 1) := by decide +kernel
theorem dL_law_417 : decode cL_law 417 = .ok (.aload_n 0, 1) := by decide +kernel
theorem dL_law_418 : decode cL_law 418 = .ok (.iload 4, 2) := by decide +kernel
theorem dL_law_420 : decode cL_law 420 = .ok (.iconst 3, 1) := by decide +kernel
theorem dL_law_421 : decode cL_law 421 = .ok (.iadd, 1) := by decide +kernel
theorem dL_law_422 : decode cL_law 422 = .ok (.iaload, 1) := by decide +kernel
theorem dL_law_423 : decode cL_law 423 = .ok (.aload_n 0, 1) := by decide +kernel
theorem dL_law_424 : decode cL_law 424 = .ok (.iload 4, 2) := by decide +kernel
theorem dL_law_426 : decode cL_law 426 = .ok (.iconst 4, 1) := by decide +kernel
theorem dL_law_427 : decode cL_law 427 = .ok (.iadd, 1) := by decide +kernel
theorem dL_law_428 : decode cL_law 428 = .ok (.iaload, 1) := by decide +kernel
theorem dL_law_429 : decode cL_law 429 = .ok (.ifCond .eq 7, 3) := by decide +kernel
theorem dL_law_432 : decode cL_law 432 = .ok (.iconst 1, 1) := by decide +kernel
theorem dL_law_433 : decode cL_law 433 = .ok (.goto 4, 3) := by decide +kernel
theorem dL_law_436 : decode cL_law 436 = .ok (.iconst 0, 1) := by decide +kernel
theorem dL_law_437 : decode cL_law 437 = .ok (.aload_n 0, 1) := by decide +kernel
theorem dL_law_438 : decode cL_law 438 = .ok (.iload 4, 2) := by decide +kernel
theorem dL_law_440 : decode cL_law 440 = .ok (.iconst 5, 1) := by decide +kernel
theorem dL_law_441 : decode cL_law 441 = .ok (.iadd, 1) := by decide +kernel
theorem dL_law_442 : decode cL_law 442 = .ok (.iaload, 1) := by decide +kernel
theorem dL_law_443 : decode cL_law 443 = .ok (.aload_n 3, 1) := by decide +kernel
theorem dL_law_444 : decode cL_law 444 = .ok (.invokestatic 94, 3) := by decide +kernel
theorem dL_law_447 : decode cL_law 447 = .ok (.istore 5, 2) := by decide +kernel
theorem dL_law_449 : decode cL_law 449 = .ok (.aload_n 2, 1) := by decide +kernel
theorem dL_law_450 : decode cL_law 450 = .ok (.aload_n 0, 1) := by decide +kernel
theorem dL_law_451 : decode cL_law 451 = .ok (.iload 4, 2) := by decide +kernel
theorem dL_law_453 : decode cL_law 453 = .ok (.iconst 1, 1) := by decide +kernel
theorem dL_law_454 : decode cL_law 454 = .ok (.iadd, 1) := by decide +kernel
theorem dL_law_455 : decode cL_law 455 = .ok (.iaload, 1) := by decide +kernel
theorem dL_law_456 : decode cL_law 456 = .ok (.aload_n 0, 1) := by decide +kernel
theorem dL_law_457 : decode cL_law 457 = .ok (.iload 4, 2) := by decide +kernel
theorem dL_law_459 : decode cL_law 459 = .ok (.iconst 2, 1) := by decide +kernel
theorem dL_law_460 : decode cL_law 460 = .ok (.iadd, 1) := by decide +kernel
theorem dL_law_461 : decode cL_law 461 = .ok (.iaload, 1) := by decide +kernel
theorem dL_law_462 : decode cL_law 462 = .ok (.aload_n 0, 1) := by decide +kernel
theorem dL_law_463 : decode cL_law 463 = .ok (.iload 4, 2) := by decide +kernel
theorem dL_law_465 : decode cL_law 465 = .ok (.iconst 3, 1) := by decide +kernel
theorem dL_law_466 : decode cL_law 466 = .ok (.iadd, 1) := by decide +kernel
theorem dL_law_467 : decode cL_law 467 = .ok (.iaload, 1) := by decide +kernel
theorem dL_law_468 : decode cL_law 468 = .ok (.aload_n 0, 1) := by decide +kernel
theorem dL_law_469 : decode cL_law 469 = .ok (.iload 4, 2) := by decide +kernel
theorem dL_law_471 : decode cL_law 471 = .ok (.iconst 4, 1) := by decide +kernel
theorem dL_law_472 : decode cL_law 472 = .ok (.iadd, 1) := by decide +kernel
theorem dL_law_473 : decode cL_law 473 = .ok (.iaload, 1) := by decide +kernel
theorem dL_law_474 : decode cL_law 474 = .ok (.ifCond .eq 7, 3) := by decide +kernel
theorem dL_law_477 : decode cL_law 477 = .ok (.iconst 1, 1) := by decide +kernel
theorem dL_law_478 : decode cL_law 478 = .ok (.goto 4, 3) := by decide +kernel
theorem dL_law_481 : decode cL_law 481 = .ok (.iconst 0, 1) := by decide +kernel
theorem dL_law_482 : decode cL_law 482 = .ok (.aload_n 0, 1) := by decide +kernel
theorem dL_law_483 : decode cL_law 483 = .ok (.iload 4, 2) := by decide +kernel
theorem dL_law_485 : decode cL_law 485 = .ok (.iconst 5, 1) := by decide +kernel
theorem dL_law_486 : decode cL_law 486 = .ok (.iadd, 1) := by decide +kernel
theorem dL_law_487 : decode cL_law 487 = .ok (.iaload, 1) := by decide +kernel
theorem dL_law_488 : decode cL_law 488 = .ok (.invokevirtual 97, 3) := by decide +kernel
theorem dL_law_491 : decode cL_law 491 = .ok (.istore 6, 2) := by decide +kernel
theorem dL_law_493 : decode cL_law 493 = .ok (.goto 451, 3) := by decide +kernel
theorem dL_law_496 : decode cL_law 496 = .ok (.aload_n 1, 1) := by decide +kernel
theorem dL_law_497 : decode cL_law 497 = .ok (.aload_n 0, 1) := by decide +kernel
theorem dL_law_498 : decode cL_law 498 = .ok (.iload 4, 2) := by decide +kernel
theorem dL_law_500 : decode cL_law 500 = .ok (.iconst 1, 1) := by decide +kernel
theorem dL_law_501 : decode cL_law 501 = .ok (.iadd, 1) := by decide +kernel
theorem dL_law_502 : decode cL_law 502 = .ok (.iaload, 1) := by decide +kernel
theorem dL_law_503 : decode cL_law 503 = .ok (.aload_n 0, 1) := by decide +kernel
theorem dL_law_504 : decode cL_law 504 = .ok (.iload 4, 2) := by decide +kernel
theorem dL_law_506 : decode cL_law 506 = .ok (.iconst 2, 1) := by decide +kernel
theorem dL_law_507 : decode cL_law 507 = .ok (.iadd, 1) := by decide +kernel
theorem dL_law_508 : decode cL_law 508 = .ok (.iaload, 1) := by decide +kernel
theorem dL_law_509 : decode cL_law 509 = .ok (.aload_n 3, 1) := by decide +kernel
theorem dL_law_510 : decode cL_law 510 = .ok (.invokestatic 98, 3) := by decide +kernel
theorem dL_law_513 : decode cL_law 513 = .ok (.istore 5, 2) := by decide +kernel
theorem dL_law_515 : decode cL_law 515 = .ok (.aload_n 2, 1) := by decide +kernel
theorem dL_law_516 : decode cL_law 516 = .ok (.aload_n 0, 1) := by decide +kernel
theorem dL_law_517 : decode cL_law 517 = .ok (.iload 4, 2) := by decide +kernel
theorem dL_law_519 : decode cL_law 519 = .ok (.iconst 1, 1) := by decide +kernel
theorem dL_law_520 : decode cL_law 520 = .ok (.iadd, 1) := by decide +kernel
theorem dL_law_521 : decode cL_law 521 = .ok (.iaload, 1) := by decide +kernel
theorem dL_law_522 : decode cL_law 522 = .ok (.aload_n 0, 1) := by decide +kernel
theorem dL_law_523 : decode cL_law 523 = .ok (.iload 4, 2) := by decide +kernel
theorem dL_law_525 : decode cL_law 525 = .ok (.iconst 2, 1) := by decide +kernel
theorem dL_law_526 : decode cL_law 526 = .ok (.iadd, 1) := by decide +kernel
theorem dL_law_527 : decode cL_law 527 = .ok (.iaload, 1) := by decide +kernel
theorem dL_law_528 : decode cL_law 528 = .ok (.invokevirtual 101, 3) := by decide +kernel
theorem dL_law_531 : decode cL_law 531 = .ok (.istore 6, 2) := by decide +kernel
theorem dL_law_533 : decode cL_law 533 = .ok (.goto 411, 3) := by decide +kernel
theorem dL_law_536 : decode cL_law 536 = .ok (.aload_n 1, 1) := by decide +kernel
theorem dL_law_537 : decode cL_law 537 = .ok (.aload_n 0, 1) := by decide +kernel
theorem dL_law_538 : decode cL_law 538 = .ok (.iload 4, 2) := by decide +kernel
theorem dL_law_540 : decode cL_law 540 = .ok (.iconst 1, 1) := by decide +kernel
theorem dL_law_541 : decode cL_law 541 = .ok (.iadd, 1) := by decide +kernel
theorem dL_law_542 : decode cL_law 542 = .ok (.iaload, 1) := by decide +kernel
theorem dL_law_543 : decode cL_law 543 = .ok (.aload_n 0, 1) := by decide +kernel
theorem dL_law_544 : decode cL_law 544 = .ok (.iload 4, 2) := by decide +kernel
theorem dL_law_546 : decode cL_law 546 = .ok (.iconst 2, 1) := by decide +kernel
theorem dL_law_547 : decode cL_law 547 = .ok (.iadd, 1) := by decide +kernel
theorem dL_law_548 : decode cL_law 548 = .ok (.iaload, 1) := by decide +kernel
theorem dL_law_549 : decode cL_law 549 = .ok (.aload_n 0, 1) := by decide +kernel
theorem dL_law_550 : decode cL_law 550 = .ok (.iload 4, 2) := by decide +kernel
theorem dL_law_552 : decode cL_law 552 = .ok (.iconst 3, 1) := by decide +kernel
theorem dL_law_553 : decode cL_law 553 = .ok (.iadd, 1) := by decide +kernel
theorem dL_law_554 : decode cL_law 554 = .ok (.iaload, 1) := by decide +kernel
theorem dL_law_555 : decode cL_law 555 = .ok (.aload_n 3, 1) := by decide +kernel
theorem dL_law_556 : decode cL_law 556 = .ok (.invokestatic 102, 3) := by decide +kernel
theorem dL_law_559 : decode cL_law 559 = .ok (.istore 5, 2) := by decide +kernel
theorem dL_law_561 : decode cL_law 561 = .ok (.aload_n 2, 1) := by decide +kernel
theorem dL_law_562 : decode cL_law 562 = .ok (.aload_n 0, 1) := by decide +kernel
theorem dL_law_563 : decode cL_law 563 = .ok (.iload 4, 2) := by decide +kernel
theorem dL_law_565 : decode cL_law 565 = .ok (.iconst 1, 1) := by decide +kernel
theorem dL_law_566 : decode cL_law 566 = .ok (.iadd, 1) := by decide +kernel
theorem dL_law_567 : decode cL_law 567 = .ok (.iaload, 1) := by decide +kernel
theorem dL_law_568 : decode cL_law 568 = .ok (.aload_n 0, 1) := by decide +kernel
theorem dL_law_569 : decode cL_law 569 = .ok (.iload 4, 2) := by decide +kernel
theorem dL_law_571 : decode cL_law 571 = .ok (.iconst 2, 1) := by decide +kernel
theorem dL_law_572 : decode cL_law 572 = .ok (.iadd, 1) := by decide +kernel
theorem dL_law_573 : decode cL_law 573 = .ok (.iaload, 1) := by decide +kernel
theorem dL_law_574 : decode cL_law 574 = .ok (.aload_n 0, 1) := by decide +kernel
theorem dL_law_575 : decode cL_law 575 = .ok (.iload 4, 2) := by decide +kernel
theorem dL_law_577 : decode cL_law 577 = .ok (.iconst 3, 1) := by decide +kernel
theorem dL_law_578 : decode cL_law 578 = .ok (.iadd, 1) := by decide +kernel
theorem dL_law_579 : decode cL_law 579 = .ok (.iaload, 1) := by decide +kernel
theorem dL_law_580 : decode cL_law 580 = .ok (.invokevirtual 105, 3) := by decide +kernel
theorem dL_law_583 : decode cL_law 583 = .ok (.istore 6, 2) := by decide +kernel
theorem dL_law_585 : decode cL_law 585 = .ok (.goto 359, 3) := by decide +kernel
theorem dL_law_588 : decode cL_law 588 = .ok (.aload_n 1, 1) := by decide +kernel
theorem dL_law_589 : decode cL_law 589 = .ok (.aload_n 0, 1) := by decide +kernel
theorem dL_law_590 : decode cL_law 590 = .ok (.iload 4, 2) := by decide +kernel
theorem dL_law_592 : decode cL_law 592 = .ok (.iconst 1, 1) := by decide +kernel
theorem dL_law_593 : decode cL_law 593 = .ok (.iadd, 1) := by decide +kernel
theorem dL_law_594 : decode cL_law 594 = .ok (.iaload, 1) := by decide +kernel
theorem dL_law_595 : decode cL_law 595 = .ok (.aload_n 0, 1) := by decide +kernel
theorem dL_law_596 : decode cL_law 596 = .ok (.iload 4, 2) := by decide +kernel
theorem dL_law_598 : decode cL_law 598 = .ok (.iconst 2, 1) := by decide +kernel
theorem dL_law_599 : decode cL_law 599 = .ok (.iadd, 1) := by decide +kernel
theorem dL_law_600 : decode cL_law 600 = .ok (.iaload, 1) := by decide +kernel
theorem dL_law_601 : decode cL_law 601 = .ok (.aload_n 0, 1) := by decide +kernel
theorem dL_law_602 : decode cL_law 602 = .ok (.iload 4, 2) := by decide +kernel
theorem dL_law_604 : decode cL_law 604 = .ok (.iconst 3, 1) := by decide +kernel
theorem dL_law_605 : decode cL_law 605 = .ok (.iadd, 1) := by decide +kernel
theorem dL_law_606 : decode cL_law 606 = .ok (.iaload, 1) := by decide +kernel
theorem dL_law_607 : decode cL_law 607 = .ok (.aload_n 3, 1) := by decide +kernel
theorem dL_law_608 : decode cL_law 608 = .ok (.invokestatic 106, 3) := by decide +kernel
theorem dL_law_611 : decode cL_law 611 = .ok (.istore 5, 2) := by decide +kernel
theorem dL_law_613 : decode cL_law 613 = .ok (.aload_n 2, 1) := by decide +kernel
theorem dL_law_614 : decode cL_law 614 = .ok (.aload_n 0, 1) := by decide +kernel
theorem dL_law_615 : decode cL_law 615 = .ok (.iload 4, 2) := by decide +kernel
theorem dL_law_617 : decode cL_law 617 = .ok (.iconst 1, 1) := by decide +kernel
theorem dL_law_618 : decode cL_law 618 = .ok (.iadd, 1) := by decide +kernel
theorem dL_law_619 : decode cL_law 619 = .ok (.iaload, 1) := by decide +kernel
theorem dL_law_620 : decode cL_law 620 = .ok (.aload_n 0, 1) := by decide +kernel
theorem dL_law_621 : decode cL_law 621 = .ok (.iload 4, 2) := by decide +kernel
theorem dL_law_623 : decode cL_law 623 = .ok (.iconst 2, 1) := by decide +kernel
theorem dL_law_624 : decode cL_law 624 = .ok (.iadd, 1) := by decide +kernel
theorem dL_law_625 : decode cL_law 625 = .ok (.iaload, 1) := by decide +kernel
theorem dL_law_626 : decode cL_law 626 = .ok (.aload_n 0, 1) := by decide +kernel
theorem dL_law_627 : decode cL_law 627 = .ok (.iload 4, 2) := by decide +kernel
theorem dL_law_629 : decode cL_law 629 = .ok (.iconst 3, 1) := by decide +kernel
theorem dL_law_630 : decode cL_law 630 = .ok (.iadd, 1) := by decide +kernel
theorem dL_law_631 : decode cL_law 631 = .ok (.iaload, 1) := by decide +kernel
theorem dL_law_632 : decode cL_law 632 = .ok (.invokevirtual 108, 3) := by decide +kernel
theorem dL_law_635 : decode cL_law 635 = .ok (.istore 6, 2) := by decide +kernel
theorem dL_law_637 : decode cL_law 637 = .ok (.goto 307, 3) := by decide +kernel
theorem dL_law_640 : decode cL_law 640 = .ok (.aload_n 1, 1) := by decide +kernel
theorem dL_law_641 : decode cL_law 641 = .ok (.aload_n 0, 1) := by decide +kernel
theorem dL_law_642 : decode cL_law 642 = .ok (.iload 4, 2) := by decide +kernel
theorem dL_law_644 : decode cL_law 644 = .ok (.iconst 1, 1) := by decide +kernel
theorem dL_law_645 : decode cL_law 645 = .ok (.iadd, 1) := by decide +kernel
theorem dL_law_646 : decode cL_law 646 = .ok (.iaload, 1) := by decide +kernel
theorem dL_law_647 : decode cL_law 647 = .ok (.aload_n 0, 1) := by decide +kernel
theorem dL_law_648 : decode cL_law 648 = .ok (.iload 4, 2) := by decide +kernel
theorem dL_law_650 : decode cL_law 650 = .ok (.iconst 2, 1) := by decide +kernel
theorem dL_law_651 : decode cL_law 651 = .ok (.iadd, 1) := by decide +kernel
theorem dL_law_652 : decode cL_law 652 = .ok (.iaload, 1) := by decide +kernel
theorem dL_law_653 : decode cL_law 653 = .ok (.aload_n 3, 1) := by decide +kernel
theorem dL_law_654 : decode cL_law 654 = .ok (.invokestatic 109, 3) := by decide +kernel
theorem dL_law_657 : decode cL_law 657 = .ok (.istore 5, 2) := by decide +kernel
theorem dL_law_659 : decode cL_law 659 = .ok (.aload_n 2, 1) := by decide +kernel
theorem dL_law_660 : decode cL_law 660 = .ok (.aload_n 0, 1) := by decide +kernel
theorem dL_law_661 : decode cL_law 661 = .ok (.iload 4, 2) := by decide +kernel
theorem dL_law_663 : decode cL_law 663 = .ok (.iconst 1, 1) := by decide +kernel
theorem dL_law_664 : decode cL_law 664 = .ok (.iadd, 1) := by decide +kernel
theorem dL_law_665 : decode cL_law 665 = .ok (.iaload, 1) := by decide +kernel
theorem dL_law_666 : decode cL_law 666 = .ok (.aload_n 0, 1) := by decide +kernel
theorem dL_law_667 : decode cL_law 667 = .ok (.iload 4, 2) := by decide +kernel
theorem dL_law_669 : decode cL_law 669 = .ok (.iconst 2, 1) := by decide +kernel
theorem dL_law_670 : decode cL_law 670 = .ok (.iadd, 1) := by decide +kernel
theorem dL_law_671 : decode cL_law 671 = .ok (.iaload, 1) := by decide +kernel
theorem dL_law_672 : decode cL_law 672 = .ok (.invokevirtual 111, 3) := by decide +kernel
theorem dL_law_675 : decode cL_law 675 = .ok (.istore 6, 2) := by decide +kernel
theorem dL_law_677 : decode cL_law 677 = .ok (.goto 267, 3) := by decide +kernel
theorem dL_law_680 : decode cL_law 680 = .ok (.aload_n 1, 1) := by decide +kernel
theorem dL_law_681 : decode cL_law 681 = .ok (.aload_n 0, 1) := by decide +kernel
theorem dL_law_682 : decode cL_law 682 = .ok (.iload 4, 2) := by decide +kernel
theorem dL_law_684 : decode cL_law 684 = .ok (.iconst 1, 1) := by decide +kernel
theorem dL_law_685 : decode cL_law 685 = .ok (.iadd, 1) := by decide +kernel
theorem dL_law_686 : decode cL_law 686 = .ok (.iaload, 1) := by decide +kernel
theorem dL_law_687 : decode cL_law 687 = .ok (.aload_n 0, 1) := by decide +kernel
theorem dL_law_688 : decode cL_law 688 = .ok (.iload 4, 2) := by decide +kernel
theorem dL_law_690 : decode cL_law 690 = .ok (.iconst 2, 1) := by decide +kernel
theorem dL_law_691 : decode cL_law 691 = .ok (.iadd, 1) := by decide +kernel
theorem dL_law_692 : decode cL_law 692 = .ok (.iaload, 1) := by decide +kernel
theorem dL_law_693 : decode cL_law 693 = .ok (.aload_n 0, 1) := by decide +kernel
theorem dL_law_694 : decode cL_law 694 = .ok (.iload 4, 2) := by decide +kernel
theorem dL_law_696 : decode cL_law 696 = .ok (.iconst 3, 1) := by decide +kernel
theorem dL_law_697 : decode cL_law 697 = .ok (.iadd, 1) := by decide +kernel
theorem dL_law_698 : decode cL_law 698 = .ok (.iaload, 1) := by decide +kernel
theorem dL_law_699 : decode cL_law 699 = .ok (.ifCond .eq 7, 3) := by decide +kernel
theorem dL_law_702 : decode cL_law 702 = .ok (.iconst 1, 1) := by decide +kernel
theorem dL_law_703 : decode cL_law 703 = .ok (.goto 4, 3) := by decide +kernel
theorem dL_law_706 : decode cL_law 706 = .ok (.iconst 0, 1) := by decide +kernel
theorem dL_law_707 : decode cL_law 707 = .ok (.aload_n 3, 1) := by decide +kernel
theorem dL_law_708 : decode cL_law 708 = .ok (.invokestatic 112, 3) := by decide +kernel
theorem dL_law_711 : decode cL_law 711 = .ok (.istore 5, 2) := by decide +kernel
theorem dL_law_713 : decode cL_law 713 = .ok (.aload_n 2, 1) := by decide +kernel
theorem dL_law_714 : decode cL_law 714 = .ok (.aload_n 0, 1) := by decide +kernel
theorem dL_law_715 : decode cL_law 715 = .ok (.iload 4, 2) := by decide +kernel
theorem dL_law_717 : decode cL_law 717 = .ok (.iconst 1, 1) := by decide +kernel
theorem dL_law_718 : decode cL_law 718 = .ok (.iadd, 1) := by decide +kernel
theorem dL_law_719 : decode cL_law 719 = .ok (.iaload, 1) := by decide +kernel
theorem dL_law_720 : decode cL_law 720 = .ok (.aload_n 0, 1) := by decide +kernel
theorem dL_law_721 : decode cL_law 721 = .ok (.iload 4, 2) := by decide +kernel
theorem dL_law_723 : decode cL_law 723 = .ok (.iconst 2, 1) := by decide +kernel
theorem dL_law_724 : decode cL_law 724 = .ok (.iadd, 1) := by decide +kernel
theorem dL_law_725 : decode cL_law 725 = .ok (.iaload, 1) := by decide +kernel
theorem dL_law_726 : decode cL_law 726 = .ok (.aload_n 0, 1) := by decide +kernel
theorem dL_law_727 : decode cL_law 727 = .ok (.iload 4, 2) := by decide +kernel
theorem dL_law_729 : decode cL_law 729 = .ok (.iconst 3, 1) := by decide +kernel
theorem dL_law_730 : decode cL_law 730 = .ok (.iadd, 1) := by decide +kernel
theorem dL_law_731 : decode cL_law 731 = .ok (.iaload, 1) := by decide +kernel
theorem dL_law_732 : decode cL_law 732 = .ok (.ifCond .eq 7, 3) := by decide +kernel
theorem dL_law_735 : decode cL_law 735 = .ok (.iconst 1, 1) := by decide +kernel
theorem dL_law_736 : decode cL_law 736 = .ok (.goto 4, 3) := by decide +kernel
theorem dL_law_739 : decode cL_law 739 = .ok (.iconst 0, 1) := by decide +kernel
theorem dL_law_740 : decode cL_law 740 = .ok (.invokevirtual 115, 3) := by decide +kernel
theorem dL_law_743 : decode cL_law 743 = .ok (.istore 6, 2) := by decide +kernel
theorem dL_law_745 : decode cL_law 745 = .ok (.goto 199, 3) := by decide +kernel
theorem dL_law_748 : decode cL_law 748 = .ok (.aload_n 1, 1) := by decide +kernel
theorem dL_law_749 : decode cL_law 749 = .ok (.aload_n 0, 1) := by decide +kernel
theorem dL_law_750 : decode cL_law 750 = .ok (.iload 4, 2) := by decide +kernel
theorem dL_law_752 : decode cL_law 752 = .ok (.iconst 1, 1) := by decide +kernel
theorem dL_law_753 : decode cL_law 753 = .ok (.iadd, 1) := by decide +kernel
theorem dL_law_754 : decode cL_law 754 = .ok (.iaload, 1) := by decide +kernel
theorem dL_law_755 : decode cL_law 755 = .ok (.aload_n 0, 1) := by decide +kernel
theorem dL_law_756 : decode cL_law 756 = .ok (.iload 4, 2) := by decide +kernel
theorem dL_law_758 : decode cL_law 758 = .ok (.iconst 2, 1) := by decide +kernel
theorem dL_law_759 : decode cL_law 759 = .ok (.iadd, 1) := by decide +kernel
theorem dL_law_760 : decode cL_law 760 = .ok (.iaload, 1) := by decide +kernel
theorem dL_law_761 : decode cL_law 761 = .ok (.aload_n 0, 1) := by decide +kernel
theorem dL_law_762 : decode cL_law 762 = .ok (.iload 4, 2) := by decide +kernel
theorem dL_law_764 : decode cL_law 764 = .ok (.iconst 3, 1) := by decide +kernel
theorem dL_law_765 : decode cL_law 765 = .ok (.iadd, 1) := by decide +kernel
theorem dL_law_766 : decode cL_law 766 = .ok (.iaload, 1) := by decide +kernel
theorem dL_law_767 : decode cL_law 767 = .ok (.aload_n 3, 1) := by decide +kernel
theorem dL_law_768 : decode cL_law 768 = .ok (.invokestatic 116, 3) := by decide +kernel
theorem dL_law_771 : decode cL_law 771 = .ok (.istore 5, 2) := by decide +kernel
theorem dL_law_773 : decode cL_law 773 = .ok (.aload_n 2, 1) := by decide +kernel
theorem dL_law_774 : decode cL_law 774 = .ok (.aload_n 0, 1) := by decide +kernel
theorem dL_law_775 : decode cL_law 775 = .ok (.iload 4, 2) := by decide +kernel
theorem dL_law_777 : decode cL_law 777 = .ok (.iconst 1, 1) := by decide +kernel
theorem dL_law_778 : decode cL_law 778 = .ok (.iadd, 1) := by decide +kernel
theorem dL_law_779 : decode cL_law 779 = .ok (.iaload, 1) := by decide +kernel
theorem dL_law_780 : decode cL_law 780 = .ok (.aload_n 0, 1) := by decide +kernel
theorem dL_law_781 : decode cL_law 781 = .ok (.iload 4, 2) := by decide +kernel
theorem dL_law_783 : decode cL_law 783 = .ok (.iconst 2, 1) := by decide +kernel
theorem dL_law_784 : decode cL_law 784 = .ok (.iadd, 1) := by decide +kernel
theorem dL_law_785 : decode cL_law 785 = .ok (.iaload, 1) := by decide +kernel
theorem dL_law_786 : decode cL_law 786 = .ok (.aload_n 0, 1) := by decide +kernel
theorem dL_law_787 : decode cL_law 787 = .ok (.iload 4, 2) := by decide +kernel
theorem dL_law_789 : decode cL_law 789 = .ok (.iconst 3, 1) := by decide +kernel
theorem dL_law_790 : decode cL_law 790 = .ok (.iadd, 1) := by decide +kernel
theorem dL_law_791 : decode cL_law 791 = .ok (.iaload, 1) := by decide +kernel
theorem dL_law_792 : decode cL_law 792 = .ok (.invokevirtual 118, 3) := by decide +kernel
theorem dL_law_795 : decode cL_law 795 = .ok (.istore 6, 2) := by decide +kernel
theorem dL_law_797 : decode cL_law 797 = .ok (.goto 147, 3) := by decide +kernel
theorem dL_law_800 : decode cL_law 800 = .ok (.aload_n 1, 1) := by decide +kernel
theorem dL_law_801 : decode cL_law 801 = .ok (.aload_n 0, 1) := by decide +kernel
theorem dL_law_802 : decode cL_law 802 = .ok (.iload 4, 2) := by decide +kernel
theorem dL_law_804 : decode cL_law 804 = .ok (.iconst 1, 1) := by decide +kernel
theorem dL_law_805 : decode cL_law 805 = .ok (.iadd, 1) := by decide +kernel
theorem dL_law_806 : decode cL_law 806 = .ok (.iaload, 1) := by decide +kernel
theorem dL_law_807 : decode cL_law 807 = .ok (.aload_n 0, 1) := by decide +kernel
theorem dL_law_808 : decode cL_law 808 = .ok (.iload 4, 2) := by decide +kernel
theorem dL_law_810 : decode cL_law 810 = .ok (.iconst 2, 1) := by decide +kernel
theorem dL_law_811 : decode cL_law 811 = .ok (.iadd, 1) := by decide +kernel
theorem dL_law_812 : decode cL_law 812 = .ok (.iaload, 1) := by decide +kernel
theorem dL_law_813 : decode cL_law 813 = .ok (.aload_n 3, 1) := by decide +kernel
theorem dL_law_814 : decode cL_law 814 = .ok (.invokestatic 119, 3) := by decide +kernel
theorem dL_law_817 : decode cL_law 817 = .ok (.istore 5, 2) := by decide +kernel
theorem dL_law_819 : decode cL_law 819 = .ok (.aload_n 2, 1) := by decide +kernel
theorem dL_law_820 : decode cL_law 820 = .ok (.aload_n 0, 1) := by decide +kernel
theorem dL_law_821 : decode cL_law 821 = .ok (.iload 4, 2) := by decide +kernel
theorem dL_law_823 : decode cL_law 823 = .ok (.iconst 1, 1) := by decide +kernel
theorem dL_law_824 : decode cL_law 824 = .ok (.iadd, 1) := by decide +kernel
theorem dL_law_825 : decode cL_law 825 = .ok (.iaload, 1) := by decide +kernel
theorem dL_law_826 : decode cL_law 826 = .ok (.aload_n 0, 1) := by decide +kernel
theorem dL_law_827 : decode cL_law 827 = .ok (.iload 4, 2) := by decide +kernel
theorem dL_law_829 : decode cL_law 829 = .ok (.iconst 2, 1) := by decide +kernel
theorem dL_law_830 : decode cL_law 830 = .ok (.iadd, 1) := by decide +kernel
theorem dL_law_831 : decode cL_law 831 = .ok (.iaload, 1) := by decide +kernel
theorem dL_law_832 : decode cL_law 832 = .ok (.invokevirtual 121, 3) := by decide +kernel
theorem dL_law_835 : decode cL_law 835 = .ok (.istore 6, 2) := by decide +kernel
theorem dL_law_837 : decode cL_law 837 = .ok (.goto 107, 3) := by decide +kernel
theorem dL_law_840 : decode cL_law 840 = .ok (.aload_n 1, 1) := by decide +kernel
theorem dL_law_841 : decode cL_law 841 = .ok (.invokevirtual 122, 3) := by decide +kernel
theorem dL_law_844 : decode cL_law 844 = .ok (.pop, 1) := by decide +kernel
theorem dL_law_845 : decode cL_law 845 = .ok (.aload_n 2, 1) := by decide +kernel
theorem dL_law_846 : decode cL_law 846 = .ok (.invokevirtual 125, 3) := by decide +kernel
theorem dL_law_849 : decode cL_law 849 = .ok (.pop, 1) := by decide +kernel
theorem dL_law_850 : decode cL_law 850 = .ok (.goto 94, 3) := by decide +kernel
theorem dL_law_853 : decode cL_law 853 = .ok (.aload_n 1, 1) := by decide +kernel
theorem dL_law_854 : decode cL_law 854 = .ok (.aload_n 0, 1) := by decide +kernel
theorem dL_law_855 : decode cL_law 855 = .ok (.iload 4, 2) := by decide +kernel
theorem dL_law_857 : decode cL_law 857 = .ok (.iconst 1, 1) := by decide +kernel
theorem dL_law_858 : decode cL_law 858 = .ok (.iadd, 1) := by decide +kernel
theorem dL_law_859 : decode cL_law 859 = .ok (.iaload, 1) := by decide +kernel
theorem dL_law_860 : decode cL_law 860 = .ok (.aload_n 0, 1) := by decide +kernel
theorem dL_law_861 : decode cL_law 861 = .ok (.iload 4, 2) := by decide +kernel
theorem dL_law_863 : decode cL_law 863 = .ok (.iconst 2, 1) := by decide +kernel
theorem dL_law_864 : decode cL_law 864 = .ok (.iadd, 1) := by decide +kernel
theorem dL_law_865 : decode cL_law 865 = .ok (.iaload, 1) := by decide +kernel
theorem dL_law_866 : decode cL_law 866 = .ok (.aload_n 3, 1) := by decide +kernel
theorem dL_law_867 : decode cL_law 867 = .ok (.invokestatic 126, 3) := by decide +kernel
theorem dL_law_870 : decode cL_law 870 = .ok (.istore 5, 2) := by decide +kernel
theorem dL_law_872 : decode cL_law 872 = .ok (.aload_n 2, 1) := by decide +kernel
theorem dL_law_873 : decode cL_law 873 = .ok (.aload_n 0, 1) := by decide +kernel
theorem dL_law_874 : decode cL_law 874 = .ok (.iload 4, 2) := by decide +kernel
theorem dL_law_876 : decode cL_law 876 = .ok (.iconst 1, 1) := by decide +kernel
theorem dL_law_877 : decode cL_law 877 = .ok (.iadd, 1) := by decide +kernel
theorem dL_law_878 : decode cL_law 878 = .ok (.iaload, 1) := by decide +kernel
theorem dL_law_879 : decode cL_law 879 = .ok (.aload_n 0, 1) := by decide +kernel
theorem dL_law_880 : decode cL_law 880 = .ok (.iload 4, 2) := by decide +kernel
theorem dL_law_882 : decode cL_law 882 = .ok (.iconst 2, 1) := by decide +kernel
theorem dL_law_883 : decode cL_law 883 = .ok (.iadd, 1) := by decide +kernel
theorem dL_law_884 : decode cL_law 884 = .ok (.iaload, 1) := by decide +kernel
theorem dL_law_885 : decode cL_law 885 = .ok (.invokevirtual 128, 3) := by decide +kernel
theorem dL_law_888 : decode cL_law 888 = .ok (.istore 6, 2) := by decide +kernel
theorem dL_law_890 : decode cL_law 890 = .ok (.goto 54, 3) := by decide +kernel
theorem dL_law_893 : decode cL_law 893 = .ok (.aload_n 1, 1) := by decide +kernel
theorem dL_law_894 : decode cL_law 894 = .ok (.aload_n 0, 1) := by decide +kernel
theorem dL_law_895 : decode cL_law 895 = .ok (.iload 4, 2) := by decide +kernel
theorem dL_law_897 : decode cL_law 897 = .ok (.iconst 1, 1) := by decide +kernel
theorem dL_law_898 : decode cL_law 898 = .ok (.iadd, 1) := by decide +kernel
theorem dL_law_899 : decode cL_law 899 = .ok (.iaload, 1) := by decide +kernel
theorem dL_law_900 : decode cL_law 900 = .ok (.aload_n 0, 1) := by decide +kernel
theorem dL_law_901 : decode cL_law 901 = .ok (.iload 4, 2) := by decide +kernel
theorem dL_law_903 : decode cL_law 903 = .ok (.iconst 2, 1) := by decide +kernel
theorem dL_law_904 : decode cL_law 904 = .ok (.iadd, 1) := by decide +kernel
theorem dL_law_905 : decode cL_law 905 = .ok (.iaload, 1) := by decide +kernel
theorem dL_law_906 : decode cL_law 906 = .ok (.aload_n 3, 1) := by decide +kernel
theorem dL_law_907 : decode cL_law 907 = .ok (.invokestatic 129, 3) := by decide +kernel
theorem dL_law_910 : decode cL_law 910 = .ok (.istore 5, 2) := by decide +kernel
theorem dL_law_912 : decode cL_law 912 = .ok (.aload_n 2, 1) := by decide +kernel
theorem dL_law_913 : decode cL_law 913 = .ok (.aload_n 0, 1) := by decide +kernel
theorem dL_law_914 : decode cL_law 914 = .ok (.iload 4, 2) := by decide +kernel
theorem dL_law_916 : decode cL_law 916 = .ok (.iconst 1, 1) := by decide +kernel
theorem dL_law_917 : decode cL_law 917 = .ok (.iadd, 1) := by decide +kernel
theorem dL_law_918 : decode cL_law 918 = .ok (.iaload, 1) := by decide +kernel
theorem dL_law_919 : decode cL_law 919 = .ok (.aload_n 0, 1) := by decide +kernel
theorem dL_law_920 : decode cL_law 920 = .ok (.iload 4, 2) := by decide +kernel
theorem dL_law_922 : decode cL_law 922 = .ok (.iconst 2, 1) := by decide +kernel
theorem dL_law_923 : decode cL_law 923 = .ok (.iadd, 1) := by decide +kernel
theorem dL_law_924 : decode cL_law 924 = .ok (.iaload, 1) := by decide +kernel
theorem dL_law_925 : decode cL_law 925 = .ok (.invokevirtual 131, 3) := by decide +kernel
theorem dL_law_928 : decode cL_law 928 = .ok (.istore 6, 2) := by decide +kernel
theorem dL_law_930 : decode cL_law 930 = .ok (.goto 14, 3) := by decide +kernel
theorem dL_law_933 : decode cL_law 933 = .ok (.aload_n 1, 1) := by decide +kernel
theorem dL_law_934 : decode cL_law 934 = .ok (.invokevirtual 132, 3) := by decide +kernel
theorem dL_law_937 : decode cL_law 937 = .ok (.aload_n 2, 1) := by decide +kernel
theorem dL_law_938 : decode cL_law 938 = .ok (.invokevirtual 135, 3) := by decide +kernel
theorem dL_law_941 : decode cL_law 941 = .ok (.goto 3, 3) := by decide +kernel
theorem dL_law_944 : decode cL_law 944 = .ok (.iinc 4 6, 3) := by decide +kernel
theorem dL_law_947 : decode cL_law 947 = .ok (.goto (-914), 3) := by decide +kernel
theorem dL_law_950 : decode cL_law 950 = .ok (.iconst 1, 1) := by decide +kernel
theorem dL_law_951 : decode cL_law 951 = .ok (.ireturn, 1) := by decide +kernel
end
section
theorem wIX0_age : q_in (Cond.instanceMethod yX0_age) := q_in_at 423 (by decide +kernel) rfl
theorem wIX0_ageTimers : q_in (Cond.instanceMethod yX0_ageTimers) := q_in_at 428 (by decide +kernel) rfl
theorem wIX0_allow : q_in (Cond.instanceMethod yX0_allow) := q_in_at 347 (by decide +kernel) rfl
theorem wIX0_block : q_in (Cond.instanceMethod yX0_block) := q_in_at 391 (by decide +kernel) rfl
theorem wIX0_doubted : q_in (Cond.instanceMethod yX0_doubted) := q_in_at 383 (by decide +kernel) rfl
theorem wIX0_exclude : q_in (Cond.instanceMethod yX0_exclude) := q_in_at 339 (by decide +kernel) rfl
theorem wIX0_include : q_in (Cond.instanceMethod yX0_include) := q_in_at 130 (by decide +kernel) rfl
theorem wIX0_init : q_in (Cond.instanceMethod yX0_init) := q_in_at 70 (by decide +kernel) rfl
theorem wIX0_lets : q_in (Cond.instanceMethod yX0_lets) := q_in_at 489 (by decide +kernel) rfl
theorem wIX0_lowerOwnTimer : q_in (Cond.instanceMethod yX0_lowerOwnTimer) := q_in_at 375 (by decide +kernel) rfl
theorem wIX0_lowerTimers : q_in (Cond.instanceMethod yX0_lowerTimers) := q_in_at 366 (by decide +kernel) rfl
theorem wIX0_reset : q_in (Cond.instanceMethod yX0_reset) := q_in_at 117 (by decide +kernel) rfl
theorem wIX0_setTimers : q_in (Cond.instanceMethod yX0_setTimers) := q_in_at 123 (by decide +kernel) rfl
theorem wIX0_state : q_in (Cond.instanceMethod yX0_state) := q_in_at 504 (by decide +kernel) rfl
theorem wIX1_ageFilters : q_in (Cond.instanceMethod yX1_ageFilters) := q_in_at 419 (by decide +kernel) rfl
theorem wIX1_askGroup : q_in (Cond.instanceMethod yX1_askGroup) := q_in_at 372 (by decide +kernel) rfl
theorem wIX1_askSources : q_in (Cond.instanceMethod yX1_askSources) := q_in_at 352 (by decide +kernel) rfl
theorem wIX1_asks : q_in (Cond.instanceMethod yX1_asks) := q_in_at 141 (by decide +kernel) rfl
theorem wIX1_changeWish : q_in (Cond.instanceMethod yX1_changeWish) := q_in_at 446 (by decide +kernel) rfl
theorem wIX1_grace : q_in (Cond.instanceMethod yX1_grace) := q_in_at 322 (by decide +kernel) rfl
theorem wIX1_hasMemberFor : q_in (Cond.instanceMethod yX1_hasMemberFor) := q_in_at 473 (by decide +kernel) rfl
theorem wIX1_hearBlock : q_in (Cond.instanceMethod yX1_hearBlock) := q_in_at 388 (by decide +kernel) rfl
theorem wIX1_hearQuery : q_in (Cond.instanceMethod yX1_hearQuery) := q_in_at 407 (by decide +kernel) rfl
theorem wIX1_hearReport : q_in (Cond.instanceMethod yX1_hearReport) := q_in_at 334 (by decide +kernel) rfl
theorem wIX1_hearToEx : q_in (Cond.instanceMethod yX1_hearToEx) := q_in_at 380 (by decide +kernel) rfl
theorem wIX1_hearToIn : q_in (Cond.instanceMethod yX1_hearToIn) := q_in_at 344 (by decide +kernel) rfl
theorem wIX1_init : q_in (Cond.instanceMethod yX1_init) := q_in_at 61 (by decide +kernel) rfl
theorem wIX1_last : q_in (Cond.instanceMethod yX1_last) := q_in_at 362 (by decide +kernel) rfl
theorem wIX1_letAnswer : q_in (Cond.instanceMethod yX1_letAnswer) := q_in_at 458 (by decide +kernel) rfl
theorem wIX1_records : q_in (Cond.instanceMethod yX1_records) := q_in_at 548 (by decide +kernel) rfl
theorem wIX1_reset : q_in (Cond.instanceMethod yX1_reset) := q_in_at 113 (by decide +kernel) rfl
theorem wIX1_runClock : q_in (Cond.instanceMethod yX1_runClock) := q_in_at 435 (by decide +kernel) rfl
theorem wIX1_set : q_in (Cond.instanceMethod yX1_set) := q_in_at 137 (by decide +kernel) rfl
theorem wIX1_yieldTo : q_in (Cond.instanceMethod yX1_yieldTo) := q_in_at 402 (by decide +kernel) rfl
theorem wIX2_init : q_in (Cond.instanceMethod yX2_init) := q_in_at 99 (by decide +kernel) rfl
theorem wIX2_reset : q_in (Cond.instanceMethod yX2_reset) := q_in_at 133 (by decide +kernel) rfl
theorem wIX2_wants : q_in (Cond.instanceMethod yX2_wants) := q_in_at 477 (by decide +kernel) rfl
theorem wIX3_add : q_in (Cond.instanceMethod yX3_add) := q_in_at 355 (by decide +kernel) rfl
theorem wIX3_init : q_in (Cond.instanceMethod yX3_init) := q_in_at 175 (by decide +kernel) rfl
theorem wIX3_look : q_in (Cond.instanceMethod yX3_look) := q_in_at 536 (by decide +kernel) rfl
theorem wIX3_reset : q_in (Cond.instanceMethod yX3_reset) := q_in_at 216 (by decide +kernel) rfl
theorem wIX4_answer : q_in (Cond.instanceMethod yX4_answer) := q_in_at 454 (by decide +kernel) rfl
theorem wIX4_asked : q_in (Cond.instanceMethod yX4_asked) := q_in_at 532 (by decide +kernel) rfl
theorem wIX4_checkPlace : q_in (Cond.instanceMethod yX4_checkPlace) := q_in_at 470 (by decide +kernel) rfl
theorem wIX4_clear : q_in (Cond.instanceMethod yX4_clear) := q_in_at 211 (by decide +kernel) rfl
theorem wIX4_filterAt : q_in (Cond.instanceMethod yX4_filterAt) := q_in_at 501 (by decide +kernel) rfl
theorem wIX4_groupTimer : q_in (Cond.instanceMethod yX4_groupTimer) := q_in_at 525 (by decide +kernel) rfl
theorem wIX4_init : q_in (Cond.instanceMethod yX4_init) := q_in_at 46 (by decide +kernel) rfl
theorem wIX4_member : q_in (Cond.instanceMethod yX4_member) := q_in_at 442 (by decide +kernel) rfl
theorem wIX4_mode : q_in (Cond.instanceMethod yX4_mode) := q_in_at 496 (by decide +kernel) rfl
theorem wIX4_passed : q_in (Cond.instanceMethod yX4_passed) := q_in_at 485 (by decide +kernel) rfl
theorem wIX4_query : q_in (Cond.instanceMethod yX4_query) := q_in_at 398 (by decide +kernel) rfl
theorem wIX4_report : q_in (Cond.instanceMethod yX4_report) := q_in_at 329 (by decide +kernel) rfl
theorem wIX4_runClocks : q_in (Cond.instanceMethod yX4_runClocks) := q_in_at 432 (by decide +kernel) rfl
theorem wIX4_sent : q_in (Cond.instanceMethod yX4_sent) := q_in_at 207 (by decide +kernel) rfl
theorem wIX4_settings : q_in (Cond.instanceMethod yX4_settings) := q_in_at 228 (by decide +kernel) rfl
theorem wIX4_sources : q_in (Cond.instanceMethod yX4_sources) := q_in_at 511 (by decide +kernel) rfl
theorem wIX4_tick : q_in (Cond.instanceMethod yX4_tick) := q_in_at 415 (by decide +kernel) rfl
theorem wIX4_timer : q_in (Cond.instanceMethod yX4_timer) := q_in_at 518 (by decide +kernel) rfl
theorem wIX4_told : q_in (Cond.instanceMethod yX4_told) := q_in_at 543 (by decide +kernel) rfl
theorem wIX4_wanted : q_in (Cond.instanceMethod yX4_wanted) := q_in_at 465 (by decide +kernel) rfl
theorem wIX5_answer : q_in (Cond.instanceMethod yX5_answer) := q_in_at 716 (by decide +kernel) rfl
theorem wIX5_ask : q_in (Cond.instanceMethod yX5_ask) := q_in_at 669 (by decide +kernel) rfl
theorem wIX5_askGroup : q_in (Cond.instanceMethod yX5_askGroup) := q_in_at 685 (by decide +kernel) rfl
theorem wIX5_asked : q_in (Cond.instanceMethod yX5_asked) := q_in_at 752 (by decide +kernel) rfl
theorem wIX5_asks : q_in (Cond.instanceMethod yX5_asks) := q_in_at 673 (by decide +kernel) rfl
theorem wIX5_become : q_in (Cond.instanceMethod yX5_become) := q_in_at 661 (by decide +kernel) rfl
theorem wIX5_begin : q_in (Cond.instanceMethod yX5_begin) := q_in_at 560 (by decide +kernel) rfl
theorem wIX5_clear : q_in (Cond.instanceMethod yX5_clear) := q_in_at 760 (by decide +kernel) rfl
theorem wIX5_excluding : q_in (Cond.instanceMethod yX5_excluding) := q_in_at 653 (by decide +kernel) rfl
theorem wIX5_grace : q_in (Cond.instanceMethod yX5_grace) := q_in_at 640 (by decide +kernel) rfl
theorem wIX5_groupTimer : q_in (Cond.instanceMethod yX5_groupTimer) := q_in_at 744 (by decide +kernel) rfl
theorem wIX5_including : q_in (Cond.instanceMethod yX5_including) := q_in_at 693 (by decide +kernel) rfl
theorem wIX5_init : q_in (Cond.instanceMethod yX5_init) := q_in_at 555 (by decide +kernel) rfl
theorem wIX5_isLink : q_in (Cond.instanceMethod yX5_isLink) := q_in_at 633 (by decide +kernel) rfl
theorem wIX5_knows : q_in (Cond.instanceMethod yX5_knows) := q_in_at 733 (by decide +kernel) rfl
theorem wIX5_lower : q_in (Cond.instanceMethod yX5_lower) := q_in_at 681 (by decide +kernel) rfl
theorem wIX5_lowerGroup : q_in (Cond.instanceMethod yX5_lowerGroup) := q_in_at 689 (by decide +kernel) rfl
theorem wIX5_member : q_in (Cond.instanceMethod yX5_member) := q_in_at 712 (by decide +kernel) rfl
theorem wIX5_mode : q_in (Cond.instanceMethod yX5_mode) := q_in_at 728 (by decide +kernel) rfl
theorem wIX5_passed : q_in (Cond.instanceMethod yX5_passed) := q_in_at 724 (by decide +kernel) rfl
theorem wIX5_query : q_in (Cond.instanceMethod yX5_query) := q_in_at 696 (by decide +kernel) rfl
theorem wIX5_report : q_in (Cond.instanceMethod yX5_report) := q_in_at 643 (by decide +kernel) rfl
theorem wIX5_reported : q_in (Cond.instanceMethod yX5_reported) := q_in_at 649 (by decide +kernel) rfl
theorem wIX5_send : q_in (Cond.instanceMethod yX5_send) := q_in_at 677 (by decide +kernel) rfl
theorem wIX5_sent : q_in (Cond.instanceMethod yX5_sent) := q_in_at 748 (by decide +kernel) rfl
theorem wIX5_setOf : q_in (Cond.instanceMethod yX5_setOf) := q_in_at 657 (by decide +kernel) rfl
theorem wIX5_setTimers : q_in (Cond.instanceMethod yX5_setTimers) := q_in_at 665 (by decide +kernel) rfl
theorem wIX5_settings : q_in (Cond.instanceMethod yX5_settings) := q_in_at 628 (by decide +kernel) rfl
theorem wIX5_sources : q_in (Cond.instanceMethod yX5_sources) := q_in_at 736 (by decide +kernel) rfl
theorem wIX5_thrown : q_in (Cond.instanceMethod yX5_thrown) := q_in_at 624 (by decide +kernel) rfl
theorem wIX5_tick : q_in (Cond.instanceMethod yX5_tick) := q_in_at 700 (by decide +kernel) rfl
theorem wIX5_tickLink : q_in (Cond.instanceMethod yX5_tickLink) := q_in_at 709 (by decide +kernel) rfl
theorem wIX5_tickRecord : q_in (Cond.instanceMethod yX5_tickRecord) := q_in_at 705 (by decide +kernel) rfl
theorem wIX5_timer : q_in (Cond.instanceMethod yX5_timer) := q_in_at 740 (by decide +kernel) rfl
theorem wIX5_told : q_in (Cond.instanceMethod yX5_told) := q_in_at 756 (by decide +kernel) rfl
theorem wIX5_wanted : q_in (Cond.instanceMethod yX5_wanted) := q_in_at 720 (by decide +kernel) rfl
theorem wNJ9 : q_in (Cond.initialized RJ9) := q_in_at 32 (by decide +kernel) rfl
theorem wNL : q_in (Cond.initialized RL) := q_in_at 30 (by decide +kernel) rfl
theorem wNX0 : q_in (Cond.initialized RX0) := q_in_at 34 (by decide +kernel) rfl
theorem wNX1 : q_in (Cond.initialized RX1) := q_in_at 33 (by decide +kernel) rfl
theorem wNX2 : q_in (Cond.initialized RX2) := q_in_at 35 (by decide +kernel) rfl
theorem wNX3 : q_in (Cond.initialized RX3) := q_in_at 36 (by decide +kernel) rfl
theorem wNX4 : q_in (Cond.initialized RX4) := q_in_at 31 (by decide +kernel) rfl
theorem wNX5 : q_in (Cond.initialized RX5) := q_in_at 37 (by decide +kernel) rfl
theorem wPL_101 : q_sl2 RL 101 yX5_answer := Or.inl (q_in_at 715 (by decide +kernel) rfl)
theorem wPL_101v : q_in (Cond.methodLink RL 101 yX5_answer) := q_in_at 715 (by decide +kernel) rfl
theorem wPL_102 : q_sl2 RL 102 yL_wanted := Or.inl (q_in_at 461 (by decide +kernel) rfl)
theorem wPL_102v : q_in (Cond.methodLink RL 102 yL_wanted) := q_in_at 461 (by decide +kernel) rfl
theorem wPL_105 : q_sl2 RL 105 yX5_wanted := Or.inl (q_in_at 719 (by decide +kernel) rfl)
theorem wPL_105v : q_in (Cond.methodLink RL 105 yX5_wanted) := q_in_at 719 (by decide +kernel) rfl
theorem wPL_106 : q_sl2 RL 106 yL_passed := Or.inl (q_in_at 481 (by decide +kernel) rfl)
theorem wPL_106v : q_in (Cond.methodLink RL 106 yL_passed) := q_in_at 481 (by decide +kernel) rfl
theorem wPL_108 : q_sl2 RL 108 yX5_passed := Or.inl (q_in_at 723 (by decide +kernel) rfl)
theorem wPL_108v : q_in (Cond.methodLink RL 108 yX5_passed) := q_in_at 723 (by decide +kernel) rfl
theorem wPL_109 : q_sl2 RL 109 yL_mode := Or.inl (q_in_at 492 (by decide +kernel) rfl)
theorem wPL_109v : q_in (Cond.methodLink RL 109 yL_mode) := q_in_at 492 (by decide +kernel) rfl
theorem wPL_111 : q_sl2 RL 111 yX5_mode := Or.inl (q_in_at 727 (by decide +kernel) rfl)
theorem wPL_111v : q_in (Cond.methodLink RL 111 yX5_mode) := q_in_at 727 (by decide +kernel) rfl
theorem wPL_112 : q_sl2 RL 112 yL_sources := Or.inl (q_in_at 507 (by decide +kernel) rfl)
theorem wPL_112v : q_in (Cond.methodLink RL 112 yL_sources) := q_in_at 507 (by decide +kernel) rfl
theorem wPL_115 : q_sl2 RL 115 yX5_sources := Or.inl (q_in_at 735 (by decide +kernel) rfl)
theorem wPL_115v : q_in (Cond.methodLink RL 115 yX5_sources) := q_in_at 735 (by decide +kernel) rfl
theorem wPL_116 : q_sl2 RL 116 yL_timer := Or.inl (q_in_at 514 (by decide +kernel) rfl)
theorem wPL_116v : q_in (Cond.methodLink RL 116 yL_timer) := q_in_at 514 (by decide +kernel) rfl
theorem wPL_118 : q_sl2 RL 118 yX5_timer := Or.inl (q_in_at 739 (by decide +kernel) rfl)
theorem wPL_118v : q_in (Cond.methodLink RL 118 yX5_timer) := q_in_at 739 (by decide +kernel) rfl
theorem wPL_119 : q_sl2 RL 119 yL_groupTimer := Or.inl (q_in_at 521 (by decide +kernel) rfl)
theorem wPL_119v : q_in (Cond.methodLink RL 119 yL_groupTimer) := q_in_at 521 (by decide +kernel) rfl
theorem wPL_121 : q_sl2 RL 121 yX5_groupTimer := Or.inl (q_in_at 743 (by decide +kernel) rfl)
theorem wPL_121v : q_in (Cond.methodLink RL 121 yX5_groupTimer) := q_in_at 743 (by decide +kernel) rfl
theorem wPL_122 : q_sl2 RL 122 yX4_sent := Or.inl (q_in_at 206 (by decide +kernel) rfl)
theorem wPL_122v : q_in (Cond.methodLink RL 122 yX4_sent) := q_in_at 206 (by decide +kernel) rfl
theorem wPL_125 : q_sl2 RL 125 yX5_sent := Or.inl (q_in_at 747 (by decide +kernel) rfl)
theorem wPL_125v : q_in (Cond.methodLink RL 125 yX5_sent) := q_in_at 747 (by decide +kernel) rfl
theorem wPL_126 : q_sl2 RL 126 yL_asked := Or.inl (q_in_at 528 (by decide +kernel) rfl)
theorem wPL_126v : q_in (Cond.methodLink RL 126 yL_asked) := q_in_at 528 (by decide +kernel) rfl
theorem wPL_128 : q_sl2 RL 128 yX5_asked := Or.inl (q_in_at 751 (by decide +kernel) rfl)
theorem wPL_128v : q_in (Cond.methodLink RL 128 yX5_asked) := q_in_at 751 (by decide +kernel) rfl
theorem wPL_129 : q_sl2 RL 129 yL_told := Or.inl (q_in_at 539 (by decide +kernel) rfl)
theorem wPL_129v : q_in (Cond.methodLink RL 129 yL_told) := q_in_at 539 (by decide +kernel) rfl
theorem wPL_131 : q_sl2 RL 131 yX5_told := Or.inl (q_in_at 755 (by decide +kernel) rfl)
theorem wPL_131v : q_in (Cond.methodLink RL 131 yX5_told) := q_in_at 755 (by decide +kernel) rfl
theorem wPL_132 : q_sl2 RL 132 yX4_clear := Or.inl (q_in_at 210 (by decide +kernel) rfl)
theorem wPL_132v : q_in (Cond.methodLink RL 132 yX4_clear) := q_in_at 210 (by decide +kernel) rfl
theorem wPL_135 : q_sl2 RL 135 yX5_clear := Or.inl (q_in_at 759 (by decide +kernel) rfl)
theorem wPL_135v : q_in (Cond.methodLink RL 135 yX5_clear) := q_in_at 759 (by decide +kernel) rfl
theorem wPL_17 : q_sl2 RL 17 yX4_report := Or.inl (q_in_at 328 (by decide +kernel) rfl)
theorem wPL_17v : q_in (Cond.methodLink RL 17 yX4_report) := q_in_at 328 (by decide +kernel) rfl
theorem wPL_20 : q_sl2 RL 20 yX4_query := Or.inl (q_in_at 397 (by decide +kernel) rfl)
theorem wPL_20v : q_in (Cond.methodLink RL 20 yX4_query) := q_in_at 397 (by decide +kernel) rfl
theorem wPL_24 : q_sl2 RL 24 yX4_tick := Or.inl (q_in_at 414 (by decide +kernel) rfl)
theorem wPL_24v : q_in (Cond.methodLink RL 24 yX4_tick) := q_in_at 414 (by decide +kernel) rfl
theorem wPL_28 : q_sl2 RL 28 yX4_member := Or.inl (q_in_at 441 (by decide +kernel) rfl)
theorem wPL_28v : q_in (Cond.methodLink RL 28 yX4_member) := q_in_at 441 (by decide +kernel) rfl
theorem wPL_32 : q_sl2 RL 32 yX4_answer := Or.inl (q_in_at 453 (by decide +kernel) rfl)
theorem wPL_32v : q_in (Cond.methodLink RL 32 yX4_answer) := q_in_at 453 (by decide +kernel) rfl
theorem wPL_36 : q_sl2 RL 36 yX4_wanted := Or.inl (q_in_at 464 (by decide +kernel) rfl)
theorem wPL_36v : q_in (Cond.methodLink RL 36 yX4_wanted) := q_in_at 464 (by decide +kernel) rfl
theorem wPL_40 : q_sl2 RL 40 yX4_passed := Or.inl (q_in_at 484 (by decide +kernel) rfl)
theorem wPL_40v : q_in (Cond.methodLink RL 40 yX4_passed) := q_in_at 484 (by decide +kernel) rfl
theorem wPL_44 : q_sl2 RL 44 yX4_mode := Or.inl (q_in_at 495 (by decide +kernel) rfl)
theorem wPL_44v : q_in (Cond.methodLink RL 44 yX4_mode) := q_in_at 495 (by decide +kernel) rfl
theorem wPL_47 : q_sl2 RL 47 yX4_sources := Or.inl (q_in_at 510 (by decide +kernel) rfl)
theorem wPL_47v : q_in (Cond.methodLink RL 47 yX4_sources) := q_in_at 510 (by decide +kernel) rfl
theorem wPL_51 : q_sl2 RL 51 yX4_timer := Or.inl (q_in_at 517 (by decide +kernel) rfl)
theorem wPL_51v : q_in (Cond.methodLink RL 51 yX4_timer) := q_in_at 517 (by decide +kernel) rfl
theorem wPL_54 : q_sl2 RL 54 yX4_groupTimer := Or.inl (q_in_at 524 (by decide +kernel) rfl)
theorem wPL_54v : q_in (Cond.methodLink RL 54 yX4_groupTimer) := q_in_at 524 (by decide +kernel) rfl
theorem wPL_57 : q_sl2 RL 57 yX4_asked := Or.inl (q_in_at 531 (by decide +kernel) rfl)
theorem wPL_57v : q_in (Cond.methodLink RL 57 yX4_asked) := q_in_at 531 (by decide +kernel) rfl
theorem wPL_60 : q_sl2 RL 60 yX4_told := Or.inl (q_in_at 542 (by decide +kernel) rfl)
theorem wPL_60v : q_in (Cond.methodLink RL 60 yX4_told) := q_in_at 542 (by decide +kernel) rfl
theorem wPL_63 : q_sl2 RL 63 yL_cell := Or.inl (q_in_at 219 (by decide +kernel) rfl)
theorem wPL_63v : q_in (Cond.methodLink RL 63 yL_cell) := q_in_at 219 (by decide +kernel) rfl
theorem wPL_69 : q_sl2 RL 69 yX4_init := Or.inl (q_in_at 45 (by decide +kernel) rfl)
theorem wPL_69v : q_in (Cond.methodLink RL 69 yX4_init) := q_in_at 45 (by decide +kernel) rfl
theorem wPL_7 : q_sl2 RL 7 yX4_settings := Or.inl (q_in_at 227 (by decide +kernel) rfl)
theorem wPL_74 : q_sl2 RL 74 yX5_init := Or.inl (q_in_at 554 (by decide +kernel) rfl)
theorem wPL_74v : q_in (Cond.methodLink RL 74 yX5_init) := q_in_at 554 (by decide +kernel) rfl
theorem wPL_75 : q_sl2 RL 75 yL_settings := Or.inl (q_in_at 222 (by decide +kernel) rfl)
theorem wPL_75v : q_in (Cond.methodLink RL 75 yL_settings) := q_in_at 222 (by decide +kernel) rfl
theorem wPL_78 : q_sl2 RL 78 yX5_settings := Or.inl (q_in_at 627 (by decide +kernel) rfl)
theorem wPL_78v : q_in (Cond.methodLink RL 78 yX5_settings) := q_in_at 627 (by decide +kernel) rfl
theorem wPL_79 : q_sl2 RL 79 yL_report := Or.inl (q_in_at 325 (by decide +kernel) rfl)
theorem wPL_79v : q_in (Cond.methodLink RL 79 yL_report) := q_in_at 325 (by decide +kernel) rfl
theorem wPL_7v : q_in (Cond.methodLink RL 7 yX4_settings) := q_in_at 227 (by decide +kernel) rfl
theorem wPL_81 : q_sl2 RL 81 yX5_report := Or.inl (q_in_at 642 (by decide +kernel) rfl)
theorem wPL_81v : q_in (Cond.methodLink RL 81 yX5_report) := q_in_at 642 (by decide +kernel) rfl
theorem wPL_82 : q_sl2 RL 82 yL_query := Or.inl (q_in_at 394 (by decide +kernel) rfl)
theorem wPL_82v : q_in (Cond.methodLink RL 82 yL_query) := q_in_at 394 (by decide +kernel) rfl
theorem wPL_85 : q_sl2 RL 85 yX5_query := Or.inl (q_in_at 695 (by decide +kernel) rfl)
theorem wPL_85v : q_in (Cond.methodLink RL 85 yX5_query) := q_in_at 695 (by decide +kernel) rfl
theorem wPL_86 : q_sl2 RL 86 yL_tick := Or.inl (q_in_at 411 (by decide +kernel) rfl)
theorem wPL_86v : q_in (Cond.methodLink RL 86 yL_tick) := q_in_at 411 (by decide +kernel) rfl
theorem wPL_89 : q_sl2 RL 89 yX5_tick := Or.inl (q_in_at 699 (by decide +kernel) rfl)
theorem wPL_89v : q_in (Cond.methodLink RL 89 yX5_tick) := q_in_at 699 (by decide +kernel) rfl
theorem wPL_90 : q_sl2 RL 90 yX5_thrown := Or.inl (q_in_at 623 (by decide +kernel) rfl)
theorem wPL_90v : q_in (Cond.methodLink RL 90 yX5_thrown) := q_in_at 623 (by decide +kernel) rfl
theorem wPL_94 : q_sl2 RL 94 yL_member := Or.inl (q_in_at 438 (by decide +kernel) rfl)
theorem wPL_94v : q_in (Cond.methodLink RL 94 yL_member) := q_in_at 438 (by decide +kernel) rfl
theorem wPL_97 : q_sl2 RL 97 yX5_member := Or.inl (q_in_at 711 (by decide +kernel) rfl)
theorem wPL_97v : q_in (Cond.methodLink RL 97 yX5_member) := q_in_at 711 (by decide +kernel) rfl
theorem wPL_98 : q_sl2 RL 98 yL_answer := Or.inl (q_in_at 450 (by decide +kernel) rfl)
theorem wPL_98v : q_in (Cond.methodLink RL 98 yL_answer) := q_in_at 450 (by decide +kernel) rfl
theorem wPX0_15 : q_in (Cond.constant RX0 15 65535) := q_in_at 120 (by decide +kernel) rfl
theorem wPX0_16 : q_sl2 RX0 16 yX0_setTimers := Or.inl (q_in_at 121 (by decide +kernel) rfl)
theorem wPX0_16v : q_in (Cond.methodLink RX0 16 yX0_setTimers) := q_in_at 121 (by decide +kernel) rfl
theorem wPX0_20 : q_fl RX0 20 TX0 2 := Or.inl (q_in_at 77 (by decide +kernel) rfl)
theorem wPX0_24 : q_sl2 RX0 24 yX0_include := Or.inl (q_in_at 128 (by decide +kernel) rfl)
theorem wPX0_24v : q_in (Cond.methodLink RX0 24 yX0_include) := q_in_at 128 (by decide +kernel) rfl
theorem wPX0_27 : q_fl RX0 27 TX0 1 := Or.inl (q_in_at 75 (by decide +kernel) rfl)
theorem wPX0_31 : q_fl RX0 31 TX0 3 := Or.inl (q_in_at 80 (by decide +kernel) rfl)
theorem wPX0_34 : q_sl2 RX0 34 yX4_holds := Or.inr ⟨"GroupFilters", q_in_at 125 (by decide +kernel) rfl⟩
theorem wPX0_38 : q_fl RX0 38 TX0 4 := Or.inl (q_in_at 82 (by decide +kernel) rfl)
theorem wPX0_41 : q_sl2 RX0 41 yX0_ageTimers := Or.inl (q_in_at 426 (by decide +kernel) rfl)
theorem wPX0_41v : q_in (Cond.methodLink RX0 41 yX0_ageTimers) := q_in_at 426 (by decide +kernel) rfl
theorem wPX0_45 : q_sl2 RX0 45 yJ9_min_7cf53 := Or.inl (q_in_at 369 (by decide +kernel) rfl)
theorem wPX0_45v : q_in (Cond.methodLink RX0 45 yJ9_min_7cf53) := q_in_at 369 (by decide +kernel) rfl
theorem wPX0_9 : q_fl RX0 9 TX0 0 := Or.inl (q_in_at 73 (by decide +kernel) rfl)
theorem wPX1_102 : q_fl RX1 102 TX0 1 := Or.inr ⟨"GroupFilters", q_in_at 76 (by decide +kernel) rfl⟩
theorem wPX1_106 : q_sl2 RX1 106 yX1_askGroup := Or.inl (q_in_at 370 (by decide +kernel) rfl)
theorem wPX1_106v : q_in (Cond.methodLink RX1 106 yX1_askGroup) := q_in_at 370 (by decide +kernel) rfl
theorem wPX1_11 : q_fl RX1 11 TX1 1 := Or.inl (q_in_at 145 (by decide +kernel) rfl)
theorem wPX1_110 : q_sl2 RX1 110 yX0_doubted := Or.inl (q_in_at 382 (by decide +kernel) rfl)
theorem wPX1_110v : q_in (Cond.methodLink RX1 110 yX0_doubted) := q_in_at 382 (by decide +kernel) rfl
theorem wPX1_114 : q_fl RX1 114 TX0 4 := Or.inr ⟨"GroupFilters", q_in_at 84 (by decide +kernel) rfl⟩
theorem wPX1_117 : q_sl2 RX1 117 yX0_block := Or.inl (q_in_at 390 (by decide +kernel) rfl)
theorem wPX1_117v : q_in (Cond.methodLink RX1 117 yX0_block) := q_in_at 390 (by decide +kernel) rfl
theorem wPX1_120 : q_sl2 RX1 120 yX1_last := Or.inl (q_in_at 361 (by decide +kernel) rfl)
theorem wPX1_120v : q_in (Cond.methodLink RX1 120 yX1_last) := q_in_at 361 (by decide +kernel) rfl
theorem wPX1_123 : q_sl2 RX1 123 yX0_lowerTimers := Or.inl (q_in_at 365 (by decide +kernel) rfl)
theorem wPX1_123v : q_in (Cond.methodLink RX1 123 yX0_lowerTimers) := q_in_at 365 (by decide +kernel) rfl
theorem wPX1_126 : q_sl2 RX1 126 yX0_lowerOwnTimer := Or.inl (q_in_at 374 (by decide +kernel) rfl)
theorem wPX1_126v : q_in (Cond.methodLink RX1 126 yX0_lowerOwnTimer) := q_in_at 374 (by decide +kernel) rfl
theorem wPX1_129 : q_fl RX1 129 TX2 0 := Or.inr ⟨"GroupFilters", q_in_at 103 (by decide +kernel) rfl⟩
theorem wPX1_133 : q_fl RX1 133 TX2 1 := Or.inr ⟨"GroupFilters", q_in_at 105 (by decide +kernel) rfl⟩
theorem wPX1_136 : q_sl2 RX1 136 yX1_hearReport := Or.inl (q_in_at 449 (by decide +kernel) rfl)
theorem wPX1_136v : q_in (Cond.methodLink RX1 136 yX1_hearReport) := q_in_at 449 (by decide +kernel) rfl
theorem wPX1_140 : q_sl2 RX1 140 yX2_wants := Or.inl (q_in_at 476 (by decide +kernel) rfl)
theorem wPX1_140v : q_in (Cond.methodLink RX1 140 yX2_wants) := q_in_at 476 (by decide +kernel) rfl
theorem wPX1_19 : q_fl RX1 19 TX1 2 := Or.inl (q_in_at 147 (by decide +kernel) rfl)
theorem wPX1_23 : q_fl RX1 23 TX1 0 := Or.inl (q_in_at 144 (by decide +kernel) rfl)
theorem wPX1_27 : q_sl2 RX1 27 yX0_init := Or.inr ⟨"GroupFilters", q_in_at 69 (by decide +kernel) rfl⟩
theorem wPX1_28 : q_sl2 RX1 28 yX2_init := Or.inr ⟨"GroupFilters", q_in_at 98 (by decide +kernel) rfl⟩
theorem wPX1_29 : q_sl2 RX1 29 yX1_reset := Or.inl (q_in_at 112 (by decide +kernel) rfl)
theorem wPX1_29v : q_in (Cond.methodLink RX1 29 yX1_reset) := q_in_at 112 (by decide +kernel) rfl
theorem wPX1_32 : q_sl2 RX1 32 yX0_reset := Or.inl (q_in_at 116 (by decide +kernel) rfl)
theorem wPX1_32v : q_in (Cond.methodLink RX1 32 yX0_reset) := q_in_at 116 (by decide +kernel) rfl
theorem wPX1_33 : q_sl2 RX1 33 yX2_reset := Or.inl (q_in_at 132 (by decide +kernel) rfl)
theorem wPX1_33v : q_in (Cond.methodLink RX1 33 yX2_reset) := q_in_at 132 (by decide +kernel) rfl
theorem wPX1_34 : q_fl RX1 34 TX1 6 := Or.inl (q_in_at 151 (by decide +kernel) rfl)
theorem wPX1_37 : q_sl2 RX1 37 yX1_set := Or.inl (q_in_at 136 (by decide +kernel) rfl)
theorem wPX1_37v : q_in (Cond.methodLink RX1 37 yX1_set) := q_in_at 136 (by decide +kernel) rfl
theorem wPX1_41 : q_fl RX1 41 TX1 3 := Or.inl (q_in_at 148 (by decide +kernel) rfl)
theorem wPX1_44 : q_fl RX1 44 TX1 4 := Or.inl (q_in_at 149 (by decide +kernel) rfl)
theorem wPX1_47 : q_fl RX1 47 TX1 5 := Or.inl (q_in_at 150 (by decide +kernel) rfl)
theorem wPX1_50 : q_sl2 RX1 50 yX1_asks := Or.inl (q_in_at 140 (by decide +kernel) rfl)
theorem wPX1_50v : q_in (Cond.methodLink RX1 50 yX1_asks) := q_in_at 140 (by decide +kernel) rfl
theorem wPX1_54 : q_fl RX1 54 TX1 7 := Or.inl (q_in_at 153 (by decide +kernel) rfl)
theorem wPX1_57 : q_sl2 RX1 57 yX0_state := Or.inl (q_in_at 551 (by decide +kernel) rfl)
theorem wPX1_57v : q_in (Cond.methodLink RX1 57 yX0_state) := q_in_at 551 (by decide +kernel) rfl
theorem wPX1_61 : q_sl2 RX1 61 yJ9_min_7cf53 := Or.inl (q_in_at 405 (by decide +kernel) rfl)
theorem wPX1_61v : q_in (Cond.methodLink RX1 61 yJ9_min_7cf53) := q_in_at 405 (by decide +kernel) rfl
theorem wPX1_67 : q_sl2 RX1 67 yX0_age := Or.inl (q_in_at 422 (by decide +kernel) rfl)
theorem wPX1_67v : q_in (Cond.methodLink RX1 67 yX0_age) := q_in_at 422 (by decide +kernel) rfl
theorem wPX1_71 : q_sl2 RX1 71 yX3_add := Or.inl (q_in_at 354 (by decide +kernel) rfl)
theorem wPX1_71v : q_in (Cond.methodLink RX1 71 yX3_add) := q_in_at 354 (by decide +kernel) rfl
theorem wPX1_76 : q_sl2 RX1 76 yX1_grace := Or.inl (q_in_at 337 (by decide +kernel) rfl)
theorem wPX1_76v : q_in (Cond.methodLink RX1 76 yX1_grace) := q_in_at 337 (by decide +kernel) rfl
theorem wPX1_79 : q_sl2 RX1 79 yX0_exclude := Or.inl (q_in_at 338 (by decide +kernel) rfl)
theorem wPX1_79v : q_in (Cond.methodLink RX1 79 yX0_exclude) := q_in_at 338 (by decide +kernel) rfl
theorem wPX1_82 : q_sl2 RX1 82 yX1_hearToIn := Or.inl (q_in_at 342 (by decide +kernel) rfl)
theorem wPX1_82v : q_in (Cond.methodLink RX1 82 yX1_hearToIn) := q_in_at 342 (by decide +kernel) rfl
theorem wPX1_86 : q_sl2 RX1 86 yX1_hearToEx := Or.inl (q_in_at 378 (by decide +kernel) rfl)
theorem wPX1_86v : q_in (Cond.methodLink RX1 86 yX1_hearToEx) := q_in_at 378 (by decide +kernel) rfl
theorem wPX1_89 : q_sl2 RX1 89 yX1_hearBlock := Or.inl (q_in_at 386 (by decide +kernel) rfl)
theorem wPX1_89v : q_in (Cond.methodLink RX1 89 yX1_hearBlock) := q_in_at 386 (by decide +kernel) rfl
theorem wPX1_92 : q_sl2 RX1 92 yX0_allow := Or.inl (q_in_at 346 (by decide +kernel) rfl)
theorem wPX1_92v : q_in (Cond.methodLink RX1 92 yX0_allow) := q_in_at 346 (by decide +kernel) rfl
theorem wPX1_96 : q_fl RX1 96 TX0 2 := Or.inr ⟨"GroupFilters", q_in_at 79 (by decide +kernel) rfl⟩
theorem wPX1_99 : q_sl2 RX1 99 yX1_askSources := Or.inl (q_in_at 350 (by decide +kernel) rfl)
theorem wPX1_99v : q_in (Cond.methodLink RX1 99 yX1_askSources) := q_in_at 350 (by decide +kernel) rfl
theorem wPX2_15 : q_fl RX2 15 TX2 1 := Or.inl (q_in_at 104 (by decide +kernel) rfl)
theorem wPX2_19 : q_sl2 RX2 19 yX4_holds := Or.inr ⟨"GroupFilters", q_in_at 480 (by decide +kernel) rfl⟩
theorem wPX2_9 : q_fl RX2 9 TX2 0 := Or.inl (q_in_at 102 (by decide +kernel) rfl)
theorem wPX3_15 : q_fl RX3 15 TX3 1 := Or.inl (q_in_at 179 (by decide +kernel) rfl)
theorem wPX3_18 : q_fl RX3 18 TX3 2 := Or.inl (q_in_at 180 (by decide +kernel) rfl)
theorem wPX3_21 : q_fl RX3 21 TX3 3 := Or.inl (q_in_at 181 (by decide +kernel) rfl)
theorem wPX3_24 : q_fl RX3 24 TX3 4 := Or.inl (q_in_at 182 (by decide +kernel) rfl)
theorem wPX3_28 : q_fl RX3 28 TX3 5 := Or.inl (q_in_at 184 (by decide +kernel) rfl)
theorem wPX3_31 : q_sl2 RX3 31 yJ9_floorMod_7cf53 := Or.inl (q_in_at 358 (by decide +kernel) rfl)
theorem wPX3_31v : q_in (Cond.methodLink RX3 31 yJ9_floorMod_7cf53) := q_in_at 358 (by decide +kernel) rfl
theorem wPX3_9 : q_fl RX3 9 TX3 0 := Or.inl (q_in_at 178 (by decide +kernel) rfl)
theorem wPX4_103 : q_sl2 RX4 103 yX0_state := Or.inl (q_in_at 503 (by decide +kernel) rfl)
theorem wPX4_103v : q_in (Cond.methodLink RX4 103 yX0_state) := q_in_at 503 (by decide +kernel) rfl
theorem wPX4_106 : q_fl RX4 106 TX0 2 := Or.inr ⟨"GroupFilters", q_in_at 78 (by decide +kernel) rfl⟩
theorem wPX4_109 : q_fl RX4 109 TX0 3 := Or.inr ⟨"GroupFilters", q_in_at 81 (by decide +kernel) rfl⟩
theorem wPX4_112 : q_fl RX4 112 TX0 0 := Or.inr ⟨"GroupFilters", q_in_at 74 (by decide +kernel) rfl⟩
theorem wPX4_116 : q_fl RX4 116 TX0 4 := Or.inr ⟨"GroupFilters", q_in_at 83 (by decide +kernel) rfl⟩
theorem wPX4_119 : q_sl2 RX4 119 yX3_look := Or.inl (q_in_at 535 (by decide +kernel) rfl)
theorem wPX4_119v : q_in (Cond.methodLink RX4 119 yX3_look) := q_in_at 535 (by decide +kernel) rfl
theorem wPX4_122 : q_sl2 RX4 122 yX1_last := Or.inl (q_in_at 546 (by decide +kernel) rfl)
theorem wPX4_122v : q_in (Cond.methodLink RX4 122 yX1_last) := q_in_at 546 (by decide +kernel) rfl
theorem wPX4_125 : q_fl RX4 125 TX1 6 := Or.inr ⟨"GroupFilters", q_in_at 152 (by decide +kernel) rfl⟩
theorem wPX4_128 : q_fl RX4 128 TX1 7 := Or.inr ⟨"GroupFilters", q_in_at 154 (by decide +kernel) rfl⟩
theorem wPX4_131 : q_sl2 RX4 131 yX1_records := Or.inl (q_in_at 547 (by decide +kernel) rfl)
theorem wPX4_131v : q_in (Cond.methodLink RX4 131 yX1_records) := q_in_at 547 (by decide +kernel) rfl
theorem wPX4_134 : q_sl2 RX4 134 yX1_reset := Or.inl (q_in_at 214 (by decide +kernel) rfl)
theorem wPX4_134v : q_in (Cond.methodLink RX4 134 yX1_reset) := q_in_at 214 (by decide +kernel) rfl
theorem wPX4_137 : q_sl2 RX4 137 yX3_reset := Or.inl (q_in_at 215 (by decide +kernel) rfl)
theorem wPX4_137v : q_in (Cond.methodLink RX4 137 yX3_reset) := q_in_at 215 (by decide +kernel) rfl
theorem wPX4_138 : q_fl RX4 138 TX3 5 := Or.inr ⟨"GroupFilters", q_in_at 185 (by decide +kernel) rfl⟩
theorem wPX4_141 : q_sl2 RX4 141 yX1_runClock := Or.inl (q_in_at 434 (by decide +kernel) rfl)
theorem wPX4_141v : q_in (Cond.methodLink RX4 141 yX1_runClock) := q_in_at 434 (by decide +kernel) rfl
theorem wPX4_15 : q_sl2 RX4 15 yJ9_max_7cf53 := Or.inl (q_in_at 54 (by decide +kernel) rfl)
theorem wPX4_15v : q_in (Cond.methodLink RX4 15 yJ9_max_7cf53) := q_in_at 54 (by decide +kernel) rfl
theorem wPX4_20 : q_fl RX4 20 TX4 0 := Or.inl (q_in_at 199 (by decide +kernel) rfl)
theorem wPX4_24 : q_sl2 RX4 24 yX1_init := Or.inl (q_in_at 60 (by decide +kernel) rfl)
theorem wPX4_24v : q_in (Cond.methodLink RX4 24 yX1_init) := q_in_at 60 (by decide +kernel) rfl
theorem wPX4_29 : q_sl2 RX4 29 yX3_init := Or.inr ⟨"GroupFilters", q_in_at 174 (by decide +kernel) rfl⟩
theorem wPX4_30 : q_fl RX4 30 TX4 1 := Or.inl (q_in_at 200 (by decide +kernel) rfl)
theorem wPX4_34 : q_sl2 RX4 34 yX4_checkIndex := Or.inl (q_in_at 231 (by decide +kernel) rfl)
theorem wPX4_34v : q_in (Cond.methodLink RX4 34 yX4_checkIndex) := q_in_at 231 (by decide +kernel) rfl
theorem wPX4_38 : q_sl2 RX4 38 yX4_checkNumber := Or.inl (q_in_at 301 (by decide +kernel) rfl)
theorem wPX4_38v : q_in (Cond.methodLink RX4 38 yX4_checkNumber) := q_in_at 301 (by decide +kernel) rfl
theorem wPX4_42 : q_sl2 RX4 42 yX1_set := Or.inl (q_in_at 320 (by decide +kernel) rfl)
theorem wPX4_42v : q_in (Cond.methodLink RX4 42 yX1_set) := q_in_at 320 (by decide +kernel) rfl
theorem wPX4_45 : q_sl2 RX4 45 yX1_grace := Or.inl (q_in_at 321 (by decide +kernel) rfl)
theorem wPX4_45v : q_in (Cond.methodLink RX4 45 yX1_grace) := q_in_at 321 (by decide +kernel) rfl
theorem wPX4_49 : q_in (Cond.constant RX4 49 65535) := q_in_at 332 (by decide +kernel) rfl
theorem wPX4_50 : q_fl RX4 50 TX3 4 := Or.inr ⟨"GroupFilters", q_in_at 183 (by decide +kernel) rfl⟩
theorem wPX4_54 : q_sl2 RX4 54 yX1_hearReport := Or.inl (q_in_at 333 (by decide +kernel) rfl)
theorem wPX4_54v : q_in (Cond.methodLink RX4 54 yX1_hearReport) := q_in_at 333 (by decide +kernel) rfl
theorem wPX4_58 : q_sl2 RX4 58 yX1_yieldTo := Or.inl (q_in_at 401 (by decide +kernel) rfl)
theorem wPX4_58v : q_in (Cond.methodLink RX4 58 yX1_yieldTo) := q_in_at 401 (by decide +kernel) rfl
theorem wPX4_61 : q_sl2 RX4 61 yX1_hearQuery := Or.inl (q_in_at 406 (by decide +kernel) rfl)
theorem wPX4_61v : q_in (Cond.methodLink RX4 61 yX1_hearQuery) := q_in_at 406 (by decide +kernel) rfl
theorem wPX4_64 : q_sl2 RX4 64 yX1_asks := Or.inl (q_in_at 410 (by decide +kernel) rfl)
theorem wPX4_64v : q_in (Cond.methodLink RX4 64 yX1_asks) := q_in_at 410 (by decide +kernel) rfl
theorem wPX4_68 : q_sl2 RX4 68 yX1_ageFilters := Or.inl (q_in_at 418 (by decide +kernel) rfl)
theorem wPX4_68v : q_in (Cond.methodLink RX4 68 yX1_ageFilters) := q_in_at 418 (by decide +kernel) rfl
theorem wPX4_71 : q_sl2 RX4 71 yX4_runClocks := Or.inl (q_in_at 430 (by decide +kernel) rfl)
theorem wPX4_71v : q_in (Cond.methodLink RX4 71 yX4_runClocks) := q_in_at 430 (by decide +kernel) rfl
theorem wPX4_74 : q_sl2 RX4 74 yX1_changeWish := Or.inl (q_in_at 445 (by decide +kernel) rfl)
theorem wPX4_74v : q_in (Cond.methodLink RX4 74 yX1_changeWish) := q_in_at 445 (by decide +kernel) rfl
theorem wPX4_78 : q_sl2 RX4 78 yX1_letAnswer := Or.inl (q_in_at 457 (by decide +kernel) rfl)
theorem wPX4_78v : q_in (Cond.methodLink RX4 78 yX1_letAnswer) := q_in_at 457 (by decide +kernel) rfl
theorem wPX4_82 : q_sl2 RX4 82 yX4_checkPlace := Or.inl (q_in_at 468 (by decide +kernel) rfl)
theorem wPX4_82v : q_in (Cond.methodLink RX4 82 yX4_checkPlace) := q_in_at 468 (by decide +kernel) rfl
theorem wPX4_85 : q_sl2 RX4 85 yX1_hasMemberFor := Or.inl (q_in_at 472 (by decide +kernel) rfl)
theorem wPX4_85v : q_in (Cond.methodLink RX4 85 yX1_hasMemberFor) := q_in_at 472 (by decide +kernel) rfl
theorem wPX4_89 : q_fl RX4 89 TX1 1 := Or.inr ⟨"GroupFilters", q_in_at 146 (by decide +kernel) rfl⟩
theorem wPX4_9 : q_sl2 RX4 9 yJ9_min_7cf53 := Or.inl (q_in_at 51 (by decide +kernel) rfl)
theorem wPX4_93 : q_sl2 RX4 93 yX0_lets := Or.inl (q_in_at 488 (by decide +kernel) rfl)
theorem wPX4_93v : q_in (Cond.methodLink RX4 93 yX0_lets) := q_in_at 488 (by decide +kernel) rfl
theorem wPX4_99 : q_sl2 RX4 99 yX4_filterAt := Or.inl (q_in_at 499 (by decide +kernel) rfl)
theorem wPX4_99v : q_in (Cond.methodLink RX4 99 yX4_filterAt) := q_in_at 499 (by decide +kernel) rfl
theorem wPX4_9v : q_in (Cond.methodLink RX4 9 yJ9_min_7cf53) := q_in_at 51 (by decide +kernel) rfl
theorem wPX5_102 : q_sl2 RX5 102 yX5_setTimers := Or.inl (q_in_at 663 (by decide +kernel) rfl)
theorem wPX5_102v : q_in (Cond.methodLink RX5 102 yX5_setTimers) := q_in_at 663 (by decide +kernel) rfl
theorem wPX5_105 : q_sl2 RX5 105 yX5_ask := Or.inl (q_in_at 667 (by decide +kernel) rfl)
theorem wPX5_105v : q_in (Cond.methodLink RX5 105 yX5_ask) := q_in_at 667 (by decide +kernel) rfl
theorem wPX5_108 : q_sl2 RX5 108 yX5_askGroup := Or.inl (q_in_at 683 (by decide +kernel) rfl)
theorem wPX5_108v : q_in (Cond.methodLink RX5 108 yX5_askGroup) := q_in_at 683 (by decide +kernel) rfl
theorem wPX5_111 : q_sl2 RX5 111 yX5_excluding := Or.inl (q_in_at 651 (by decide +kernel) rfl)
theorem wPX5_111v : q_in (Cond.methodLink RX5 111 yX5_excluding) := q_in_at 651 (by decide +kernel) rfl
theorem wPX5_114 : q_sl2 RX5 114 yX5_including := Or.inl (q_in_at 691 (by decide +kernel) rfl)
theorem wPX5_114v : q_in (Cond.methodLink RX5 114 yX5_including) := q_in_at 691 (by decide +kernel) rfl
theorem wPX5_117 : q_sl2 RX5 117 yX5_isLink := Or.inl (q_in_at 631 (by decide +kernel) rfl)
theorem wPX5_117v : q_in (Cond.methodLink RX5 117 yX5_isLink) := q_in_at 631 (by decide +kernel) rfl
theorem wPX5_120 : q_sl2 RX5 120 yX5_in := Or.inl (q_in_at 635 (by decide +kernel) rfl)
theorem wPX5_120v : q_in (Cond.methodLink RX5 120 yX5_in) := q_in_at 635 (by decide +kernel) rfl
theorem wPX5_124 : q_in (Cond.constant RX5 124 65535) := q_in_at 646 (by decide +kernel) rfl
theorem wPX5_125 : q_sl2 RX5 125 yX5_reported := Or.inl (q_in_at 647 (by decide +kernel) rfl)
theorem wPX5_125v : q_in (Cond.methodLink RX5 125 yX5_reported) := q_in_at 647 (by decide +kernel) rfl
theorem wPX5_129 : q_sl2 RX5 129 yX5_tickRecord := Or.inl (q_in_at 703 (by decide +kernel) rfl)
theorem wPX5_129v : q_in (Cond.methodLink RX5 129 yX5_tickRecord) := q_in_at 703 (by decide +kernel) rfl
theorem wPX5_13 : q_fl RX5 13 TX5 3 := Or.inl (q_in_at 565 (by decide +kernel) rfl)
theorem wPX5_133 : q_sl2 RX5 133 yX5_tickLink := Or.inl (q_in_at 707 (by decide +kernel) rfl)
theorem wPX5_133v : q_in (Cond.methodLink RX5 133 yX5_tickLink) := q_in_at 707 (by decide +kernel) rfl
theorem wPX5_136 : q_sl2 RX5 136 yX5_knows := Or.inl (q_in_at 731 (by decide +kernel) rfl)
theorem wPX5_136v : q_in (Cond.methodLink RX5 136 yX5_knows) := q_in_at 731 (by decide +kernel) rfl
theorem wPX5_16 : q_fl RX5 16 TX5 4 := Or.inl (q_in_at 566 (by decide +kernel) rfl)
theorem wPX5_19 : q_fl RX5 19 TX5 5 := Or.inl (q_in_at 567 (by decide +kernel) rfl)
theorem wPX5_22 : q_fl RX5 22 TX5 6 := Or.inl (q_in_at 568 (by decide +kernel) rfl)
theorem wPX5_25 : q_fl RX5 25 TX5 7 := Or.inl (q_in_at 569 (by decide +kernel) rfl)
theorem wPX5_28 : q_fl RX5 28 TX5 8 := Or.inl (q_in_at 570 (by decide +kernel) rfl)
theorem wPX5_31 : q_fl RX5 31 TX5 9 := Or.inl (q_in_at 571 (by decide +kernel) rfl)
theorem wPX5_34 : q_fl RX5 34 TX5 10 := Or.inl (q_in_at 572 (by decide +kernel) rfl)
theorem wPX5_37 : q_fl RX5 37 TX5 11 := Or.inl (q_in_at 573 (by decide +kernel) rfl)
theorem wPX5_40 : q_fl RX5 40 TX5 12 := Or.inl (q_in_at 574 (by decide +kernel) rfl)
theorem wPX5_44 : q_fl RX5 44 TX5 13 := Or.inl (q_in_at 575 (by decide +kernel) rfl)
theorem wPX5_47 : q_fl RX5 47 TX5 16 := Or.inl (q_in_at 578 (by decide +kernel) rfl)
theorem wPX5_50 : q_fl RX5 50 TX5 17 := Or.inl (q_in_at 579 (by decide +kernel) rfl)
theorem wPX5_53 : q_fl RX5 53 TX5 18 := Or.inl (q_in_at 580 (by decide +kernel) rfl)
theorem wPX5_56 : q_fl RX5 56 TX5 19 := Or.inl (q_in_at 581 (by decide +kernel) rfl)
theorem wPX5_59 : q_fl RX5 59 TX5 1 := Or.inl (q_in_at 563 (by decide +kernel) rfl)
theorem wPX5_63 : q_sl2 RX5 63 yX5_begin := Or.inl (q_in_at 558 (by decide +kernel) rfl)
theorem wPX5_63v : q_in (Cond.methodLink RX5 63 yX5_begin) := q_in_at 558 (by decide +kernel) rfl
theorem wPX5_66 : q_fl RX5 66 TX5 0 := Or.inl (q_in_at 562 (by decide +kernel) rfl)
theorem wPX5_69 : q_fl RX5 69 TX5 14 := Or.inl (q_in_at 576 (by decide +kernel) rfl)
theorem wPX5_7 : q_fl RX5 7 TX5 2 := Or.inl (q_in_at 564 (by decide +kernel) rfl)
theorem wPX5_72 : q_fl RX5 72 TX5 15 := Or.inl (q_in_at 577 (by decide +kernel) rfl)
theorem wPX5_75 : q_sl2 RX5 75 yX5_asks := Or.inl (q_in_at 671 (by decide +kernel) rfl)
theorem wPX5_75v : q_in (Cond.methodLink RX5 75 yX5_asks) := q_in_at 671 (by decide +kernel) rfl
theorem wPX5_79 : q_sl2 RX5 79 yX5_send := Or.inl (q_in_at 675 (by decide +kernel) rfl)
theorem wPX5_79v : q_in (Cond.methodLink RX5 79 yX5_send) := q_in_at 675 (by decide +kernel) rfl
theorem wPX5_83 : q_sl2 RX5 83 yX5_lower := Or.inl (q_in_at 679 (by decide +kernel) rfl)
theorem wPX5_83v : q_in (Cond.methodLink RX5 83 yX5_lower) := q_in_at 679 (by decide +kernel) rfl
theorem wPX5_86 : q_sl2 RX5 86 yX5_lowerGroup := Or.inl (q_in_at 687 (by decide +kernel) rfl)
theorem wPX5_86v : q_in (Cond.methodLink RX5 86 yX5_lowerGroup) := q_in_at 687 (by decide +kernel) rfl
theorem wPX5_90 : q_sl2 RX5 90 yX5_setOf := Or.inl (q_in_at 655 (by decide +kernel) rfl)
theorem wPX5_90v : q_in (Cond.methodLink RX5 90 yX5_setOf) := q_in_at 655 (by decide +kernel) rfl
theorem wPX5_94 : q_sl2 RX5 94 yX5_become := Or.inl (q_in_at 659 (by decide +kernel) rfl)
theorem wPX5_94v : q_in (Cond.methodLink RX5 94 yX5_become) := q_in_at 659 (by decide +kernel) rfl
theorem wPX5_98 : q_sl2 RX5 98 yX5_grace := Or.inl (q_in_at 638 (by decide +kernel) rfl)
theorem wPX5_98v : q_in (Cond.methodLink RX5 98 yX5_grace) := q_in_at 638 (by decide +kernel) rfl
theorem wSX0_age : q_in (Cond.selects RX0 yX0_age yX0_age) := q_in_at 424 (by decide +kernel) rfl
theorem wSX0_ageTimers : q_in (Cond.selects RX0 yX0_ageTimers yX0_ageTimers) := q_in_at 8 (by decide +kernel) rfl
theorem wSX0_allow : q_in (Cond.selects RX0 yX0_allow yX0_allow) := q_in_at 348 (by decide +kernel) rfl
theorem wSX0_block : q_in (Cond.selects RX0 yX0_block yX0_block) := q_in_at 392 (by decide +kernel) rfl
theorem wSX0_doubted : q_in (Cond.selects RX0 yX0_doubted yX0_doubted) := q_in_at 384 (by decide +kernel) rfl
theorem wSX0_exclude : q_in (Cond.selects RX0 yX0_exclude yX0_exclude) := q_in_at 340 (by decide +kernel) rfl
theorem wSX0_include : q_in (Cond.selects RX0 yX0_include yX0_include) := q_in_at 1 (by decide +kernel) rfl
theorem wSX0_lets : q_in (Cond.selects RX0 yX0_lets yX0_lets) := q_in_at 490 (by decide +kernel) rfl
theorem wSX0_lowerOwnTimer : q_in (Cond.selects RX0 yX0_lowerOwnTimer yX0_lowerOwnTimer) := q_in_at 376 (by decide +kernel) rfl
theorem wSX0_lowerTimers : q_in (Cond.selects RX0 yX0_lowerTimers yX0_lowerTimers) := q_in_at 367 (by decide +kernel) rfl
theorem wSX0_reset : q_in (Cond.selects RX0 yX0_reset yX0_reset) := q_in_at 118 (by decide +kernel) rfl
theorem wSX0_setTimers : q_in (Cond.selects RX0 yX0_setTimers yX0_setTimers) := q_in_at 0 (by decide +kernel) rfl
theorem wSX0_state : q_in (Cond.selects RX0 yX0_state yX0_state) := q_in_at 505 (by decide +kernel) rfl
theorem wSX1_ageFilters : q_in (Cond.selects RX1 yX1_ageFilters yX1_ageFilters) := q_in_at 420 (by decide +kernel) rfl
theorem wSX1_askGroup : q_in (Cond.selects RX1 yX1_askGroup yX1_askGroup) := q_in_at 5 (by decide +kernel) rfl
theorem wSX1_askSources : q_in (Cond.selects RX1 yX1_askSources yX1_askSources) := q_in_at 4 (by decide +kernel) rfl
theorem wSX1_asks : q_in (Cond.selects RX1 yX1_asks yX1_asks) := q_in_at 142 (by decide +kernel) rfl
theorem wSX1_changeWish : q_in (Cond.selects RX1 yX1_changeWish yX1_changeWish) := q_in_at 447 (by decide +kernel) rfl
theorem wSX1_grace : q_in (Cond.selects RX1 yX1_grace yX1_grace) := q_in_at 323 (by decide +kernel) rfl
theorem wSX1_hasMemberFor : q_in (Cond.selects RX1 yX1_hasMemberFor yX1_hasMemberFor) := q_in_at 474 (by decide +kernel) rfl
theorem wSX1_hearBlock : q_in (Cond.selects RX1 yX1_hearBlock yX1_hearBlock) := q_in_at 7 (by decide +kernel) rfl
theorem wSX1_hearQuery : q_in (Cond.selects RX1 yX1_hearQuery yX1_hearQuery) := q_in_at 408 (by decide +kernel) rfl
theorem wSX1_hearReport : q_in (Cond.selects RX1 yX1_hearReport yX1_hearReport) := q_in_at 335 (by decide +kernel) rfl
theorem wSX1_hearToEx : q_in (Cond.selects RX1 yX1_hearToEx yX1_hearToEx) := q_in_at 6 (by decide +kernel) rfl
theorem wSX1_hearToIn : q_in (Cond.selects RX1 yX1_hearToIn yX1_hearToIn) := q_in_at 3 (by decide +kernel) rfl
theorem wSX1_last : q_in (Cond.selects RX1 yX1_last yX1_last) := q_in_at 363 (by decide +kernel) rfl
theorem wSX1_letAnswer : q_in (Cond.selects RX1 yX1_letAnswer yX1_letAnswer) := q_in_at 459 (by decide +kernel) rfl
theorem wSX1_records : q_in (Cond.selects RX1 yX1_records yX1_records) := q_in_at 549 (by decide +kernel) rfl
theorem wSX1_reset : q_in (Cond.selects RX1 yX1_reset yX1_reset) := q_in_at 114 (by decide +kernel) rfl
theorem wSX1_runClock : q_in (Cond.selects RX1 yX1_runClock yX1_runClock) := q_in_at 436 (by decide +kernel) rfl
theorem wSX1_set : q_in (Cond.selects RX1 yX1_set yX1_set) := q_in_at 138 (by decide +kernel) rfl
theorem wSX1_yieldTo : q_in (Cond.selects RX1 yX1_yieldTo yX1_yieldTo) := q_in_at 403 (by decide +kernel) rfl
theorem wSX2_reset : q_in (Cond.selects RX2 yX2_reset yX2_reset) := q_in_at 134 (by decide +kernel) rfl
theorem wSX2_wants : q_in (Cond.selects RX2 yX2_wants yX2_wants) := q_in_at 478 (by decide +kernel) rfl
theorem wSX3_add : q_in (Cond.selects RX3 yX3_add yX3_add) := q_in_at 356 (by decide +kernel) rfl
theorem wSX3_look : q_in (Cond.selects RX3 yX3_look yX3_look) := q_in_at 537 (by decide +kernel) rfl
theorem wSX3_reset : q_in (Cond.selects RX3 yX3_reset yX3_reset) := q_in_at 217 (by decide +kernel) rfl
theorem wSX4_answer : q_in (Cond.selects RX4 yX4_answer yX4_answer) := q_in_at 455 (by decide +kernel) rfl
theorem wSX4_asked : q_in (Cond.selects RX4 yX4_asked yX4_asked) := q_in_at 533 (by decide +kernel) rfl
theorem wSX4_checkPlace : q_in (Cond.selects RX4 yX4_checkPlace yX4_checkPlace) := q_in_at 10 (by decide +kernel) rfl
theorem wSX4_clear : q_in (Cond.selects RX4 yX4_clear yX4_clear) := q_in_at 212 (by decide +kernel) rfl
theorem wSX4_filterAt : q_in (Cond.selects RX4 yX4_filterAt yX4_filterAt) := q_in_at 11 (by decide +kernel) rfl
theorem wSX4_groupTimer : q_in (Cond.selects RX4 yX4_groupTimer yX4_groupTimer) := q_in_at 526 (by decide +kernel) rfl
theorem wSX4_member : q_in (Cond.selects RX4 yX4_member yX4_member) := q_in_at 443 (by decide +kernel) rfl
theorem wSX4_mode : q_in (Cond.selects RX4 yX4_mode yX4_mode) := q_in_at 497 (by decide +kernel) rfl
theorem wSX4_passed : q_in (Cond.selects RX4 yX4_passed yX4_passed) := q_in_at 486 (by decide +kernel) rfl
theorem wSX4_query : q_in (Cond.selects RX4 yX4_query yX4_query) := q_in_at 399 (by decide +kernel) rfl
theorem wSX4_report : q_in (Cond.selects RX4 yX4_report yX4_report) := q_in_at 330 (by decide +kernel) rfl
theorem wSX4_runClocks : q_in (Cond.selects RX4 yX4_runClocks yX4_runClocks) := q_in_at 9 (by decide +kernel) rfl
theorem wSX4_sent : q_in (Cond.selects RX4 yX4_sent yX4_sent) := q_in_at 208 (by decide +kernel) rfl
theorem wSX4_settings : q_in (Cond.selects RX4 yX4_settings yX4_settings) := q_in_at 229 (by decide +kernel) rfl
theorem wSX4_sources : q_in (Cond.selects RX4 yX4_sources yX4_sources) := q_in_at 512 (by decide +kernel) rfl
theorem wSX4_tick : q_in (Cond.selects RX4 yX4_tick yX4_tick) := q_in_at 416 (by decide +kernel) rfl
theorem wSX4_timer : q_in (Cond.selects RX4 yX4_timer yX4_timer) := q_in_at 519 (by decide +kernel) rfl
theorem wSX4_told : q_in (Cond.selects RX4 yX4_told yX4_told) := q_in_at 544 (by decide +kernel) rfl
theorem wSX4_wanted : q_in (Cond.selects RX4 yX4_wanted yX4_wanted) := q_in_at 466 (by decide +kernel) rfl
theorem wSX5_answer : q_in (Cond.selects RX5 yX5_answer yX5_answer) := q_in_at 717 (by decide +kernel) rfl
theorem wSX5_ask : q_in (Cond.selects RX5 yX5_ask yX5_ask) := q_in_at 20 (by decide +kernel) rfl
theorem wSX5_askGroup : q_in (Cond.selects RX5 yX5_askGroup yX5_askGroup) := q_in_at 24 (by decide +kernel) rfl
theorem wSX5_asked : q_in (Cond.selects RX5 yX5_asked yX5_asked) := q_in_at 753 (by decide +kernel) rfl
theorem wSX5_asks : q_in (Cond.selects RX5 yX5_asks yX5_asks) := q_in_at 21 (by decide +kernel) rfl
theorem wSX5_become : q_in (Cond.selects RX5 yX5_become yX5_become) := q_in_at 18 (by decide +kernel) rfl
theorem wSX5_begin : q_in (Cond.selects RX5 yX5_begin yX5_begin) := q_in_at 12 (by decide +kernel) rfl
theorem wSX5_clear : q_in (Cond.selects RX5 yX5_clear yX5_clear) := q_in_at 761 (by decide +kernel) rfl
theorem wSX5_excluding : q_in (Cond.selects RX5 yX5_excluding yX5_excluding) := q_in_at 16 (by decide +kernel) rfl
theorem wSX5_grace : q_in (Cond.selects RX5 yX5_grace yX5_grace) := q_in_at 14 (by decide +kernel) rfl
theorem wSX5_groupTimer : q_in (Cond.selects RX5 yX5_groupTimer yX5_groupTimer) := q_in_at 745 (by decide +kernel) rfl
theorem wSX5_including : q_in (Cond.selects RX5 yX5_including yX5_including) := q_in_at 26 (by decide +kernel) rfl
theorem wSX5_isLink : q_in (Cond.selects RX5 yX5_isLink yX5_isLink) := q_in_at 13 (by decide +kernel) rfl
theorem wSX5_knows : q_in (Cond.selects RX5 yX5_knows yX5_knows) := q_in_at 29 (by decide +kernel) rfl
theorem wSX5_lower : q_in (Cond.selects RX5 yX5_lower yX5_lower) := q_in_at 23 (by decide +kernel) rfl
theorem wSX5_lowerGroup : q_in (Cond.selects RX5 yX5_lowerGroup yX5_lowerGroup) := q_in_at 25 (by decide +kernel) rfl
theorem wSX5_member : q_in (Cond.selects RX5 yX5_member yX5_member) := q_in_at 713 (by decide +kernel) rfl
theorem wSX5_mode : q_in (Cond.selects RX5 yX5_mode yX5_mode) := q_in_at 729 (by decide +kernel) rfl
theorem wSX5_passed : q_in (Cond.selects RX5 yX5_passed yX5_passed) := q_in_at 725 (by decide +kernel) rfl
theorem wSX5_query : q_in (Cond.selects RX5 yX5_query yX5_query) := q_in_at 697 (by decide +kernel) rfl
theorem wSX5_report : q_in (Cond.selects RX5 yX5_report yX5_report) := q_in_at 644 (by decide +kernel) rfl
theorem wSX5_reported : q_in (Cond.selects RX5 yX5_reported yX5_reported) := q_in_at 15 (by decide +kernel) rfl
theorem wSX5_send : q_in (Cond.selects RX5 yX5_send yX5_send) := q_in_at 22 (by decide +kernel) rfl
theorem wSX5_sent : q_in (Cond.selects RX5 yX5_sent yX5_sent) := q_in_at 749 (by decide +kernel) rfl
theorem wSX5_setOf : q_in (Cond.selects RX5 yX5_setOf yX5_setOf) := q_in_at 17 (by decide +kernel) rfl
theorem wSX5_setTimers : q_in (Cond.selects RX5 yX5_setTimers yX5_setTimers) := q_in_at 19 (by decide +kernel) rfl
theorem wSX5_settings : q_in (Cond.selects RX5 yX5_settings yX5_settings) := q_in_at 629 (by decide +kernel) rfl
theorem wSX5_sources : q_in (Cond.selects RX5 yX5_sources yX5_sources) := q_in_at 737 (by decide +kernel) rfl
theorem wSX5_thrown : q_in (Cond.selects RX5 yX5_thrown yX5_thrown) := q_in_at 625 (by decide +kernel) rfl
theorem wSX5_tick : q_in (Cond.selects RX5 yX5_tick yX5_tick) := q_in_at 701 (by decide +kernel) rfl
theorem wSX5_tickLink : q_in (Cond.selects RX5 yX5_tickLink yX5_tickLink) := q_in_at 28 (by decide +kernel) rfl
theorem wSX5_tickRecord : q_in (Cond.selects RX5 yX5_tickRecord yX5_tickRecord) := q_in_at 27 (by decide +kernel) rfl
theorem wSX5_timer : q_in (Cond.selects RX5 yX5_timer yX5_timer) := q_in_at 741 (by decide +kernel) rfl
theorem wSX5_told : q_in (Cond.selects RX5 yX5_told yX5_told) := q_in_at 757 (by decide +kernel) rfl
theorem wSX5_wanted : q_in (Cond.selects RX5 yX5_wanted yX5_wanted) := q_in_at 721 (by decide +kernel) rfl
theorem wTJ9_floorMod_7cf53 : q_in (Cond.static yJ9_floorMod_7cf53) := q_in_at 359 (by decide +kernel) rfl
theorem wTJ9_max_7cf53 : q_in (Cond.static yJ9_max_7cf53) := q_in_at 55 (by decide +kernel) rfl
theorem wTJ9_min_7cf53 : q_in (Cond.static yJ9_min_7cf53) := q_in_at 52 (by decide +kernel) rfl
theorem wTL_answer : q_in (Cond.static yL_answer) := q_in_at 451 (by decide +kernel) rfl
theorem wTL_asked : q_in (Cond.static yL_asked) := q_in_at 529 (by decide +kernel) rfl
theorem wTL_cell : q_in (Cond.static yL_cell) := q_in_at 220 (by decide +kernel) rfl
theorem wTL_groupTimer : q_in (Cond.static yL_groupTimer) := q_in_at 522 (by decide +kernel) rfl
theorem wTL_member : q_in (Cond.static yL_member) := q_in_at 439 (by decide +kernel) rfl
theorem wTL_mode : q_in (Cond.static yL_mode) := q_in_at 493 (by decide +kernel) rfl
theorem wTL_passed : q_in (Cond.static yL_passed) := q_in_at 482 (by decide +kernel) rfl
theorem wTL_query : q_in (Cond.static yL_query) := q_in_at 395 (by decide +kernel) rfl
theorem wTL_report : q_in (Cond.static yL_report) := q_in_at 326 (by decide +kernel) rfl
theorem wTL_settings : q_in (Cond.static yL_settings) := q_in_at 223 (by decide +kernel) rfl
theorem wTL_sources : q_in (Cond.static yL_sources) := q_in_at 508 (by decide +kernel) rfl
theorem wTL_tick : q_in (Cond.static yL_tick) := q_in_at 412 (by decide +kernel) rfl
theorem wTL_timer : q_in (Cond.static yL_timer) := q_in_at 515 (by decide +kernel) rfl
theorem wTL_told : q_in (Cond.static yL_told) := q_in_at 540 (by decide +kernel) rfl
theorem wTL_wanted : q_in (Cond.static yL_wanted) := q_in_at 462 (by decide +kernel) rfl
theorem wTX4_checkIndex : q_in (Cond.static yX4_checkIndex) := q_in_at 232 (by decide +kernel) rfl
theorem wTX4_checkNumber : q_in (Cond.static yX4_checkNumber) := q_in_at 302 (by decide +kernel) rfl
theorem wTX4_holds : q_in (Cond.static yX4_holds) := q_in_at 126 (by decide +kernel) rfl
theorem wTX5_in : q_in (Cond.static yX5_in) := q_in_at 636 (by decide +kernel) rfl
end
section
theorem t_out {Sc : q_S} {M : q_M} {pc : Nat} {L : List Value} {h : q_H} {n kc ks x : Nat} {Q : q_O → q_H → Nat → Prop} (hh : q_hs M = []) (hq : Q (.inr x) h n) : q_Th Sc M pc L h n kc ks Q x := by
  unfold q_Th q_hf
  rw [hh]
  exact ⟨fun r hr => (nomatch hr), hq⟩
theorem q_chk {a : Int32} {B : Nat} (hB : B < 2 ^ 31) (h1 : ¬ a < 0) (h2 : ¬ nI B ≤ a) : ∃ g, g < B ∧ a = nI g := by
  rcases pk_ix a hB with h | h | ⟨j, h, e⟩
  · exact absurd h h1
  · exact absurd h h2
  · exact ⟨j, h, e⟩
def q_wk : List Value → List Value → Prop
  | [], _ => True
  | a :: r, b :: s => (a = b ∨ ∃ k, a = .retAddr k) ∧ q_wk r s
  | _ :: _, [] => False
theorem q_wk.at : ∀ {L' L : List Value}, q_wk L' L → ∀ {i : Nat} {v : Value}, L'[i]? = some v → (∃ k, v = .retAddr k) ∨ L[i]? = some v
  | [], _, _, i, v, h => by simp at h
  | _ :: _, _ :: _, ⟨h1, h2⟩, i, v, h => by
    cases i with
    | zero =>
      rw [List.getElem?_cons_zero] at h
      cases h
      rcases h1 with rfl | h1
      · exact Or.inr rfl
      · exact Or.inl h1
    | succ i =>
      rw [List.getElem?_cons_succ] at h
      rw [List.getElem?_cons_succ]
      exact q_wk.at h2 h
theorem q_weak {Sc : q_S} {M : q_M} {pc : Nat} {L st : List Value} {h : q_H} {n kc ks : Nat} {Q : q_O → q_H → Nat → Prop} (L' : List Value) (hw : q_wk L' L) (k : q_A Sc M pc L' st h n kc ks Q) : q_A Sc M pc L st h n kc ks Q := by
  intro D dT H0 p l e R s m args below meth c H locs cells slots ls st' sb ws ads0 kc' ks' g
  obtain ⟨hF, hW, hL, hr⟩ := g
  refine k D dT H0 p l e R s m args below meth c H locs cells slots ls st' sb ws ads0 kc' ks' ⟨hF, hW, ⟨hL.1, hL.2.1, fun i v hv => ?_⟩, hr⟩
  rcases hw.at hv with h1 | h1
  · exact Or.inl h1
  · exact hL.2.2 i v h1
theorem q_sw (x : Int32) (lo : Int) (n : Nat) (_ : n < 100) : (x.toInt < lo ∨ lo + n - 1 < x.toInt) ∨ ∃ j : Nat, j < n ∧ x.toInt = lo + j := by
  by_cases h1 : x.toInt < lo
  · exact Or.inl (Or.inl h1)
  · by_cases h2 : lo + n - 1 < x.toInt
    · exact Or.inl (Or.inr h2)
    · exact Or.inr ⟨(x.toInt - lo).toNat, by omega, by omega⟩


/-! ===== making cells, typed ===== -/
def gset (Γ : Nat → q_K) (i : Nat) (k : q_K) : Nat → q_K := fun j => if j = i then k else Γ j
theorem gs_at {Γ : Nat → q_K} {i : Nat} {k : q_K} : gset Γ i k i = k := if_pos rfl
theorem gs_ne {Γ : Nat → q_K} {i j : Nat} {k : q_K} (h : j ≠ i) : gset Γ i k j = Γ j := if_neg h
theorem gs_ok {Γ : Nat → q_K} {h : q_H} (hok : q_ok Γ h) {i : Nat} {k : q_K} {c : q_C} (hc : q_okc k c) : q_ok (gset Γ i k) (q_up h i c) := fun j => by
  by_cases hj : j = i
  · subst hj
    rw [gs_at, show q_up h j c j = c from if_pos rfl]
    exact hc
  · rw [gs_ne hj, show q_up h i c j = h j from if_neg hj]
    exact hok j
theorem gs_re {Γ : Nat → q_K} {h : q_H} {i : Nat} {k k' : q_K} (hok : q_ok (gset Γ i k) h) (hc : ∀ c, q_okc k c → q_okc k' c) : q_ok (gset Γ i k') h := fun j => by
  have h1 := hok j
  by_cases hj : j = i
  · subst hj
    rw [gs_at] at h1 ⊢
    exact hc _ h1
  · rw [gs_ne hj] at h1 ⊢
    exact h1
section QCN
variable {Sc : q_S} {M M' : q_M} {pc : Nat} {L st : List Value} {h : q_H} {n kc ks kc1 ks1 : Nat} {Q : q_O → q_H → Nat → Prop} {Γ : Nat → q_K}
variable {C : String} {T : u_T} {N ci i ix : Nat} {ty : Nat → FieldType} {ps : List (Nat × Nat)}
theorem c_newi {atype : ArrayType} {N2 : Nat} {len : Int32} (hd : decode (q_cc M) pc = .ok (.newarray atype, 2)) (hty : newarray.typeOf atype = .int) (hw : q_in (Cond.arrayClass .int)) (hn : ¬ len < 0) (hN : len.toNatClampNeg = N2) (hb : N2 ≤ 4096) (hk1 : 1 ≤ kc) (hk2 : N2 ≤ ks) (hok : q_ok Γ h)
    (kk : ∀ h', q_ok (gset Γ n (1, N2, [])) h' → q_A Sc M (pc + 2) L (.ref n :: st) h' (n + 1) (kc - 1) (ks - N2) Q) : q_A Sc M pc L (.int len :: st) h n kc ks Q :=
  q_newa (t := 0) hd hty rfl (Or.inl rfl) hw hn hN hb hk1 hk2 (kk _ (gs_ok hok ⟨_, rfl, List.length_replicate⟩))
theorem c_newz {atype : ArrayType} {N2 : Nat} {len : Int32} (hd : decode (q_cc M) pc = .ok (.newarray atype, 2)) (hty : newarray.typeOf atype = .boolean) (hw : q_in (Cond.arrayClass .boolean)) (hn : ¬ len < 0) (hN : len.toNatClampNeg = N2) (hb : N2 ≤ 4096) (hk1 : 1 ≤ kc) (hk2 : N2 ≤ ks) (hok : q_ok Γ h)
    (kk : ∀ h', q_ok (gset Γ n (2, N2, [])) h' → q_A Sc M (pc + 2) L (.ref n :: st) h' (n + 1) (kc - 1) (ks - N2) Q) : q_A Sc M pc L (.int len :: st) h n kc ks Q :=
  q_newa (t := 1) hd hty rfl (Or.inr rfl) hw hn hN hb hk1 hk2 (kk _ (gs_ok hok ⟨_, rfl, List.length_replicate⟩))
theorem c_newl {atype : ArrayType} {N2 : Nat} {len : Int32} (hd : decode (q_cc M) pc = .ok (.newarray atype, 2)) (hty : newarray.typeOf atype = .long) (hw : q_in (Cond.arrayClass .long)) (hn : ¬ len < 0) (hN : len.toNatClampNeg = N2) (hb : N2 ≤ 4096) (hk1 : 1 ≤ kc) (hk2 : N2 ≤ ks) (hok : q_ok Γ h)
    (kk : ∀ h', q_ok (gset Γ n (5, N2, [])) h' → q_A Sc M (pc + 2) L (.ref n :: st) h' (n + 1) (kc - 1) (ks - N2) Q) : q_A Sc M pc L (.int len :: st) h n kc ks Q :=
  q_newl (t := 5) hd hty rfl hw hn hN hb hk1 hk2 (kk _ (gs_ok hok ⟨_, rfl, List.length_replicate⟩))
theorem c_rep (N2 : Nat) : List.replicate N2 (none : Option Nat) = (List.replicate N2 ((0, 0) : Nat × Nat)).map (fun p => if p.1 = 1 then some p.2 else none) := by
  rw [List.map_replicate]
  rfl
theorem c_newq {t N2 : Nat} {len : Int32} (hd : decode (q_cc M) pc = .ok (.anewarray ix, 3)) (ht : q_ty[t]? = some (.object C)) (hw1 : q_in (Cond.classLink (q_own M) ix C)) (hw2 : q_in (Cond.arrayOver (.object C))) (hn : ¬ len < 0) (hN : len.toNatClampNeg = N2) (hb : N2 ≤ 4096) (hk1 : 1 ≤ kc) (hk2 : N2 ≤ ks) (hok : q_ok Γ h)
    (kk : ∀ h', q_ok (gset Γ n (6, t, List.replicate N2 (0, 0))) h' → q_A Sc M (pc + 3) L (.ref n :: st) h' (n + 1) (kc - 1) (ks - N2) Q) : q_A Sc M pc L (.int len :: st) h n kc ks Q :=
  q_newq hd ht hw1 hw2 hn hN hb hk1 hk2 (kk _ (gs_ok hok (by show _ = _; rw [c_rep])))
theorem c_new {fs : List Value} (ps : List (Nat × Nat)) (hC : q_cls ci C T N ty) (hw1 : q_in (Cond.classLink (q_own M) ix C)) (hw2 : q_in (Cond.instantiable C N)) (hw3 : q_in (Cond.initialized C)) (hd : decode (q_cc M) pc = .ok (.new ix, 3)) (hfs : ∀ j, j < N → defaultValue (ty j) = vp_V fs j) (hfv : ∀ ads, q_vs ads fs fs) (hm : q_fm ps fs) (hk1 : 1 ≤ kc) (hk2 : N ≤ ks) (hok : q_ok Γ h)
    (kk : ∀ h', q_ok (gset Γ n (4, ci, ps)) h' → q_A Sc M (pc + 3) L (.ref n :: st) h' (n + 1) (kc - 1) (ks - N) Q) : q_A Sc M pc L st h n kc ks Q :=
  q_new hC hw1 hw2 hw3 hd hfs hfv hk1 hk2 (kk _ (gs_ok hok ⟨_, rfl, hm⟩))
/-- a reference or a number into a field of an object under way -/
theorem c_put (k : Nat) {v : Value} {p : Nat × Nat} (hC : q_cls ci C T N ty) (hk : k < N) (hw : q_in (Cond.fieldLink (q_own M) ix (T k).1 (T k).2.1 (T k).2.2.1)) (hfin : (T k).2.2.2 = false ∨ ((T k).2.2.2 = true ∧ (q_nm M).name = "<init>" ∧ (T k).1 = q_own M)) (hd : decode (q_cc M) pc = .ok (.putfield ix, 3)) (hok : q_ok Γ h) (hg : Γ i = (4, ci, ps)) (hl : k < ps.length) (hv : q_fit (ty k) v) (hp : q_f1 p v)
    (kk : ∀ h', q_ok (gset Γ i (4, ci, ps.set k p)) h' → q_A Sc M (pc + 3) L st h' n kc ks Q) : q_A Sc M pc L (v :: .ref i :: st) h n kc ks Q := by
  obtain ⟨fs, h1, h2⟩ := hok.o hg
  have hl2 : k < fs.length := by rw [h2.len]; exact hl
  have h4 := kk _ (gs_ok hok (i := i) (c := .inl (ci, fs.set k v)) ⟨_, rfl, h2.set hp⟩)
  rcases hfin with hfin | ⟨hfin, h5, h6⟩
  · exact q_put hC k rfl hk hw hfin hd h1 hl2 hv h4
  · exact q_putF hC k rfl hk hw hfin h5 h6 hd h1 hl2 hv h4
theorem c_aast {i2 t : Nat} {j : Int32} {ps2 : List (Nat × Nat)} (hC : q_cls ci C T N ty) (hd : decode (q_cc M) pc = .ok (.aastore, 1)) (hok : q_ok Γ h) (hg : Γ i = (6, t, ps)) (ht : q_ty[t]? = some (.object C)) (hg2 : Γ i2 = (4, ci, ps2)) (hj : vp_in j ps.length)
    (kk : ∀ h', q_ok (gset Γ i (6, t, ps.set j.toNatClampNeg (1, i2))) h' → q_A Sc M (pc + 1) L st h' n kc ks Q) : q_A Sc M pc L (.ref i2 :: .int j :: .ref i :: st) h n kc ks Q := by
  obtain ⟨fs, h1, -⟩ := hok.o hg2
  have h2 : h i = .inr (.inr (.inl (t, ps.map (fun p => if p.1 = 1 then some p.2 else none)))) := by
    have := hok i
    rw [hg] at this
    exact this
  refine q_aast hC hd h2 ht h1 (by rw [List.length_map]; exact hj) (kk _ (gs_ok hok ?_))
  show _ = _
  rw [List.map_set]
  rfl
/-- a call of a constructor -/
theorem c_callI (vs rest : List Value) {P : q_O → q_H → Nat → Prop} (hd : decode (q_cc M) pc = .ok (.invokespecial ix, 3)) (hw1 : q_sl2 (q_own M) ix (q_nm M')) (hw2 : q_in (Cond.instanceMethod (q_nm M'))) (hcw : q_in (Cond.code (q_nm M') (q_cc M') (q_nL M') none)) (hrt : q_rt M' = none) (hhs : q_hs M' = []) (hname : (q_nm M').name = "<init>") (hmk : q_mok M' vs.length) (hst : st = vs.reverse ++ .ref i :: rest)
    (hB : q_A Sc M' 0 (q_L0 M' (.ref i :: vs)) [] h n kc1 ks1 P) (hk1 : kc1 ≤ kc) (hk2 : ks1 ≤ ks) (hfr : q_fr M' + 1 ≤ q_fr M) (hlo : (rest.map fun v => v.category).sum + (q_nL M' + 11) + q_lo M' ≤ q_lo M) (hnl : (Value.ref i :: vs).length ≤ q_nL M') (hone : q_one vs = true) (hP : ∀ O h' n', P O h' n' → O = .inl none)
    (k1 : ∀ h' n', P (.inl none) h' n' → q_A Sc M (pc + 3) L rest h' n' (kc - kc1) (ks - ks1) Q) : q_A Sc M pc L st h n kc ks Q := by
  have e1 : ∀ v h' n', P (.inl v) h' n' → q_A Sc M (pc + 3) L (v.toList ++ rest) h' n' (kc - kc1) (ks - ks1) Q := fun v h' n' hp => by
    have := Sum.inl.inj (hP _ _ _ hp)
    subst this
    exact k1 h' n' hp
  have e2 : ∀ x h' n', P (.inr x) h' n' → q_Th Sc M pc L h' n' (kc - kc1) (ks - ks1) Q x := fun x h' n' hp => by cases hP _ _ _ hp
  rcases hw1 with hw1 | ⟨host, hw1⟩
  · exact q_callI vs rest hd hw1 hw2 hcw hrt hhs hname hmk hst hB hk1 hk2 hfr hlo hnl hone e1 e2
  · exact q_callIN vs rest hd hw1 hw2 hcw hrt hhs hname hmk hst hB hk1 hk2 hfr hlo hnl hone e1 e2
end QCN
end
section
/-! ===== rows whose contents are known ===== -/
def q_cd (x : Int32) : Nat := x.toBitVec.toNat
theorem nI_cd (x : Int32) : nI (q_cd x) = x := by
  refine Int32.toBitVec_inj.mp ?_
  show BitVec.ofNat 32 x.toBitVec.toNat = x.toBitVec
  exact BitVec.eq_of_toNat_eq (by rw [BitVec.toNat_ofNat, Nat.mod_eq_of_lt x.toBitVec.isLt])
def q_rg (N : Nat) (F : Nat → Int32) : List (Nat × Nat) := (List.range N).map (fun j => (0, q_cd (F j)))
theorem q_rg_map (N : Nat) (F : Nat → Int32) : (q_rg N F).map (fun p => nI p.2) = (List.range N).map F := by
  unfold q_rg
  rw [List.map_map]
  refine List.map_congr_left fun j _ => ?_
  exact nI_cd (F j)
theorem q_rg_cg {N : Nat} {F F' : Nat → Int32} (h : ∀ j, j < N → F j = F' j) : q_rg N F = q_rg N F' := by
  unfold q_rg
  refine List.map_congr_left fun j hj => ?_
  rw [h j (List.mem_range.mp hj)]
def fupd (F : Nat → Int32) (j : Nat) (x : Int32) : Nat → Int32 := fun k => if k = j then x else F k
theorem q_rg_at {N j : Nat} (F : Nat → Int32) (hj : j < N) : ((List.range N).map F).getD j 0 = F j := by
  rw [List.getD_eq_getElem?_getD, List.getElem?_map, List.getElem?_range hj]
  rfl
theorem q_rg_set {N j : Nat} (F : Nat → Int32) (x : Int32) (hj : j < N) : ((List.range N).map F).set j x = (List.range N).map (fupd F j x) := by
  refine List.ext_getElem? fun k => ?_
  by_cases hk : k = j
  · subst hk
    rw [List.getElem?_set_self (by rw [List.length_map, List.length_range]; exact hj), List.getElem?_map, List.getElem?_range hj]
    show some x = some (fupd F k x k)
    rw [show fupd F k x k = x from if_pos rfl]
  · rw [List.getElem?_set_ne (Ne.symm hk)]
    by_cases hkN : k < N
    · rw [List.getElem?_map, List.getElem?_map, List.getElem?_range hkN]
      show some (F k) = some (fupd F j x k)
      rw [show fupd F j x k = F k from if_neg hk]
    · rw [List.getElem?_eq_none (by rw [List.length_map, List.length_range]; omega), List.getElem?_eq_none (by rw [List.length_map, List.length_range]; omega)]
theorem q_ok.x8 {Γ : Nat → q_K} {h : q_H} (hok : q_ok Γ h) {i N : Nat} {F : Nat → Int32} (hg : Γ i = (8, 0, q_rg N F)) : h i = .inr (.inl (0, (List.range N).map F)) := by
  have h1 := hok i
  rw [hg] at h1
  refine Eq.trans h1 ?_
  rw [q_rg_map]
theorem q_ok.x9 {Γ : Nat → q_K} {h : q_H} (hok : q_ok Γ h) {i N : Nat} {F : Nat → Int32} (hg : Γ i = (9, 0, q_rg N F)) : h i = .inr (.inl (1, (List.range N).map F)) := by
  have h1 := hok i
  rw [hg] at h1
  refine Eq.trans h1 ?_
  rw [q_rg_map]
theorem q_list {N : Nat} {a : List Int32} (h : a.length = N) : a = (List.range N).map (fun j => a.getD j 0) := by
  subst h
  refine List.ext_getElem? fun k => ?_
  by_cases hk : k < a.length
  · rw [List.getElem?_map, List.getElem?_range hk]
    show a[k]? = some (a.getD k 0)
    rw [List.getD_eq_getElem?_getD, List.getElem?_eq_getElem hk]
    rfl
  · rw [List.getElem?_eq_none (by omega), List.getElem?_eq_none (by rw [List.length_map, List.length_range]; omega)]
theorem q_ok.o8 {Γ : Nat → q_K} {h : q_H} (hok : q_ok Γ h) {i N : Nat} {ps : List (Nat × Nat)} (hg : Γ i = (1, N, ps)) : ∃ F, q_ok (gset Γ i (8, 0, q_rg N F)) h := by
  obtain ⟨a, h1, h2⟩ := hok.i hg
  refine ⟨fun j => a.getD j 0, fun j => ?_⟩
  by_cases hj : j = i
  · subst hj
    rw [gs_at, h1]
    show _ = _
    rw [q_rg_map, ← q_list h2]
  · rw [gs_ne hj]
    exact hok j
theorem q_ok.o9 {Γ : Nat → q_K} {h : q_H} (hok : q_ok Γ h) {i N : Nat} {ps : List (Nat × Nat)} (hg : Γ i = (2, N, ps)) : ∃ F, q_ok (gset Γ i (9, 0, q_rg N F)) h := by
  obtain ⟨a, h1, h2⟩ := hok.z hg
  refine ⟨fun j => a.getD j 0, fun j => ?_⟩
  by_cases hj : j = i
  · subst hj
    rw [gs_at, h1]
    show _ = _
    rw [q_rg_map, ← q_list h2]
  · rw [gs_ne hj]
    exact hok j
section QXA
variable {Sc : q_S} {M : q_M} {pc : Nat} {L st : List Value} {h : q_H} {n kc ks : Nat} {Q : q_O → q_H → Nat → Prop} {Γ : Nat → q_K} {i j N : Nat} {F : Nat → Int32} {x : Int32}
theorem x_iald (hN : N ≤ 4096) (hd : decode (q_cc M) pc = .ok (.iaload, 1)) (hok : q_ok Γ h) (hg : Γ i = (8, 0, q_rg N F)) (hj : j < N) (kk : q_A Sc M (pc + 1) L (.int (F j) :: st) h n kc ks Q) : q_A Sc M pc L (.int (nI j) :: .ref i :: st) h n kc ks Q := by
  refine q_iald hd (hok.x8 hg) rfl (by rw [List.length_map, List.length_range]; exact vp_in_nI hj (by omega)) ?_
  rw [nI_clamp (by omega), q_rg_at F hj]
  exact kk
theorem x_zald (hN : N ≤ 4096) (hd : decode (q_cc M) pc = .ok (.baload, 1)) (hok : q_ok Γ h) (hg : Γ i = (9, 0, q_rg N F)) (hj : j < N) (kk : q_A Sc M (pc + 1) L (.int (F j) :: st) h n kc ks Q) : q_A Sc M pc L (.int (nI j) :: .ref i :: st) h n kc ks Q := by
  refine q_zald hd (hok.x9 hg) rfl (by rw [List.length_map, List.length_range]; exact vp_in_nI hj (by omega)) ?_
  rw [nI_clamp (by omega), q_rg_at F hj]
  exact kk
theorem x_iast (hN : N ≤ 4096) (hd : decode (q_cc M) pc = .ok (.iastore, 1)) (hok : q_ok Γ h) (hg : Γ i = (8, 0, q_rg N F)) (hj : j < N) (kk : ∀ h', q_ok (gset Γ i (8, 0, q_rg N (fupd F j x))) h' → q_A Sc M (pc + 1) L st h' n kc ks Q) : q_A Sc M pc L (.int x :: .int (nI j) :: .ref i :: st) h n kc ks Q := by
  refine q_iast hd (hok.x8 hg) rfl (by rw [List.length_map, List.length_range]; exact vp_in_nI hj (by omega)) (kk _ (gs_ok hok ?_))
  show _ = _
  rw [nI_clamp (by omega), q_rg_set F x hj, q_rg_map]
theorem x_zast (hN : N ≤ 4096) (hd : decode (q_cc M) pc = .ok (.bastore, 1)) (hok : q_ok Γ h) (hg : Γ i = (9, 0, q_rg N F)) (hj : j < N) (hx : vp_nar .boolean x = x) (kk : ∀ h', q_ok (gset Γ i (9, 0, q_rg N (fupd F j x))) h' → q_A Sc M (pc + 1) L st h' n kc ks Q) : q_A Sc M pc L (.int x :: .int (nI j) :: .ref i :: st) h n kc ks Q := by
  refine q_zast hd (hok.x9 hg) rfl (by rw [List.length_map, List.length_range]; exact vp_in_nI hj (by omega)) hx (kk _ (gs_ok hok ?_))
  show _ = _
  rw [nI_clamp (by omega), q_rg_set F x hj, q_rg_map]
end QXA
theorem gs_id {Γ : Nat → q_K} {w : Nat} {k : q_K} {h : q_H} (hw : Γ w = k) (hok : q_ok Γ h) : q_ok (gset Γ w k) h := fun j => by
  by_cases hj : j = w
  · subst hj
    rw [gs_at, ← hw]
    exact hok j
  · rw [gs_ne hj]
    exact hok j
theorem gs_gs {Γ : Nat → q_K} {i : Nat} {k k' : q_K} {h : q_H} (hok : q_ok (gset (gset Γ i k) i k') h) : q_ok (gset Γ i k') h := fun j => by
  have h1 := hok j
  by_cases hj : j = i
  · subst hj
    rw [gs_at] at h1 ⊢
    exact h1
  · rw [gs_ne hj, gs_ne hj] at h1
    rw [gs_ne hj]
    exact h1
theorem gs_back {Γ : Nat → q_K} {i : Nat} {k : q_K} {h : q_H} (hok : q_ok (gset Γ i k) h) (hc : ∀ c, q_okc k c → q_okc (Γ i) c) : q_ok Γ h := fun j => by
  have h1 := hok j
  by_cases hj : j = i
  · subst hj
    rw [gs_at] at h1
    exact hc _ h1
  · rw [gs_ne hj] at h1
    exact h1
/-! frames: only rows of the kinds 8 and 9 differ -/
def fr89 (Γ Γ' : Nat → q_K) : Prop := ∀ j, (Γ j).1 ≠ 8 → (Γ j).1 ≠ 9 → Γ' j = Γ j
theorem fr89.rf {Γ : Nat → q_K} : fr89 Γ Γ := fun _ _ _ => rfl
theorem fr89.tr {Γ Γ' Γ'' : Nat → q_K} (h : fr89 Γ Γ') (h' : fr89 Γ' Γ'') : fr89 Γ Γ'' := fun j h8 h9 => by
  have e := h j h8 h9
  exact (h' j (by rw [e]; exact h8) (by rw [e]; exact h9)).trans e
theorem fr89.at {Γ Γ' : Nat → q_K} (h : fr89 Γ Γ') {i t : Nat} {r : Nat × List (Nat × Nat)} (hg : Γ i = (t, r)) (h8 : t ≠ 8) (h9 : t ≠ 9) : Γ' i = (t, r) := (h i (by rw [hg]; exact h8) (by rw [hg]; exact h9)).trans hg
theorem fr89.s8 {Γ : Nat → q_K} {i : Nat} {r : Nat × List (Nat × Nat)} {k : q_K} (hg : Γ i = (8, r)) : fr89 Γ (gset Γ i k) := fun j h8 _ => gs_ne fun e => h8 (by rw [e, hg])
theorem fr89.s9 {Γ : Nat → q_K} {i : Nat} {r : Nat × List (Nat × Nat)} {k : q_K} (hg : Γ i = (9, r)) : fr89 Γ (gset Γ i k) := fun j _ h9 => gs_ne fun e => h9 (by rw [e, hg])
theorem kF.fr {Γ Γ' : Nat → q_K} (h : fr89 Γ Γ') {i : Nat} (k : kF Γ i) : kF Γ' i := by
  obtain ⟨t, k1, k2⟩ := k
  exact ⟨t, h.at k1 (by decide) (by decide), h.at k2 (by decide) (by decide)⟩
theorem kLg.fr {Γ Γ' : Nat → q_K} (h : fr89 Γ Γ') {i : Nat} (k : kLg Γ i) : kLg Γ' i := by
  obtain ⟨a, b, c, d, k1, k2, k3, k4, k5⟩ := k
  exact ⟨a, b, c, d, h.at k1 (by decide) (by decide), h.at k2 (by decide) (by decide), h.at k3 (by decide) (by decide), h.at k4 (by decide) (by decide), h.at k5 (by decide) (by decide)⟩
theorem kLk.fr {Γ Γ' : Nat → q_K} (h : fr89 Γ Γ') {i : Nat} (k : kLk Γ i) : kLk Γ' i := by
  obtain ⟨fa, ma, fl, ml, k1, k2, k3, k4, k5, k6, k7⟩ := k
  exact ⟨fa, ma, fl, ml, h.at k1 (by decide) (by decide), h.at k2 (by decide) (by decide), k3, fun q p hp => (k4 q p hp).fr h, h.at k5 (by decide) (by decide), k6, k7⟩
theorem kGF.fr {Γ Γ' : Nat → q_K} (h : fr89 Γ Γ') {i many : Nat} (k : kGF Γ i many) : kGF Γ' i many := by
  obtain ⟨la, lg, ps, k1, k2, k3, k4, k5⟩ := k
  exact ⟨la, lg, ps, h.at k1 (by decide) (by decide), h.at k2 (by decide) (by decide), k3, fun q p hp => (k4 q p hp).fr h, k5.fr h⟩
/-! the members of the link at B, whose number is l: what they want, by 48 * l + 8 * m + g -/
abbrev q_PL (B : Nat) : List (Nat × Nat) := [(0, 0), (1, B + 1), (1, B + 2), (0, 0), (0, 0), (0, 0), (0, 0), (0, 0)]
abbrev q_PM (B : Nat) : List (Nat × Nat) := (List.range 6).map (fun m => (1, B + 19 + 3 * m))
def kMo (Γ : Nat → q_K) (B : Nat) : Prop := Γ B = (4, 1, q_PL B) ∧ Γ (B + 2) = (3, 4, q_PM B) ∧ ∀ m, m < 6 → Γ (B + 19 + 3 * m) = (4, 2, [(1, B + 20 + 3 * m), (1, B + 21 + 3 * m)])
def kMe (Γ : Nat → q_K) (B : Nat) : Prop := kMo Γ B ∧ ∀ m, m < 6 → (∃ F, Γ (B + 20 + 3 * m) = (8, 0, q_rg 8 F)) ∧ ∃ E, Γ (B + 21 + 3 * m) = (9, 0, q_rg 8 E)
def kMm (Γ : Nat → q_K) (B l : Nat) (f e : Nat → Int32) : Prop := kMo Γ B ∧ ∀ m, m < 6 → Γ (B + 20 + 3 * m) = (8, 0, q_rg 8 (fun g => f (48 * l + 8 * m + g))) ∧ Γ (B + 21 + 3 * m) = (9, 0, q_rg 8 (fun g => e (48 * l + 8 * m + g)))
theorem kMm.e {Γ : Nat → q_K} {B l : Nat} {f e : Nat → Int32} (h : kMm Γ B l f e) : kMe Γ B := ⟨h.1, fun m hm => ⟨⟨_, (h.2 m hm).1⟩, _, (h.2 m hm).2⟩⟩
theorem kMo.fr {Γ Γ' : Nat → q_K} (h : fr89 Γ Γ') {B : Nat} (k : kMo Γ B) : kMo Γ' B := ⟨h.at k.1 (by decide) (by decide), h.at k.2.1 (by decide) (by decide), fun m hm => h.at (k.2.2 m hm) (by decide) (by decide)⟩
theorem kMm.of {Γ Γ' : Nat → q_K} {B l : Nat} {f e f' e' : Nat → Int32} (h : kMm Γ B l f e) (ha : ∀ j, B ≤ j → j < B + 37 → Γ' j = Γ j) (hf : ∀ j, 48 * l ≤ j → j < 48 * l + 48 → f' j = f j ∧ e' j = e j) : kMm Γ' B l f' e' := by
  refine ⟨⟨(ha _ (by omega) (by omega)).trans h.1.1, (ha _ (by omega) (by omega)).trans h.1.2.1, fun m hm => (ha _ (by omega) (by omega)).trans (h.1.2.2 m hm)⟩, fun m hm => ⟨?_, ?_⟩⟩
  · rw [ha _ (by omega) (by omega), (h.2 m hm).1, q_rg_cg (fun g hg => (hf (48 * l + 8 * m + g) (by omega) (by omega)).1.symm)]
  · rw [ha _ (by omega) (by omega), (h.2 m hm).2, q_rg_cg (fun g hg => (hf (48 * l + 8 * m + g) (by omega) (by omega)).2.symm)]
theorem q_PM_at {B m : Nat} (hm : m < 6) : (q_PM B)[m]? = some (1, B + 19 + 3 * m) := by
  rw [List.getElem?_map, List.getElem?_range hm]
  rfl
def z0 : Nat → Int32 := fun _ => nI 0
def kL0 (Γ : Nat → q_K) (j x : Nat) : Prop := kLk Γ j ∧ (∀ l, kMm Γ j l z0 z0) ∧ j = x
def kGm (Γ : Nat → q_K) (X many : Nat) (f e : Nat → Int32) : Prop := Γ X = (4, 4, [(1, X + 1), (1, X + 2 + 37 * many)]) ∧ Γ (X + 1) = (3, 2, (List.range many).map (fun l => (1, X + 2 + 37 * l))) ∧ ∀ l, l < many → kMm Γ (X + 2 + 37 * l) l f e
theorem kGm.of {Γ Γ' : Nat → q_K} {X many : Nat} {f e f' e' : Nat → Int32} (h : kGm Γ X many f e) (ha : ∀ j, X ≤ j → j < X + 2 + 37 * many → Γ' j = Γ j) (hf : ∀ j, j < 48 * many → f' j = f j ∧ e' j = e j) : kGm Γ' X many f' e' :=
  ⟨(ha _ (by omega) (by omega)).trans h.1, (ha _ (by omega) (by omega)).trans h.2.1, fun l hl => (h.2.2 l hl).of (fun j h1 h2 => ha j (by omega) (by omega)) (fun j h1 h2 => hf j (by omega))⟩
theorem q_PK_at {X many l : Nat} (hl : l < many) : ((List.range many).map (fun l => ((1, X + 2 + 37 * l) : Nat × Nat)))[l]? = some (1, X + 2 + 37 * l) := by
  rw [List.getElem?_map, List.getElem?_range hl]
  rfl
end
section
/-! ===== a heap whose ints are all known: Γ says what the cells are, V i k is the int of cell i at field or place k ===== -/
def gx1 (v : Nat → Int32) : Nat → List (Nat × Nat) → List (Nat × Nat)
  | _, [] => []
  | k, p :: ps => (if p.1 = 0 then (2, q_cd (v k)) else p) :: gx1 v (k + 1) ps
def gxc (K : q_K) (v : Nat → Int32) : q_K := match K.1 with
  | 1 => (8, 0, q_rg K.2.1 v)
  | 2 => (9, 0, q_rg K.2.1 v)
  | 4 => (4, K.2.1, gx1 v 0 K.2.2)
  | 5 => (7, q_cd (v 0), [])
  | _ => K
abbrev q_V : Type := Nat → Nat → Int32
def gX (Γ : Nat → q_K) (V : q_V) : Nat → q_K := fun i => gxc (Γ i) (V i)
def vset (V : q_V) (i k : Nat) (x : Int32) : q_V := fun j => if j = i then fupd (V j) k x else V j
theorem vs_at {V : q_V} {i k : Nat} {x : Int32} : vset V i k x i k = x := by
  show (if i = i then fupd (V i) k x else V i) k = x
  rw [if_pos rfl]
  exact if_pos rfl
theorem vs_row {V : q_V} {i k : Nat} {x : Int32} : vset V i k x i = fupd (V i) k x := if_pos rfl
theorem vs_nr {V : q_V} {i j k : Nat} {x : Int32} (h : j ≠ i) : vset V i k x j = V j := if_neg h
theorem vs_nk {V : q_V} {i j k k' : Nat} {x : Int32} (h : k' ≠ k) : vset V i k x j k' = V j k' := by
  by_cases hj : j = i
  · subst hj
    rw [vs_row]
    exact if_neg h
  · rw [vs_nr hj]
theorem vs_no {V : q_V} {i j k k' : Nat} {x : Int32} (h : j ≠ i ∨ k' ≠ k) : vset V i k x j k' = V j k' := by
  rcases h with h | h
  · rw [vs_nr h]
  · exact vs_nk h
theorem gX_o {Γ : Nat → q_K} {V : q_V} {i ci : Nat} {ps : List (Nat × Nat)} (hg : Γ i = (4, ci, ps)) : gX Γ V i = (4, ci, gx1 (V i) 0 ps) := by
  unfold gX gxc
  rw [hg]
theorem gX_i {Γ : Nat → q_K} {V : q_V} {i N : Nat} {ps : List (Nat × Nat)} (hg : Γ i = (1, N, ps)) : gX Γ V i = (8, 0, q_rg N (V i)) := by
  unfold gX gxc
  rw [hg]
theorem gX_z {Γ : Nat → q_K} {V : q_V} {i N : Nat} {ps : List (Nat × Nat)} (hg : Γ i = (2, N, ps)) : gX Γ V i = (9, 0, q_rg N (V i)) := by
  unfold gX gxc
  rw [hg]
theorem gX_r {Γ : Nat → q_K} {V : q_V} {i t : Nat} {ps : List (Nat × Nat)} (hg : Γ i = (3, t, ps)) : gX Γ V i = (3, t, ps) := by
  unfold gX gxc
  rw [hg]
theorem gX_l {Γ : Nat → q_K} {V : q_V} {i N : Nat} {ps : List (Nat × Nat)} (hg : Γ i = (5, N, ps)) : gX Γ V i = (7, q_cd (V i 0), []) := by
  unfold gX gxc
  rw [hg]
theorem gX_set {Γ : Nat → q_K} {V : q_V} {i k : Nat} {x : Int32} : gX Γ (vset V i k x) = gset (gX Γ V) i (gxc (Γ i) (fupd (V i) k x)) := by
  funext j
  by_cases hj : j = i
  · subst hj
    rw [gs_at]
    show gxc (Γ j) (vset V j k x j) = _
    rw [vs_row]
  · rw [gs_ne hj]
    show gxc (Γ j) (vset V i k x j) = gxc (Γ j) (V j)
    rw [vs_nr hj]
theorem gx1_at : ∀ {v : Nat → Int32} {ps : List (Nat × Nat)} {k0 k z : Nat}, ps[k]? = some (0, z) → (gx1 v k0 ps)[k]? = some (2, q_cd (v (k0 + k)))
  | _, [], _, _, _, h => by simp at h
  | v, p :: ps, k0, k, z, h => by
    cases k with
    | zero =>
      rw [List.getElem?_cons_zero] at h
      cases h
      rfl
    | succ k =>
      rw [List.getElem?_cons_succ] at h
      show (_ :: gx1 v (k0 + 1) ps)[k + 1]? = _
      rw [List.getElem?_cons_succ, gx1_at h, show k0 + 1 + k = k0 + (k + 1) by omega]
theorem gx1_no : ∀ {v : Nat → Int32} {ps : List (Nat × Nat)} {k0 k : Nat} {p : Nat × Nat}, ps[k]? = some p → p.1 ≠ 0 → (gx1 v k0 ps)[k]? = some p
  | _, [], _, _, _, h, _ => by simp at h
  | v, q :: ps, k0, k, p, h, hp => by
    cases k with
    | zero =>
      rw [List.getElem?_cons_zero] at h
      cases h
      show some (if q.1 = 0 then _ else q) = some q
      rw [if_neg hp]
    | succ k =>
      rw [List.getElem?_cons_succ] at h
      show (_ :: gx1 v (k0 + 1) ps)[k + 1]? = _
      rw [List.getElem?_cons_succ, gx1_no h hp]
theorem gx1_cg : ∀ {v w : Nat → Int32} {ps : List (Nat × Nat)} {k0 : Nat}, (∀ k, k0 ≤ k → v k = w k) → gx1 v k0 ps = gx1 w k0 ps
  | _, _, [], _, _ => rfl
  | v, w, p :: ps, k0, h => by
    show (if p.1 = 0 then (2, q_cd (v k0)) else p) :: gx1 v (k0 + 1) ps = (if p.1 = 0 then (2, q_cd (w k0)) else p) :: gx1 w (k0 + 1) ps
    rw [h k0 (Nat.le_refl _), gx1_cg (fun k hk => h k (by omega))]
theorem gx1_set : ∀ {v : Nat → Int32} {ps : List (Nat × Nat)} {k0 k z : Nat} {x : Int32}, ps[k]? = some (0, z) → (gx1 v k0 ps).set k (2, q_cd x) = gx1 (fupd v (k0 + k) x) k0 ps
  | _, [], _, _, _, _, h => by simp at h
  | v, p :: ps, k0, k, z, x, h => by
    cases k with
    | zero =>
      rw [List.getElem?_cons_zero] at h
      cases h
      show (2, q_cd x) :: gx1 v (k0 + 1) ps = (2, q_cd (fupd v (k0 + 0) x k0)) :: gx1 (fupd v (k0 + 0) x) (k0 + 1) ps
      rw [show fupd v (k0 + 0) x k0 = x from if_pos rfl, gx1_cg (v := v) (w := fupd v (k0 + 0) x) (fun k hk => (if_neg (by omega)).symm)]
    | succ k =>
      rw [List.getElem?_cons_succ] at h
      show (if p.1 = 0 then (2, q_cd (v k0)) else p) :: (gx1 v (k0 + 1) ps).set k (2, q_cd x) = (if p.1 = 0 then (2, q_cd (fupd v (k0 + (k + 1)) x k0)) else p) :: gx1 (fupd v (k0 + (k + 1)) x) (k0 + 1) ps
      rw [gx1_set h, show fupd v (k0 + (k + 1)) x k0 = v k0 from if_neg (by omega), show k0 + 1 + k = k0 + (k + 1) by omega]
/-- a loop that counts: d turns from k -/
def lp {σ : Type} (B : Nat → σ → σ) : Nat → Nat → σ → σ
  | 0, _, s => s
  | d + 1, k, s => lp B d (k + 1) (B k s)
/-- what a method that doesn't throw does: it ends with r, the ints are F -/
def q_fn (Sc : q_S) (Γ : Nat → q_K) (M : q_M) (vs : List Value) (n : Nat) (V : q_V) (r : Option Value) (F : q_V) : Prop := ∀ h, q_ok (gX Γ V) h → q_A Sc M 0 (q_L0 M vs) [] h n 0 0 (fun O h' n' => O = .inl r ∧ q_ok (gX Γ F) h' ∧ n' = n)
/-- one that may throw, or of which less is told -/
def q_fp (Sc : q_S) (Γ : Nat → q_K) (M : q_M) (vs : List Value) (n kc ks : Nat) (V : q_V) (P : q_O → q_V → Prop) : Prop := ∀ h, q_ok (gX Γ V) h → q_A Sc M 0 (q_L0 M vs) [] h n kc ks (fun O h' n' => ∃ F, P O F ∧ q_ok (gX Γ F) h' ∧ n' = n)
section QVX
variable {Sc : q_S} {M M' : q_M} {pc : Nat} {L st : List Value} {h : q_H} {n kc ks kc1 ks1 : Nat} {Q : q_O → q_H → Nat → Prop} {Γ : Nat → q_K} {V : q_V}
variable {C : String} {T : u_T} {N ci i ix j : Nat} {ty : Nat → FieldType} {ps : List (Nat × Nat)} {x : Int32}
theorem v_geti (k : Nat) {z : Nat} (hC : q_cls ci C T N ty) (hk : k < N) (hw : q_fl (q_own M) ix T k) (hd : decode (q_cc M) pc = .ok (.getfield ix, 3)) (hok : q_ok (gX Γ V) h) (hg : Γ i = (4, ci, ps)) (hp : ps[k]? = some (0, z)) (kk : q_A Sc M (pc + 3) L (.int (V i k) :: st) h n kc ks Q) : q_A Sc M pc L (.ref i :: st) h n kc ks Q := by
  obtain ⟨fs, h1, h2⟩ := hok.o (gX_o hg)
  obtain ⟨f, h3, h4⟩ := h2.at (gx1_at hp)
  have h5 : f = .int (V i k) := by
    have h6 : f = .int (nI (q_cd (V i (0 + k)))) := h4
    rw [nI_cd, Nat.zero_add] at h6
    exact h6
  subst h5
  exact t_look k hC hk hw hd h1 h3 kk
theorem v_getv (k : Nat) {z : Nat} (hv : V i k = x) (hC : q_cls ci C T N ty) (hk : k < N) (hw : q_fl (q_own M) ix T k) (hd : decode (q_cc M) pc = .ok (.getfield ix, 3)) (hok : q_ok (gX Γ V) h) (hg : Γ i = (4, ci, ps)) (hp : ps[k]? = some (0, z)) (kk : q_A Sc M (pc + 3) L (.int x :: st) h n kc ks Q) : q_A Sc M pc L (.ref i :: st) h n kc ks Q := v_geti k hC hk hw hd hok hg hp (by rw [hv]; exact kk)
theorem v_getr (k : Nat) {z : Nat} (hC : q_cls ci C T N ty) (hk : k < N) (hw : q_fl (q_own M) ix T k) (hd : decode (q_cc M) pc = .ok (.getfield ix, 3)) (hok : q_ok (gX Γ V) h) (hg : Γ i = (4, ci, ps)) (hp : ps[k]? = some (1, z)) (kk : q_A Sc M (pc + 3) L (.ref z :: st) h n kc ks Q) : q_A Sc M pc L (.ref i :: st) h n kc ks Q :=
  t_getr k hC hk hw hd hok (gX_o hg) (gx1_no hp (by decide)) kk
theorem v_getc (k : Nat) {z : Nat} (hC : q_cls ci C T N ty) (hk : k < N) (hw : q_fl (q_own M) ix T k) (hd : decode (q_cc M) pc = .ok (.getfield ix, 3)) (hok : q_ok (gX Γ V) h) (hg : Γ i = (4, ci, ps)) (hp : ps[k]? = some (2, z)) (kk : q_A Sc M (pc + 3) L (.int (nI z) :: st) h n kc ks Q) : q_A Sc M pc L (.ref i :: st) h n kc ks Q :=
  t_getc k hC hk hw hd hok (gX_o hg) (gx1_no hp (by decide)) kk
theorem v_puti (k : Nat) {z : Nat} (hC : q_cls ci C T N ty) (hk : k < N) (hw : q_fl (q_own M) ix T k) (hfin : (T k).2.2.2 = false) (hd : decode (q_cc M) pc = .ok (.putfield ix, 3)) (hok : q_ok (gX Γ V) h) (hg : Γ i = (4, ci, ps)) (hp : ps[k]? = some (0, z)) (hv : q_fit (ty k) (.int x)) (kk : ∀ h', q_ok (gX Γ (vset V i k x)) h' → q_A Sc M (pc + 3) L st h' n kc ks Q) : q_A Sc M pc L (.int x :: .ref i :: st) h n kc ks Q := by
  have e : x = nI (q_cd x) := (nI_cd x).symm
  have h1 : q_A Sc M pc L (.int (nI (q_cd x)) :: .ref i :: st) h n kc ks Q := by
    refine t_putc k (z' := q_cd x) hC hk hw hfin hd hok (gX_o hg) (gx1_at hp) (by rw [nI_cd]; exact hv) (fun h' hk' => kk h' ?_)
    rw [gX_set, show gxc (Γ i) (fupd (V i) k x) = (4, ci, (gx1 (V i) 0 ps).set k (2, q_cd x)) from by
      unfold gxc
      rw [hg, gx1_set hp, Nat.zero_add]]
    exact hk'
  rw [nI_cd] at h1
  exact h1
theorem v_iald (hN : N ≤ 4096) (hd : decode (q_cc M) pc = .ok (.iaload, 1)) (hok : q_ok (gX Γ V) h) (hg : Γ i = (1, N, ps)) (hj : j < N) (kk : q_A Sc M (pc + 1) L (.int (V i j) :: st) h n kc ks Q) : q_A Sc M pc L (.int (nI j) :: .ref i :: st) h n kc ks Q := x_iald hN hd hok (gX_i hg) hj kk
theorem v_zald (hN : N ≤ 4096) (hd : decode (q_cc M) pc = .ok (.baload, 1)) (hok : q_ok (gX Γ V) h) (hg : Γ i = (2, N, ps)) (hj : j < N) (kk : q_A Sc M (pc + 1) L (.int (V i j) :: st) h n kc ks Q) : q_A Sc M pc L (.int (nI j) :: .ref i :: st) h n kc ks Q := x_zald hN hd hok (gX_z hg) hj kk
theorem v_iast (hN : N ≤ 4096) (hd : decode (q_cc M) pc = .ok (.iastore, 1)) (hok : q_ok (gX Γ V) h) (hg : Γ i = (1, N, ps)) (hj : j < N) (kk : ∀ h', q_ok (gX Γ (vset V i j x)) h' → q_A Sc M (pc + 1) L st h' n kc ks Q) : q_A Sc M pc L (.int x :: .int (nI j) :: .ref i :: st) h n kc ks Q := x_iast hN hd hok (gX_i hg) hj (fun h' hk => kk h' (by
  rw [gX_set, show gxc (Γ i) (fupd (V i) j x) = (8, 0, q_rg N (fupd (V i) j x)) from by unfold gxc; rw [hg]]
  exact hk))
theorem v_zast (hN : N ≤ 4096) (hd : decode (q_cc M) pc = .ok (.bastore, 1)) (hok : q_ok (gX Γ V) h) (hg : Γ i = (2, N, ps)) (hj : j < N) (hx : vp_nar .boolean x = x) (kk : ∀ h', q_ok (gX Γ (vset V i j x)) h' → q_A Sc M (pc + 1) L st h' n kc ks Q) : q_A Sc M pc L (.int x :: .int (nI j) :: .ref i :: st) h n kc ks Q := x_zast hN hd hok (gX_z hg) hj hx (fun h' hk => kk h' (by
  rw [gX_set, show gxc (Γ i) (fupd (V i) j x) = (9, 0, q_rg N (fupd (V i) j x)) from by unfold gxc; rw [hg]]
  exact hk))
theorem gX_l1 (hok : q_ok (gX Γ V) h) (hg : Γ i = (5, 1, ps)) : h i = .inr (.inr (.inr (5, [(V i 0).toInt64]))) := by
  have h1 := hok i
  rw [gX_l hg] at h1
  refine Eq.trans h1 ?_
  rw [nI_cd]
theorem v_lald (hd : decode (q_cc M) pc = .ok (.laload, 1)) (hok : q_ok (gX Γ V) h) (hg : Γ i = (5, 1, ps)) (kk : q_A Sc M (pc + 1) L (.long (V i 0).toInt64 :: st) h n kc ks Q) : q_A Sc M pc L (.int (nI 0) :: .ref i :: st) h n kc ks Q := by
  refine q_lald hd (gX_l1 hok hg) rfl (show vp_in (nI 0) 1 from vp_in_nI (by decide) (by decide)) ?_
  rw [show [(V i 0).toInt64].getD (nI 0).toNatClampNeg 0 = (V i 0).toInt64 from by rw [nI_clamp (by decide)]; rfl]
  exact kk
theorem v_last {y : Int64} (hy : y = x.toInt64) (hd : decode (q_cc M) pc = .ok (.lastore, 1)) (hok : q_ok (gX Γ V) h) (hg : Γ i = (5, 1, ps)) (kk : ∀ h', q_ok (gX Γ (vset V i 0 x)) h' → q_A Sc M (pc + 1) L st h' n kc ks Q) : q_A Sc M pc L (.long y :: .int (nI 0) :: .ref i :: st) h n kc ks Q := by
  refine q_last hd (gX_l1 hok hg) rfl (show vp_in (nI 0) 1 from vp_in_nI (by decide) (by decide)) (kk _ ?_)
  rw [gX_set]
  refine gs_ok hok ?_
  unfold gxc
  rw [hg]
  show _ = _
  rw [nI_clamp (by decide), nI_cd, hy]
  rfl
theorem v_aald {t z : Nat} (C2 : String) (hd : decode (q_cc M) pc = .ok (.aaload, 1)) (hok : q_ok (gX Γ V) h) (hg : Γ i = (3, t, ps)) (ht : q_ty[t]? = some (.object C2)) (hz : ps[j]? = some (1, z)) (hb : j < 2 ^ 31) (kk : q_A Sc M (pc + 1) L (.ref z :: st) h n kc ks Q) : q_A Sc M pc L (.int (nI j) :: .ref i :: st) h n kc ks Q := by
  have hl : j < ps.length := (List.getElem?_eq_some_iff.mp hz).1
  refine t_aald C2 hd hok (gX_r hg) ht (vp_in_nI hl hb) (fun p hp => ?_)
  rw [nI_clamp hb, hz] at hp
  obtain rfl := Option.some.inj hp
  exact kk
theorem v_alen {t N2 : Nat} {tt : FieldType} (hd : decode (q_cc M) pc = .ok (.arraylength, 1)) (hok : q_ok (gX Γ V) h) (hg : Γ i = (3, t, ps)) (ht : q_ty[t]? = some tt) (hl : ps.length = N2) (kk : q_A Sc M (pc + 1) L (.int (nI N2) :: st) h n kc ks Q) : q_A Sc M pc L (.ref i :: st) h n kc ks Q := t_alen hd hok (gX_r hg) ht (by rw [hl]; exact kk)
theorem v_callV (vs rest : List Value) {r : Option Value} {F : q_V} (hC : q_cls ci C T N ty) (hd : decode (q_cc M) pc = .ok (.invokevirtual ix, 3)) (hw1 : q_in (Cond.methodLink (q_own M) ix (q_nm M'))) (hw2 : q_in (Cond.instanceMethod (q_nm M'))) (hw3 : q_in (Cond.selects C (q_nm M') (q_nm M'))) (hcd : q_inC M') (hmk : q_mok M' vs.length) (hst : st = vs.reverse ++ .ref i :: rest) (hok : q_ok (gX Γ V) h) (hg : Γ i = (4, ci, ps))
    (hB : q_fn Sc Γ M' (.ref i :: vs) n V r F) (hfr : q_fr M' + 1 ≤ q_fr M) (hlo : (rest.map fun v => v.category).sum + (q_nL M' + 11) + q_lo M' ≤ q_lo M) (hnl : (Value.ref i :: vs).length ≤ q_nL M') (hone : q_one vs = true)
    (kk : ∀ h', q_ok (gX Γ F) h' → q_A Sc M (pc + 3) L (r.toList ++ rest) h' n kc ks Q) : q_A Sc M pc L st h n kc ks Q := by
  obtain ⟨fs, h1, -⟩ := hok.o (gX_o hg)
  refine q_callV vs rest hC hd hw1 hw2 hw3 hcd hmk hst h1 (hB h hok) (Nat.zero_le _) (Nat.zero_le _) hfr hlo hnl hone (fun v h' n' hp => ?_) (fun x h' n' hp => ?_)
  · obtain ⟨e, p2, rfl⟩ := hp
    obtain rfl := Sum.inl.inj e
    exact kk h' p2
  · cases hp.1
theorem v_callS (vs rest : List Value) {r : Option Value} {F : q_V} (hd : decode (q_cc M) pc = .ok (.invokestatic ix, 3)) (hw1 : q_sl2 (q_own M) ix (q_nm M')) (hw2 : q_in (Cond.static (q_nm M'))) (hw3 : q_in (Cond.initialized (q_nm M').cls)) (hcd : q_inC M') (hmk : q_mok M' vs.length) (hst : st = vs.reverse ++ rest) (hok : q_ok (gX Γ V) h)
    (hB : q_fn Sc Γ M' vs n V r F) (hfr : q_fr M' + 1 ≤ q_fr M) (hlo : (rest.map fun v => v.category).sum + (q_nL M' + 11) + q_lo M' ≤ q_lo M) (hnl : vs.length ≤ q_nL M') (hone : q_one vs = true)
    (kk : ∀ h', q_ok (gX Γ F) h' → q_A Sc M (pc + 3) L (r.toList ++ rest) h' n kc ks Q) : q_A Sc M pc L st h n kc ks Q := by
  have e1 : ∀ v h' n', (Sum.inl v : q_O) = .inl r ∧ q_ok (gX Γ F) h' ∧ n' = n → q_A Sc M (pc + 3) L (v.toList ++ rest) h' n' kc ks Q := fun v h' n' hp => by
    obtain ⟨e, p2, rfl⟩ := hp
    obtain rfl := Sum.inl.inj e
    exact kk h' p2
  have e2 : ∀ x h' n', (Sum.inr x : q_O) = .inl r ∧ q_ok (gX Γ F) h' ∧ n' = n → q_Th Sc M pc L h' n' kc ks Q x := fun x h' n' hp => by cases hp.1
  rcases hw1 with hw1 | ⟨host, hw1⟩
  · exact q_callS vs rest hd hw1 hw2 hw3 hcd hmk hst (hB h hok) (Nat.zero_le _) (Nat.zero_le _) hfr hlo hnl hone e1 e2
  · exact q_callSN vs rest hd hw1 hw2 hw3 hcd hmk hst (hB h hok) (Nat.zero_le _) (Nat.zero_le _) hfr hlo hnl hone e1 e2
theorem w_callV (vs rest : List Value) {P : q_O → q_V → Prop} (hC : q_cls ci C T N ty) (hd : decode (q_cc M) pc = .ok (.invokevirtual ix, 3)) (hw1 : q_in (Cond.methodLink (q_own M) ix (q_nm M'))) (hw2 : q_in (Cond.instanceMethod (q_nm M'))) (hw3 : q_in (Cond.selects C (q_nm M') (q_nm M'))) (hcd : q_inC M') (hmk : q_mok M' vs.length) (hst : st = vs.reverse ++ .ref i :: rest) (hok : q_ok (gX Γ V) h) (hg : Γ i = (4, ci, ps))
    (hB : q_fp Sc Γ M' (.ref i :: vs) n kc1 ks1 V P) (hk1 : kc1 ≤ kc) (hk2 : ks1 ≤ ks) (hfr : q_fr M' + 1 ≤ q_fr M) (hlo : (rest.map fun v => v.category).sum + (q_nL M' + 11) + q_lo M' ≤ q_lo M) (hnl : (Value.ref i :: vs).length ≤ q_nL M') (hone : q_one vs = true)
    (k1 : ∀ v h' F, P (.inl v) F → q_ok (gX Γ F) h' → q_A Sc M (pc + 3) L (v.toList ++ rest) h' n (kc - kc1) (ks - ks1) Q)
    (k2 : ∀ x h' F, P (.inr x) F → q_ok (gX Γ F) h' → q_Th Sc M pc L h' n (kc - kc1) (ks - ks1) Q x) : q_A Sc M pc L st h n kc ks Q := by
  obtain ⟨fs, h1, -⟩ := hok.o (gX_o hg)
  exact q_callV vs rest hC hd hw1 hw2 hw3 hcd hmk hst h1 (hB h hok) hk1 hk2 hfr hlo hnl hone (fun v h' n' hp => by obtain ⟨F, p1, p2, rfl⟩ := hp; exact k1 v h' F p1 p2) (fun x h' n' hp => by obtain ⟨F, p1, p2, rfl⟩ := hp; exact k2 x h' F p1 p2)
theorem w_callS (vs rest : List Value) {P : q_O → q_V → Prop} (hd : decode (q_cc M) pc = .ok (.invokestatic ix, 3)) (hw1 : q_sl2 (q_own M) ix (q_nm M')) (hw2 : q_in (Cond.static (q_nm M'))) (hw3 : q_in (Cond.initialized (q_nm M').cls)) (hcd : q_inC M') (hmk : q_mok M' vs.length) (hst : st = vs.reverse ++ rest) (hok : q_ok (gX Γ V) h)
    (hB : q_fp Sc Γ M' vs n kc1 ks1 V P) (hk1 : kc1 ≤ kc) (hk2 : ks1 ≤ ks) (hfr : q_fr M' + 1 ≤ q_fr M) (hlo : (rest.map fun v => v.category).sum + (q_nL M' + 11) + q_lo M' ≤ q_lo M) (hnl : vs.length ≤ q_nL M') (hone : q_one vs = true)
    (k1 : ∀ v h' F, P (.inl v) F → q_ok (gX Γ F) h' → q_A Sc M (pc + 3) L (v.toList ++ rest) h' n (kc - kc1) (ks - ks1) Q)
    (k2 : ∀ x h' F, P (.inr x) F → q_ok (gX Γ F) h' → q_Th Sc M pc L h' n (kc - kc1) (ks - ks1) Q x) : q_A Sc M pc L st h n kc ks Q := by
  rcases hw1 with hw1 | ⟨host, hw1⟩
  · exact q_callS vs rest hd hw1 hw2 hw3 hcd hmk hst (hB h hok) hk1 hk2 hfr hlo hnl hone (fun v h' n' hp => by obtain ⟨F, p1, p2, rfl⟩ := hp; exact k1 v h' F p1 p2) (fun x h' n' hp => by obtain ⟨F, p1, p2, rfl⟩ := hp; exact k2 x h' F p1 p2)
  · exact q_callSN vs rest hd hw1 hw2 hw3 hcd hmk hst (hB h hok) hk1 hk2 hfr hlo hnl hone (fun v h' n' hp => by obtain ⟨F, p1, p2, rfl⟩ := hp; exact k1 v h' F p1 p2) (fun x h' n' hp => by obtain ⟨F, p1, p2, rfl⟩ := hp; exact k2 x h' F p1 p2)
end QVX
/-! what the cells are, by their places -/
def sF (Γ : Nat → q_K) (i : Nat) : Prop := Γ i = (4, 0, [(1, i + 1), (0, 0), (0, 0), (0, 0), (0, 0)]) ∧ Γ (i + 1) = (1, 16, [])
def sMb (Γ : Nat → q_K) (i : Nat) : Prop := Γ i = (4, 2, [(1, i + 1), (1, i + 2)]) ∧ Γ (i + 1) = (1, 8, []) ∧ Γ (i + 2) = (2, 8, [])
def sLg (Γ : Nat → q_K) (i : Nat) : Prop := Γ i = (4, 3, [(1, i + 1), (1, i + 2), (1, i + 3), (1, i + 4), (0, 0), (0, 0)]) ∧ Γ (i + 1) = (1, 40, []) ∧ Γ (i + 2) = (1, 40, []) ∧ Γ (i + 3) = (1, 40, []) ∧ Γ (i + 4) = (1, 40, [])
def sLk (Γ : Nat → q_K) (B : Nat) : Prop := Γ B = (4, 1, [(0, 0), (1, B + 1), (1, B + 2), (0, 0), (0, 0), (0, 0), (0, 0), (0, 0)]) ∧ Γ (B + 1) = (3, 3, (List.range 8).map (fun g => (1, B + 3 + 2 * g))) ∧ Γ (B + 2) = (3, 4, (List.range 6).map (fun m => (1, B + 19 + 3 * m))) ∧ (∀ g, g < 8 → sF Γ (B + 3 + 2 * g)) ∧ ∀ m, m < 6 → sMb Γ (B + 19 + 3 * m)
def sGF (Γ : Nat → q_K) (X many : Nat) : Prop := Γ X = (4, 4, [(1, X + 1), (1, X + 2 + 37 * many)]) ∧ Γ (X + 1) = (3, 2, (List.range many).map (fun l => (1, X + 2 + 37 * l))) ∧ (∀ l, l < many → sLk Γ (X + 2 + 37 * l)) ∧ sLg Γ (X + 2 + 37 * many)
theorem rg_at {N j : Nat} {f : Nat → Nat × Nat} (hj : j < N) : ((List.range N).map f)[j]? = some (f j) := by
  rw [List.getElem?_map, List.getElem?_range hj]
  rfl
theorem rg_len {N : Nat} {f : Nat → Nat × Nat} : ((List.range N).map f).length = N := by rw [List.length_map, List.length_range]
def SB (V : q_V) (o b : Nat) : Prop := 0 ≤ (V o 15).toInt ∧ (V o 15).toInt ≤ b
theorem SB.mo {V : q_V} {o b b' : Nat} (h : SB V o b) (hb : b ≤ b') : SB V o b' := ⟨h.1, Int.le_trans h.2 (by omega)⟩
theorem SB.vs {V : q_V} {o b a k : Nat} {x : Int32} (h : SB V o b) (hn : o ≠ a ∨ 15 ≠ k) : SB (vset V a k x) o b := by
  unfold SB
  rw [vs_no hn]
  exact h
end
section
def vX4_holds (a0 : Int32) (a1 : Int32) (V : q_V) : Int32 := if (((a0) >>> ((a1) &&& 31)) &&& (nI 1)) = 0 then ((nI 0)) else ((nI 1))
set_option maxRecDepth 20000 in
set_option maxHeartbeats 4000000 in
theorem eX4_holds (Sc : q_S) (Γ : Nat → q_K) (n : Nat) (V : q_V) (a0 : Int32) (a1 : Int32) : q_fn Sc Γ mX4_holds [.int (a0), .int (a1)] n V (some (.int (vX4_holds a0 a1 V))) V := by
  intro h hok
  show q_A Sc mX4_holds 0 [.int (a0), .int (a1)] [] h n 0 0 (fun O h' n' => O = .inl (some (.int (vX4_holds a0 a1 V))) ∧ q_ok (gX Γ V) h' ∧ n' = n)
  have hQ : ∀ (O : q_O) (h' : q_H), O = .inl (some (.int (vX4_holds a0 a1 V))) → q_ok (gX Γ V) h' → (fun O h' n' => O = .inl (some (.int (vX4_holds a0 a1 V))) ∧ q_ok (gX Γ V) h' ∧ n' = n) O h' n := fun _ _ a b => ⟨a, b, rfl⟩
  generalize (fun O h' n' => O = .inl (some (.int (vX4_holds a0 a1 V))) ∧ q_ok (gX Γ V) h' ∧ n' = n) = Q at hQ ⊢
  refine q_iload_n dX4_holds_0 rfl ?_
  refine q_iload_n dX4_holds_1 rfl ?_
  refine q_ishr dX4_holds_2 ?_
  refine q_iconst (v := nI 1) dX4_holds_3 rfl ?_
  refine q_iand dX4_holds_4 ?_
  refine q_if_eq (tgt := 12) dX4_holds_5 (by decide) (fun c1 => ?_) (fun c1 => ?_)
  ·
    refine q_iconst (v := nI 0) dX4_holds_12 rfl ?_
    exact q_iret dX4_holds_13 rfl (rfl) (hQ _ _ (by dsimp only [vX4_holds]; rw [if_pos c1]) (hok))
  ·
    refine q_iconst (v := nI 1) dX4_holds_8 rfl ?_
    refine q_goto (tgt := 13) dX4_holds_9 (by decide) ?_
    exact q_iret dX4_holds_13 rfl (rfl) (hQ _ _ (by dsimp only [vX4_holds]; rw [if_neg c1]) (hok))
theorem bX4_holds (a0 : Int32) (a1 : Int32) (V : q_V) : q_bl (vX4_holds a0 a1 V) := by
  dsimp only [vX4_holds]
  repeat' split
  all_goals first | exact Or.inl rfl | exact Or.inr rfl
def vJ9_min_7cf53 (a0 : Int32) (a1 : Int32) (V : q_V) : Int32 := if a1 < a0 then (a1) else (a0)
set_option maxRecDepth 20000 in
set_option maxHeartbeats 4000000 in
theorem eJ9_min_7cf53 (Sc : q_S) (Γ : Nat → q_K) (n : Nat) (V : q_V) (a0 : Int32) (a1 : Int32) : q_fn Sc Γ mJ9_min_7cf53 [.int (a0), .int (a1)] n V (some (.int (vJ9_min_7cf53 a0 a1 V))) V := by
  intro h hok
  show q_A Sc mJ9_min_7cf53 0 [.int (a0), .int (a1)] [] h n 0 0 (fun O h' n' => O = .inl (some (.int (vJ9_min_7cf53 a0 a1 V))) ∧ q_ok (gX Γ V) h' ∧ n' = n)
  have hQ : ∀ (O : q_O) (h' : q_H), O = .inl (some (.int (vJ9_min_7cf53 a0 a1 V))) → q_ok (gX Γ V) h' → (fun O h' n' => O = .inl (some (.int (vJ9_min_7cf53 a0 a1 V))) ∧ q_ok (gX Γ V) h' ∧ n' = n) O h' n := fun _ _ a b => ⟨a, b, rfl⟩
  generalize (fun O h' n' => O = .inl (some (.int (vJ9_min_7cf53 a0 a1 V))) ∧ q_ok (gX Γ V) h' ∧ n' = n) = Q at hQ ⊢
  refine q_iload_n dJ9_min_7cf53_0 rfl ?_
  refine q_iload_n dJ9_min_7cf53_1 rfl ?_
  refine q_icmp_gt (tgt := 9) dJ9_min_7cf53_2 (by decide) (fun c2 => ?_) (fun c2 => ?_)
  ·
    refine q_iload_n dJ9_min_7cf53_9 rfl ?_
    exact q_iret dJ9_min_7cf53_10 rfl (rfl) (hQ _ _ (by dsimp only [vJ9_min_7cf53]; rw [if_pos c2]) (hok))
  ·
    refine q_iload_n dJ9_min_7cf53_5 rfl ?_
    refine q_goto (tgt := 10) dJ9_min_7cf53_6 (by decide) ?_
    exact q_iret dJ9_min_7cf53_10 rfl (rfl) (hQ _ _ (by dsimp only [vJ9_min_7cf53]; rw [if_neg c2]) (hok))
def fX0_include (i : Nat) (V : q_V) : q_V := let V3 := vset V i 1 (nI 0); let V4 := vset V3 i 3 (nI 0); let V5 := vset V4 i 4 (nI 0); V5
set_option maxRecDepth 20000 in
set_option maxHeartbeats 4000000 in
theorem eX0_include (Sc : q_S) (Γ : Nat → q_K) (n : Nat) (V : q_V) (i : Nat) (H : sF Γ i) : q_fn Sc Γ mX0_include [.ref i] n V none (fX0_include i V) := by
  intro h hok
  show q_A Sc mX0_include 0 [.ref i] [] h n 0 0 (fun O h' n' => O = .inl none ∧ q_ok (gX Γ (fX0_include i V)) h' ∧ n' = n)
  have hQ : ∀ (O : q_O) (h' : q_H), O = .inl none → q_ok (gX Γ (fX0_include i V)) h' → (fun O h' n' => O = .inl none ∧ q_ok (gX Γ (fX0_include i V)) h' ∧ n' = n) O h' n := fun _ _ a b => ⟨a, b, rfl⟩
  generalize (fun O h' n' => O = .inl none ∧ q_ok (gX Γ (fX0_include i V)) h' ∧ n' = n) = Q at hQ ⊢
  refine q_aload_n dX0_include_0 rfl ?_
  refine q_iconst (v := nI 0) dX0_include_1 rfl ?_
  refine v_puti 1 kX0 (by decide) wPX0_27 rfl dX0_include_2 hok H.1 rfl ⟨rfl, rfl⟩ (fun h hok => ?_)
  refine q_aload_n dX0_include_5 rfl ?_
  refine q_iconst (v := nI 0) dX0_include_6 rfl ?_
  refine v_puti 3 kX0 (by decide) wPX0_31 rfl dX0_include_7 hok H.1 rfl ⟨rfl, rfl⟩ (fun h hok => ?_)
  refine q_aload_n dX0_include_10 rfl ?_
  refine q_iconst (v := nI 0) dX0_include_11 rfl ?_
  refine v_puti 4 kX0 (by decide) wPX0_38 rfl dX0_include_12 hok H.1 rfl ⟨rfl, rfl⟩ (fun h hok => ?_)
  exact q_vret dX0_include_15 rfl (hQ _ _ (rfl) (by dsimp only [fX0_include]; exact hok))
def fX0_setTimers (i : Nat) (a1 : Int32) (a2 : Int32) (V : q_V) : q_V := let B6 := fun (k6 : Nat) (s6 : q_V) => let W6 := s6; if (vX4_holds a1 (nI k6) W6) = 0 then (W6) else (let V9 := vset W6 (i + 1) k6 (a2); V9); let T6 := lp B6 16 0 V; T6
set_option maxRecDepth 20000 in
set_option maxHeartbeats 4000000 in
theorem eX0_setTimers (Sc : q_S) (Γ : Nat → q_K) (n : Nat) (V : q_V) (i : Nat) (H : sF Γ i) (a1 : Int32) (a2 : Int32) : q_fn Sc Γ mX0_setTimers [.ref i, .int (a1), .int (a2)] n V none (fX0_setTimers i a1 a2 V) := by
  intro h hok
  show q_A Sc mX0_setTimers 0 [.ref i, .int (a1), .int (a2), .retAddr 0] [] h n 0 0 (fun O h' n' => O = .inl none ∧ q_ok (gX Γ (fX0_setTimers i a1 a2 V)) h' ∧ n' = n)
  have hQ : ∀ (O : q_O) (h' : q_H), O = .inl none → q_ok (gX Γ (fX0_setTimers i a1 a2 V)) h' → (fun O h' n' => O = .inl none ∧ q_ok (gX Γ (fX0_setTimers i a1 a2 V)) h' ∧ n' = n) O h' n := fun _ _ a b => ⟨a, b, rfl⟩
  generalize (fun O h' n' => O = .inl none ∧ q_ok (gX Γ (fX0_setTimers i a1 a2 V)) h' ∧ n' = n) = Q at hQ ⊢
  refine q_iconst (v := nI 0) dX0_setTimers_0 rfl ?_
  refine t_istore [.ref i, .int (a1), .int (a2), .int (nI 0)] (Or.inl ⟨3, rfl, rfl, dX0_setTimers_1⟩) (by decide) rfl ?_
  obtain ⟨B6, hB6⟩ : ∃ B : Nat → q_V → q_V, B = (fun (k6 : Nat) (s6 : q_V) => let W6 := s6; if (vX4_holds a1 (nI k6) W6) = 0 then (W6) else ((vset W6 (i + 1) k6 (a2)))) := ⟨_, rfl⟩
  have hl6 : ∀ (d6 k6 : Nat) (W6 : q_V) (h : q_H), k6 + d6 = 16 → lp B6 d6 k6 W6 = (lp B6 16 0 V) → q_ok (gX Γ W6) h → q_A Sc mX0_setTimers 2 [.ref i, .int (a1), .int (a2), .int (nI k6)] [] h n 0 0 Q := by
    intro d6
    induction d6 with
    | zero =>
      intro k6  W6 h e6 hT6 hok
      have hT6 : W6 = (lp B6 16 0 V) := hT6
      subst hT6
      refine q_iload_n dX0_setTimers_2 rfl ?_
      refine q_bipush (v := nI 16) dX0_setTimers_3 rfl ?_
      refine t_icmp_ge_n (tgt := 29) (by omega) (by omega) dX0_setTimers_5 (by decide) (fun c10 => ?_) (fun c10 => ?_)
      rotate_left
      · exact absurd c10 (by omega)
      exact q_vret dX0_setTimers_29 rfl (hQ _ _ (rfl) (by subst hB6; dsimp only [fX0_setTimers]; exact hok))
    | succ d6 ih6 =>
      intro k6  W6 h e6 hT6 hok
      refine q_iload_n dX0_setTimers_2 rfl ?_
      refine q_bipush (v := nI 16) dX0_setTimers_3 rfl ?_
      refine t_icmp_ge_n (tgt := 29) (by omega) (by omega) dX0_setTimers_5 (by decide) (fun c7 => ?_) (fun c7 => ?_)
      · exact absurd c7 (by omega)
      refine q_iload_n dX0_setTimers_8 rfl ?_
      refine q_iload_n dX0_setTimers_9 rfl ?_
      refine v_callS (M' := mX4_holds) [.int (a1), .int (nI k6)] [] dX0_setTimers_10 wPX0_34 wTX4_holds wNX4 iX4_holds oX4_holds rfl hok (eX4_holds Sc Γ n W6 a1 (nI k6)) (Nat.le_of_ble_eq_true rfl) (Nat.le_of_ble_eq_true rfl) (Nat.le_of_ble_eq_true rfl) rfl (fun h hok => ?_)
      refine q_if_eq (tgt := 23) dX0_setTimers_13 (by decide) (fun c8 => ?_) (fun c8 => ?_)
      ·
        refine t_iinc_n [.ref i, .int (a1), .int (a2), .int (nI (k6 + 1))] dX0_setTimers_23 rfl (by decide) rfl ?_
        refine q_goto (tgt := 2) dX0_setTimers_26 (by decide) ?_
        exact ih6 (k6 + 1) W6 h (by omega) ((congrArg (lp B6 d6 (k6 + 1)) (show W6 = B6 k6 W6 from by rw [hB6]; dsimp only; rw [if_pos c8])).trans hT6) hok
      ·
        refine q_aload_n dX0_setTimers_16 rfl ?_
        refine v_getr 0 kX0 (by decide) wPX0_9 dX0_setTimers_17 hok H.1 rfl ?_
        refine q_iload_n dX0_setTimers_20 rfl ?_
        refine q_iload_n dX0_setTimers_21 rfl ?_
        refine v_iast (by decide) dX0_setTimers_22 hok H.2 (j := k6) (by omega) (fun h hok => ?_)
        refine t_iinc_n [.ref i, .int (a1), .int (a2), .int (nI (k6 + 1))] dX0_setTimers_23 rfl (by decide) rfl ?_
        refine q_goto (tgt := 2) dX0_setTimers_26 (by decide) ?_
        exact ih6 (k6 + 1) ((vset W6 (i + 1) k6 (a2))) h (by omega) ((congrArg (lp B6 d6 (k6 + 1)) (show (vset W6 (i + 1) k6 (a2)) = B6 k6 W6 from by rw [hB6]; dsimp only; rw [if_neg c8])).trans hT6) hok
  exact hl6 16 0  V h (by omega) rfl hok
def fX0_reset (i : Nat) (V : q_V) : q_V := let V11 := fX0_setTimers i 65535 (nI 0) V; let V12 := vset V11 i 2 (nI 0); let V13 := fX0_include i V12; V13
set_option maxRecDepth 20000 in
set_option maxHeartbeats 4000000 in
theorem eX0_reset (Sc : q_S) (Γ : Nat → q_K) (n : Nat) (V : q_V) (i : Nat) (H : sF Γ i) : q_fn Sc Γ mX0_reset [.ref i] n V none (fX0_reset i V) := by
  intro h hok
  show q_A Sc mX0_reset 0 [.ref i] [] h n 0 0 (fun O h' n' => O = .inl none ∧ q_ok (gX Γ (fX0_reset i V)) h' ∧ n' = n)
  have hQ : ∀ (O : q_O) (h' : q_H), O = .inl none → q_ok (gX Γ (fX0_reset i V)) h' → (fun O h' n' => O = .inl none ∧ q_ok (gX Γ (fX0_reset i V)) h' ∧ n' = n) O h' n := fun _ _ a b => ⟨a, b, rfl⟩
  generalize (fun O h' n' => O = .inl none ∧ q_ok (gX Γ (fX0_reset i V)) h' ∧ n' = n) = Q at hQ ⊢
  refine q_aload_n dX0_reset_0 rfl ?_
  refine q_ldc dX0_reset_1 wPX0_15 ?_
  refine q_iconst (v := nI 0) dX0_reset_3 rfl ?_
  refine v_callV (M' := mX0_setTimers) [.int (65535), .int (nI 0)] [] kX0 dX0_reset_4 wPX0_16v wIX0_setTimers wSX0_setTimers iX0_setTimers oX0_setTimers rfl hok H.1 (eX0_setTimers Sc Γ n V i H 65535 (nI 0)) (Nat.le_of_ble_eq_true rfl) (Nat.le_of_ble_eq_true rfl) (Nat.le_of_ble_eq_true rfl) rfl (fun h hok => ?_)
  refine q_aload_n dX0_reset_7 rfl ?_
  refine q_iconst (v := nI 0) dX0_reset_8 rfl ?_
  refine v_puti 2 kX0 (by decide) wPX0_20 rfl dX0_reset_9 hok H.1 rfl ⟨rfl, rfl⟩ (fun h hok => ?_)
  refine q_aload_n dX0_reset_12 rfl ?_
  refine v_callV (M' := mX0_include) [] [] kX0 dX0_reset_13 wPX0_24v wIX0_include wSX0_include iX0_include oX0_include rfl hok H.1 (eX0_include Sc Γ n (vset (fX0_setTimers i 65535 (nI 0) V) i 2 (nI 0)) i H) (Nat.le_of_ble_eq_true rfl) (Nat.le_of_ble_eq_true rfl) (Nat.le_of_ble_eq_true rfl) rfl (fun h hok => ?_)
  exact q_vret dX0_reset_16 rfl (hQ _ _ (rfl) (by dsimp only [fX0_reset]; exact hok))
def vX0_state (i : Nat) (V : q_V) : Int32 := if (V i 1) = 0 then (if (V i 2) = 0 then ((-1)) else ((nI 0))) else ((nI 1))
set_option maxRecDepth 20000 in
set_option maxHeartbeats 4000000 in
theorem eX0_state (Sc : q_S) (Γ : Nat → q_K) (n : Nat) (V : q_V) (i : Nat) (H : sF Γ i) : q_fn Sc Γ mX0_state [.ref i] n V (some (.int (vX0_state i V))) V := by
  intro h hok
  show q_A Sc mX0_state 0 [.ref i] [] h n 0 0 (fun O h' n' => O = .inl (some (.int (vX0_state i V))) ∧ q_ok (gX Γ V) h' ∧ n' = n)
  have hQ : ∀ (O : q_O) (h' : q_H), O = .inl (some (.int (vX0_state i V))) → q_ok (gX Γ V) h' → (fun O h' n' => O = .inl (some (.int (vX0_state i V))) ∧ q_ok (gX Γ V) h' ∧ n' = n) O h' n := fun _ _ a b => ⟨a, b, rfl⟩
  generalize (fun O h' n' => O = .inl (some (.int (vX0_state i V))) ∧ q_ok (gX Γ V) h' ∧ n' = n) = Q at hQ ⊢
  refine q_aload_n dX0_state_0 rfl ?_
  refine v_geti 1 kX0 (by decide) wPX0_27 dX0_state_1 hok H.1 rfl ?_
  refine q_if_eq (tgt := 9) dX0_state_4 (by decide) (fun c14 => ?_) (fun c14 => ?_)
  ·
    refine q_aload_n dX0_state_9 rfl ?_
    refine v_geti 2 kX0 (by decide) wPX0_20 dX0_state_10 hok H.1 rfl ?_
    refine q_if_ne (tgt := 20) dX0_state_13 (by decide) (fun c15 => ?_) (fun c15 => ?_)
    ·
      refine q_iconst (v := nI 0) dX0_state_20 rfl ?_
      exact q_iret dX0_state_21 rfl (rfl) (hQ _ _ (by dsimp only [vX0_state]; rw [if_pos c14, if_neg c15]) (hok))
    ·
      refine q_iconst (v := -1) dX0_state_16 rfl ?_
      refine q_goto (tgt := 21) dX0_state_17 (by decide) ?_
      exact q_iret dX0_state_21 rfl (rfl) (hQ _ _ (by dsimp only [vX0_state]; rw [if_pos c14, if_pos c15]) (hok))
  ·
    refine q_iconst (v := nI 1) dX0_state_7 rfl ?_
    exact q_iret dX0_state_8 rfl (rfl) (hQ _ _ (by dsimp only [vX0_state]; rw [if_neg c14]) (hok))
def vX0_lets (i : Nat) (a1 : Int32) (V : q_V) : Int32 := if (V i 1) = 0 then ((vX4_holds (V i 2) a1 V)) else (if (vX4_holds (V i 3) a1 V) = 0 then ((nI 1)) else ((nI 0)))
set_option maxRecDepth 20000 in
set_option maxHeartbeats 4000000 in
theorem eX0_lets (Sc : q_S) (Γ : Nat → q_K) (n : Nat) (V : q_V) (i : Nat) (H : sF Γ i) (a1 : Int32) : q_fn Sc Γ mX0_lets [.ref i, .int (a1)] n V (some (.int (vX0_lets i a1 V))) V := by
  intro h hok
  show q_A Sc mX0_lets 0 [.ref i, .int (a1)] [] h n 0 0 (fun O h' n' => O = .inl (some (.int (vX0_lets i a1 V))) ∧ q_ok (gX Γ V) h' ∧ n' = n)
  have hQ : ∀ (O : q_O) (h' : q_H), O = .inl (some (.int (vX0_lets i a1 V))) → q_ok (gX Γ V) h' → (fun O h' n' => O = .inl (some (.int (vX0_lets i a1 V))) ∧ q_ok (gX Γ V) h' ∧ n' = n) O h' n := fun _ _ a b => ⟨a, b, rfl⟩
  generalize (fun O h' n' => O = .inl (some (.int (vX0_lets i a1 V))) ∧ q_ok (gX Γ V) h' ∧ n' = n) = Q at hQ ⊢
  refine q_aload_n dX0_lets_0 rfl ?_
  refine v_geti 1 kX0 (by decide) wPX0_27 dX0_lets_1 hok H.1 rfl ?_
  refine q_if_eq (tgt := 26) dX0_lets_4 (by decide) (fun c16 => ?_) (fun c16 => ?_)
  ·
    refine q_aload_n dX0_lets_26 rfl ?_
    refine v_geti 2 kX0 (by decide) wPX0_20 dX0_lets_27 hok H.1 rfl ?_
    refine q_iload_n dX0_lets_30 rfl ?_
    refine v_callS (M' := mX4_holds) [.int (V i 2), .int (a1)] [] dX0_lets_31 wPX0_34 wTX4_holds wNX4 iX4_holds oX4_holds rfl hok (eX4_holds Sc Γ n V (V i 2) a1) (Nat.le_of_ble_eq_true rfl) (Nat.le_of_ble_eq_true rfl) (Nat.le_of_ble_eq_true rfl) rfl (fun h hok => ?_)
    exact q_iret dX0_lets_34 rfl (q_bl.nar (bX4_holds (V i 2) a1 V)) (hQ _ _ (by dsimp only [vX0_lets]; rw [if_pos c16]) (hok))
  ·
    refine q_aload_n dX0_lets_7 rfl ?_
    refine v_geti 3 kX0 (by decide) wPX0_31 dX0_lets_8 hok H.1 rfl ?_
    refine q_iload_n dX0_lets_11 rfl ?_
    refine v_callS (M' := mX4_holds) [.int (V i 3), .int (a1)] [] dX0_lets_12 wPX0_34 wTX4_holds wNX4 iX4_holds oX4_holds rfl hok (eX4_holds Sc Γ n V (V i 3) a1) (Nat.le_of_ble_eq_true rfl) (Nat.le_of_ble_eq_true rfl) (Nat.le_of_ble_eq_true rfl) rfl (fun h hok => ?_)
    refine q_if_ne (tgt := 22) dX0_lets_15 (by decide) (fun c17 => ?_) (fun c17 => ?_)
    ·
      refine q_iconst (v := nI 0) dX0_lets_22 rfl ?_
      refine q_goto (tgt := 34) dX0_lets_23 (by decide) ?_
      exact q_iret dX0_lets_34 rfl (rfl) (hQ _ _ (by dsimp only [vX0_lets]; rw [if_neg c16, if_neg c17]) (hok))
    ·
      refine q_iconst (v := nI 1) dX0_lets_18 rfl ?_
      refine q_goto (tgt := 34) dX0_lets_19 (by decide) ?_
      exact q_iret dX0_lets_34 rfl (rfl) (hQ _ _ (by dsimp only [vX0_lets]; rw [if_neg c16, if_pos c17]) (hok))
def vX0_doubted (i : Nat) (a1 : Int32) (V : q_V) : Int32 := if (V i 1) = 0 then (((a1) &&& (V i 2))) else (((a1) &&& ((V i 3) ^^^ (-1))))
set_option maxRecDepth 20000 in
set_option maxHeartbeats 4000000 in
theorem eX0_doubted (Sc : q_S) (Γ : Nat → q_K) (n : Nat) (V : q_V) (i : Nat) (H : sF Γ i) (a1 : Int32) : q_fn Sc Γ mX0_doubted [.ref i, .int (a1)] n V (some (.int (vX0_doubted i a1 V))) V := by
  intro h hok
  show q_A Sc mX0_doubted 0 [.ref i, .int (a1)] [] h n 0 0 (fun O h' n' => O = .inl (some (.int (vX0_doubted i a1 V))) ∧ q_ok (gX Γ V) h' ∧ n' = n)
  have hQ : ∀ (O : q_O) (h' : q_H), O = .inl (some (.int (vX0_doubted i a1 V))) → q_ok (gX Γ V) h' → (fun O h' n' => O = .inl (some (.int (vX0_doubted i a1 V))) ∧ q_ok (gX Γ V) h' ∧ n' = n) O h' n := fun _ _ a b => ⟨a, b, rfl⟩
  generalize (fun O h' n' => O = .inl (some (.int (vX0_doubted i a1 V))) ∧ q_ok (gX Γ V) h' ∧ n' = n) = Q at hQ ⊢
  refine q_aload_n dX0_doubted_0 rfl ?_
  refine v_geti 1 kX0 (by decide) wPX0_27 dX0_doubted_1 hok H.1 rfl ?_
  refine q_if_eq (tgt := 18) dX0_doubted_4 (by decide) (fun c18 => ?_) (fun c18 => ?_)
  ·
    refine q_iload_n dX0_doubted_18 rfl ?_
    refine q_aload_n dX0_doubted_19 rfl ?_
    refine v_geti 2 kX0 (by decide) wPX0_20 dX0_doubted_20 hok H.1 rfl ?_
    refine q_iand dX0_doubted_23 ?_
    exact q_iret dX0_doubted_24 rfl (rfl) (hQ _ _ (by dsimp only [vX0_doubted]; rw [if_pos c18]) (hok))
  ·
    refine q_iload_n dX0_doubted_7 rfl ?_
    refine q_aload_n dX0_doubted_8 rfl ?_
    refine v_geti 3 kX0 (by decide) wPX0_31 dX0_doubted_9 hok H.1 rfl ?_
    refine q_iconst (v := -1) dX0_doubted_12 rfl ?_
    refine q_ixor dX0_doubted_13 ?_
    refine q_iand dX0_doubted_14 ?_
    refine q_goto (tgt := 24) dX0_doubted_15 (by decide) ?_
    exact q_iret dX0_doubted_24 rfl (rfl) (hQ _ _ (by dsimp only [vX0_doubted]; rw [if_neg c18]) (hok))
def fX0_allow (i : Nat) (a1 : Int32) (a2 : Int32) (V : q_V) : q_V := let V19 := vset V i 2 ((V i 2) ||| (a1)); let V20 := vset V19 i 3 ((V19 i 3) &&& ((a1) ^^^ (-1))); let V21 := fX0_setTimers i a1 a2 V20; V21
set_option maxRecDepth 20000 in
set_option maxHeartbeats 4000000 in
theorem eX0_allow (Sc : q_S) (Γ : Nat → q_K) (n : Nat) (V : q_V) (i : Nat) (H : sF Γ i) (a1 : Int32) (a2 : Int32) : q_fn Sc Γ mX0_allow [.ref i, .int (a1), .int (a2)] n V none (fX0_allow i a1 a2 V) := by
  intro h hok
  show q_A Sc mX0_allow 0 [.ref i, .int (a1), .int (a2)] [] h n 0 0 (fun O h' n' => O = .inl none ∧ q_ok (gX Γ (fX0_allow i a1 a2 V)) h' ∧ n' = n)
  have hQ : ∀ (O : q_O) (h' : q_H), O = .inl none → q_ok (gX Γ (fX0_allow i a1 a2 V)) h' → (fun O h' n' => O = .inl none ∧ q_ok (gX Γ (fX0_allow i a1 a2 V)) h' ∧ n' = n) O h' n := fun _ _ a b => ⟨a, b, rfl⟩
  generalize (fun O h' n' => O = .inl none ∧ q_ok (gX Γ (fX0_allow i a1 a2 V)) h' ∧ n' = n) = Q at hQ ⊢
  refine q_aload_n dX0_allow_0 rfl ?_
  refine q_dup dX0_allow_1 rfl ?_
  refine v_geti 2 kX0 (by decide) wPX0_20 dX0_allow_2 hok H.1 rfl ?_
  refine q_iload_n dX0_allow_5 rfl ?_
  refine q_ior dX0_allow_6 ?_
  refine v_puti 2 kX0 (by decide) wPX0_20 rfl dX0_allow_7 hok H.1 rfl ⟨rfl, rfl⟩ (fun h hok => ?_)
  refine q_aload_n dX0_allow_10 rfl ?_
  refine q_dup dX0_allow_11 rfl ?_
  refine v_geti 3 kX0 (by decide) wPX0_31 dX0_allow_12 hok H.1 rfl ?_
  refine q_iload_n dX0_allow_15 rfl ?_
  refine q_iconst (v := -1) dX0_allow_16 rfl ?_
  refine q_ixor dX0_allow_17 ?_
  refine q_iand dX0_allow_18 ?_
  refine v_puti 3 kX0 (by decide) wPX0_31 rfl dX0_allow_19 hok H.1 rfl ⟨rfl, rfl⟩ (fun h hok => ?_)
  refine q_aload_n dX0_allow_22 rfl ?_
  refine q_iload_n dX0_allow_23 rfl ?_
  refine q_iload_n dX0_allow_24 rfl ?_
  refine v_callV (M' := mX0_setTimers) [.int (a1), .int (a2)] [] kX0 dX0_allow_25 wPX0_16v wIX0_setTimers wSX0_setTimers iX0_setTimers oX0_setTimers rfl hok H.1 (eX0_setTimers Sc Γ n (vset (vset V i 2 ((V i 2) ||| (a1))) i 3 (((vset V i 2 ((V i 2) ||| (a1))) i 3) &&& ((a1) ^^^ (-1)))) i H a1 a2) (Nat.le_of_ble_eq_true rfl) (Nat.le_of_ble_eq_true rfl) (Nat.le_of_ble_eq_true rfl) rfl (fun h hok => ?_)
  exact q_vret dX0_allow_28 rfl (hQ _ _ (rfl) (by dsimp only [fX0_allow]; exact hok))
def fX0_exclude (i : Nat) (a1 : Int32) (a2 : Int32) (a3 : Int32) (V : q_V) : q_V := if (V i 1) = 0 then (let V23 := fX0_setTimers i ((V i 2) &&& ((a1) ^^^ (-1))) (nI 0) V; let V24 := fX0_setTimers i (nI 0) a2 V23; let V25 := vset V24 i 2 (((V i 2) &&& (a1)) ||| (nI 0)); let V26 := vset V25 i 3 ((a1) &&& ((V25 i 2) ^^^ (-1))); let V27 := vset V26 i 1 (nI 1); let V28 := vset V27 i 4 (a3); V28) else (let V29 := fX0_setTimers i ((V i 2) &&& ((a1) ^^^ (-1))) (nI 0) V; let V30 := fX0_setTimers i (((a1) &&& ((V i 2) ^^^ (-1))) &&& ((V i 3) ^^^ (-1))) a2 V29; let V31 := vset V30 i 2 (((V i 2) &&& (a1)) ||| (((a1) &&& ((V i 2) ^^^ (-1))) &&& ((V i 3) ^^^ (-1)))); let V32 := vset V31 i 3 ((a1) &&& ((V31 i 2) ^^^ (-1))); let V33 := vset V32 i 1 (nI 1); let V34 := vset V33 i 4 (a3); V34)
set_option maxRecDepth 20000 in
set_option maxHeartbeats 4000000 in
theorem eX0_exclude (Sc : q_S) (Γ : Nat → q_K) (n : Nat) (V : q_V) (i : Nat) (H : sF Γ i) (a1 : Int32) (a2 : Int32) (a3 : Int32) : q_fn Sc Γ mX0_exclude [.ref i, .int (a1), .int (a2), .int (a3)] n V none (fX0_exclude i a1 a2 a3 V) := by
  intro h hok
  show q_A Sc mX0_exclude 0 [.ref i, .int (a1), .int (a2), .int (a3), .retAddr 0, .retAddr 0] [] h n 0 0 (fun O h' n' => O = .inl none ∧ q_ok (gX Γ (fX0_exclude i a1 a2 a3 V)) h' ∧ n' = n)
  have hQ : ∀ (O : q_O) (h' : q_H), O = .inl none → q_ok (gX Γ (fX0_exclude i a1 a2 a3 V)) h' → (fun O h' n' => O = .inl none ∧ q_ok (gX Γ (fX0_exclude i a1 a2 a3 V)) h' ∧ n' = n) O h' n := fun _ _ a b => ⟨a, b, rfl⟩
  generalize (fun O h' n' => O = .inl none ∧ q_ok (gX Γ (fX0_exclude i a1 a2 a3 V)) h' ∧ n' = n) = Q at hQ ⊢
  refine q_aload_n dX0_exclude_0 rfl ?_
  refine v_geti 1 kX0 (by decide) wPX0_27 dX0_exclude_1 hok H.1 rfl ?_
  refine q_if_eq (tgt := 25) dX0_exclude_4 (by decide) (fun c22 => ?_) (fun c22 => ?_)
  ·
    refine q_iconst (v := nI 0) dX0_exclude_25 rfl ?_
    refine t_istore [.ref i, .int (a1), .int (a2), .int (a3), .int (nI 0), .retAddr 0] (Or.inr ⟨rfl, dX0_exclude_26⟩) (by decide) rfl ?_
    refine q_aload_n dX0_exclude_28 rfl ?_
    refine v_geti 2 kX0 (by decide) wPX0_20 dX0_exclude_29 hok H.1 rfl ?_
    refine q_iload_n dX0_exclude_32 rfl ?_
    refine q_iand dX0_exclude_33 ?_
    refine t_istore [.ref i, .int (a1), .int (a2), .int (a3), .int (nI 0), .int ((V i 2) &&& (a1))] (Or.inr ⟨rfl, dX0_exclude_34⟩) (by decide) rfl ?_
    refine q_aload_n dX0_exclude_36 rfl ?_
    refine q_aload_n dX0_exclude_37 rfl ?_
    refine v_geti 2 kX0 (by decide) wPX0_20 dX0_exclude_38 hok H.1 rfl ?_
    refine q_iload_n dX0_exclude_41 rfl ?_
    refine q_iconst (v := -1) dX0_exclude_42 rfl ?_
    refine q_ixor dX0_exclude_43 ?_
    refine q_iand dX0_exclude_44 ?_
    refine q_iconst (v := nI 0) dX0_exclude_45 rfl ?_
    refine v_callV (M' := mX0_setTimers) [.int ((V i 2) &&& ((a1) ^^^ (-1))), .int (nI 0)] [] kX0 dX0_exclude_46 wPX0_16v wIX0_setTimers wSX0_setTimers iX0_setTimers oX0_setTimers rfl hok H.1 (eX0_setTimers Sc Γ n V i H ((V i 2) &&& ((a1) ^^^ (-1))) (nI 0)) (Nat.le_of_ble_eq_true rfl) (Nat.le_of_ble_eq_true rfl) (Nat.le_of_ble_eq_true rfl) rfl (fun h hok => ?_)
    refine q_aload_n dX0_exclude_49 rfl ?_
    refine q_iload dX0_exclude_50 rfl ?_
    refine q_iload_n dX0_exclude_52 rfl ?_
    refine v_callV (M' := mX0_setTimers) [.int (nI 0), .int (a2)] [] kX0 dX0_exclude_53 wPX0_16v wIX0_setTimers wSX0_setTimers iX0_setTimers oX0_setTimers rfl hok H.1 (eX0_setTimers Sc Γ n (fX0_setTimers i ((V i 2) &&& ((a1) ^^^ (-1))) (nI 0) V) i H (nI 0) a2) (Nat.le_of_ble_eq_true rfl) (Nat.le_of_ble_eq_true rfl) (Nat.le_of_ble_eq_true rfl) rfl (fun h hok => ?_)
    refine q_aload_n dX0_exclude_56 rfl ?_
    refine q_iload dX0_exclude_57 rfl ?_
    refine q_iload dX0_exclude_59 rfl ?_
    refine q_ior dX0_exclude_61 ?_
    refine v_puti 2 kX0 (by decide) wPX0_20 rfl dX0_exclude_62 hok H.1 rfl ⟨rfl, rfl⟩ (fun h hok => ?_)
    refine q_aload_n dX0_exclude_65 rfl ?_
    refine q_iload_n dX0_exclude_66 rfl ?_
    refine q_aload_n dX0_exclude_67 rfl ?_
    refine v_geti 2 kX0 (by decide) wPX0_20 dX0_exclude_68 hok H.1 rfl ?_
    refine q_iconst (v := -1) dX0_exclude_71 rfl ?_
    refine q_ixor dX0_exclude_72 ?_
    refine q_iand dX0_exclude_73 ?_
    refine v_puti 3 kX0 (by decide) wPX0_31 rfl dX0_exclude_74 hok H.1 rfl ⟨rfl, rfl⟩ (fun h hok => ?_)
    refine q_aload_n dX0_exclude_77 rfl ?_
    refine q_iconst (v := nI 1) dX0_exclude_78 rfl ?_
    refine v_puti 1 kX0 (by decide) wPX0_27 rfl dX0_exclude_79 hok H.1 rfl ⟨rfl, rfl⟩ (fun h hok => ?_)
    refine q_aload_n dX0_exclude_82 rfl ?_
    refine q_iload_n dX0_exclude_83 rfl ?_
    refine v_puti 4 kX0 (by decide) wPX0_38 rfl dX0_exclude_84 hok H.1 rfl ⟨rfl, rfl⟩ (fun h hok => ?_)
    exact q_vret dX0_exclude_87 rfl (hQ _ _ (rfl) (by dsimp only [fX0_exclude]; rw [if_pos c22]; exact hok))
  ·
    refine q_iload_n dX0_exclude_7 rfl ?_
    refine q_aload_n dX0_exclude_8 rfl ?_
    refine v_geti 2 kX0 (by decide) wPX0_20 dX0_exclude_9 hok H.1 rfl ?_
    refine q_iconst (v := -1) dX0_exclude_12 rfl ?_
    refine q_ixor dX0_exclude_13 ?_
    refine q_iand dX0_exclude_14 ?_
    refine q_aload_n dX0_exclude_15 rfl ?_
    refine v_geti 3 kX0 (by decide) wPX0_31 dX0_exclude_16 hok H.1 rfl ?_
    refine q_iconst (v := -1) dX0_exclude_19 rfl ?_
    refine q_ixor dX0_exclude_20 ?_
    refine q_iand dX0_exclude_21 ?_
    refine q_goto (tgt := 26) dX0_exclude_22 (by decide) ?_
    refine t_istore [.ref i, .int (a1), .int (a2), .int (a3), .int (((a1) &&& ((V i 2) ^^^ (-1))) &&& ((V i 3) ^^^ (-1))), .retAddr 0] (Or.inr ⟨rfl, dX0_exclude_26⟩) (by decide) rfl ?_
    refine q_aload_n dX0_exclude_28 rfl ?_
    refine v_geti 2 kX0 (by decide) wPX0_20 dX0_exclude_29 hok H.1 rfl ?_
    refine q_iload_n dX0_exclude_32 rfl ?_
    refine q_iand dX0_exclude_33 ?_
    refine t_istore [.ref i, .int (a1), .int (a2), .int (a3), .int (((a1) &&& ((V i 2) ^^^ (-1))) &&& ((V i 3) ^^^ (-1))), .int ((V i 2) &&& (a1))] (Or.inr ⟨rfl, dX0_exclude_34⟩) (by decide) rfl ?_
    refine q_aload_n dX0_exclude_36 rfl ?_
    refine q_aload_n dX0_exclude_37 rfl ?_
    refine v_geti 2 kX0 (by decide) wPX0_20 dX0_exclude_38 hok H.1 rfl ?_
    refine q_iload_n dX0_exclude_41 rfl ?_
    refine q_iconst (v := -1) dX0_exclude_42 rfl ?_
    refine q_ixor dX0_exclude_43 ?_
    refine q_iand dX0_exclude_44 ?_
    refine q_iconst (v := nI 0) dX0_exclude_45 rfl ?_
    refine v_callV (M' := mX0_setTimers) [.int ((V i 2) &&& ((a1) ^^^ (-1))), .int (nI 0)] [] kX0 dX0_exclude_46 wPX0_16v wIX0_setTimers wSX0_setTimers iX0_setTimers oX0_setTimers rfl hok H.1 (eX0_setTimers Sc Γ n V i H ((V i 2) &&& ((a1) ^^^ (-1))) (nI 0)) (Nat.le_of_ble_eq_true rfl) (Nat.le_of_ble_eq_true rfl) (Nat.le_of_ble_eq_true rfl) rfl (fun h hok => ?_)
    refine q_aload_n dX0_exclude_49 rfl ?_
    refine q_iload dX0_exclude_50 rfl ?_
    refine q_iload_n dX0_exclude_52 rfl ?_
    refine v_callV (M' := mX0_setTimers) [.int (((a1) &&& ((V i 2) ^^^ (-1))) &&& ((V i 3) ^^^ (-1))), .int (a2)] [] kX0 dX0_exclude_53 wPX0_16v wIX0_setTimers wSX0_setTimers iX0_setTimers oX0_setTimers rfl hok H.1 (eX0_setTimers Sc Γ n (fX0_setTimers i ((V i 2) &&& ((a1) ^^^ (-1))) (nI 0) V) i H (((a1) &&& ((V i 2) ^^^ (-1))) &&& ((V i 3) ^^^ (-1))) a2) (Nat.le_of_ble_eq_true rfl) (Nat.le_of_ble_eq_true rfl) (Nat.le_of_ble_eq_true rfl) rfl (fun h hok => ?_)
    refine q_aload_n dX0_exclude_56 rfl ?_
    refine q_iload dX0_exclude_57 rfl ?_
    refine q_iload dX0_exclude_59 rfl ?_
    refine q_ior dX0_exclude_61 ?_
    refine v_puti 2 kX0 (by decide) wPX0_20 rfl dX0_exclude_62 hok H.1 rfl ⟨rfl, rfl⟩ (fun h hok => ?_)
    refine q_aload_n dX0_exclude_65 rfl ?_
    refine q_iload_n dX0_exclude_66 rfl ?_
    refine q_aload_n dX0_exclude_67 rfl ?_
    refine v_geti 2 kX0 (by decide) wPX0_20 dX0_exclude_68 hok H.1 rfl ?_
    refine q_iconst (v := -1) dX0_exclude_71 rfl ?_
    refine q_ixor dX0_exclude_72 ?_
    refine q_iand dX0_exclude_73 ?_
    refine v_puti 3 kX0 (by decide) wPX0_31 rfl dX0_exclude_74 hok H.1 rfl ⟨rfl, rfl⟩ (fun h hok => ?_)
    refine q_aload_n dX0_exclude_77 rfl ?_
    refine q_iconst (v := nI 1) dX0_exclude_78 rfl ?_
    refine v_puti 1 kX0 (by decide) wPX0_27 rfl dX0_exclude_79 hok H.1 rfl ⟨rfl, rfl⟩ (fun h hok => ?_)
    refine q_aload_n dX0_exclude_82 rfl ?_
    refine q_iload_n dX0_exclude_83 rfl ?_
    refine v_puti 4 kX0 (by decide) wPX0_38 rfl dX0_exclude_84 hok H.1 rfl ⟨rfl, rfl⟩ (fun h hok => ?_)
    exact q_vret dX0_exclude_87 rfl (hQ _ _ (rfl) (by dsimp only [fX0_exclude]; rw [if_neg c22]; exact hok))
def fX0_block (i : Nat) (a1 : Int32) (V : q_V) : q_V := if (V i 1) = 0 then (V) else (let V36 := vset V i 2 ((V i 2) ||| (((a1) &&& ((V i 2) ^^^ (-1))) &&& ((V i 3) ^^^ (-1)))); let V37 := fX0_setTimers i (((a1) &&& ((V i 2) ^^^ (-1))) &&& ((V i 3) ^^^ (-1))) (V36 i 4) V36; V37)
set_option maxRecDepth 20000 in
set_option maxHeartbeats 4000000 in
theorem eX0_block (Sc : q_S) (Γ : Nat → q_K) (n : Nat) (V : q_V) (i : Nat) (H : sF Γ i) (a1 : Int32) : q_fn Sc Γ mX0_block [.ref i, .int (a1)] n V none (fX0_block i a1 V) := by
  intro h hok
  show q_A Sc mX0_block 0 [.ref i, .int (a1), .retAddr 0] [] h n 0 0 (fun O h' n' => O = .inl none ∧ q_ok (gX Γ (fX0_block i a1 V)) h' ∧ n' = n)
  have hQ : ∀ (O : q_O) (h' : q_H), O = .inl none → q_ok (gX Γ (fX0_block i a1 V)) h' → (fun O h' n' => O = .inl none ∧ q_ok (gX Γ (fX0_block i a1 V)) h' ∧ n' = n) O h' n := fun _ _ a b => ⟨a, b, rfl⟩
  generalize (fun O h' n' => O = .inl none ∧ q_ok (gX Γ (fX0_block i a1 V)) h' ∧ n' = n) = Q at hQ ⊢
  refine q_aload_n dX0_block_0 rfl ?_
  refine v_geti 1 kX0 (by decide) wPX0_27 dX0_block_1 hok H.1 rfl ?_
  refine q_if_eq (tgt := 42) dX0_block_4 (by decide) (fun c35 => ?_) (fun c35 => ?_)
  ·
    exact q_vret dX0_block_42 rfl (hQ _ _ (rfl) (by dsimp only [fX0_block]; rw [if_pos c35]; exact hok))
  ·
    refine q_iload_n dX0_block_7 rfl ?_
    refine q_aload_n dX0_block_8 rfl ?_
    refine v_geti 2 kX0 (by decide) wPX0_20 dX0_block_9 hok H.1 rfl ?_
    refine q_iconst (v := -1) dX0_block_12 rfl ?_
    refine q_ixor dX0_block_13 ?_
    refine q_iand dX0_block_14 ?_
    refine q_aload_n dX0_block_15 rfl ?_
    refine v_geti 3 kX0 (by decide) wPX0_31 dX0_block_16 hok H.1 rfl ?_
    refine q_iconst (v := -1) dX0_block_19 rfl ?_
    refine q_ixor dX0_block_20 ?_
    refine q_iand dX0_block_21 ?_
    refine t_istore [.ref i, .int (a1), .int (((a1) &&& ((V i 2) ^^^ (-1))) &&& ((V i 3) ^^^ (-1)))] (Or.inl ⟨2, rfl, rfl, dX0_block_22⟩) (by decide) rfl ?_
    refine q_aload_n dX0_block_23 rfl ?_
    refine q_dup dX0_block_24 rfl ?_
    refine v_geti 2 kX0 (by decide) wPX0_20 dX0_block_25 hok H.1 rfl ?_
    refine q_iload_n dX0_block_28 rfl ?_
    refine q_ior dX0_block_29 ?_
    refine v_puti 2 kX0 (by decide) wPX0_20 rfl dX0_block_30 hok H.1 rfl ⟨rfl, rfl⟩ (fun h hok => ?_)
    refine q_aload_n dX0_block_33 rfl ?_
    refine q_iload_n dX0_block_34 rfl ?_
    refine q_aload_n dX0_block_35 rfl ?_
    refine v_geti 4 kX0 (by decide) wPX0_38 dX0_block_36 hok H.1 rfl ?_
    refine v_callV (M' := mX0_setTimers) [.int (((a1) &&& ((V i 2) ^^^ (-1))) &&& ((V i 3) ^^^ (-1))), .int ((vset V i 2 ((V i 2) ||| (((a1) &&& ((V i 2) ^^^ (-1))) &&& ((V i 3) ^^^ (-1))))) i 4)] [] kX0 dX0_block_39 wPX0_16v wIX0_setTimers wSX0_setTimers iX0_setTimers oX0_setTimers rfl hok H.1 (eX0_setTimers Sc Γ n (vset V i 2 ((V i 2) ||| (((a1) &&& ((V i 2) ^^^ (-1))) &&& ((V i 3) ^^^ (-1))))) i H (((a1) &&& ((V i 2) ^^^ (-1))) &&& ((V i 3) ^^^ (-1))) ((vset V i 2 ((V i 2) ||| (((a1) &&& ((V i 2) ^^^ (-1))) &&& ((V i 3) ^^^ (-1))))) i 4)) (Nat.le_of_ble_eq_true rfl) (Nat.le_of_ble_eq_true rfl) (Nat.le_of_ble_eq_true rfl) rfl (fun h hok => ?_)
    exact q_vret dX0_block_42 rfl (hQ _ _ (rfl) (by dsimp only [fX0_block]; rw [if_neg c35]; exact hok))
def fX0_ageTimers (i : Nat) (a1 : Int32) (V : q_V) : q_V := let B38 := fun (k38 : Nat) (s38 : Int32 × q_V) => let g38a := s38.1; let W38 := s38.2; if (W38 (i + 1) k38) ≤ a1 then (if (W38 (i + 1) k38) ≤ 0 then ((g38a, W38)) else (let V42 := vset W38 (i + 1) k38 (nI 0); ((g38a) ||| ((nI 1) <<< ((nI k38) &&& 31)), V42))) else (let V43 := vset W38 (i + 1) k38 ((W38 (i + 1) k38) - (a1)); (g38a, V43)); let T38 := lp B38 16 0 (nI 0, V); let V44 := T38.2; let V46 := vset V44 i 2 ((V44 i 2) &&& ((T38.1) ^^^ (-1))); V46
def vX0_ageTimers (i : Nat) (a1 : Int32) (V : q_V) : Int32 := let B38 := fun (k38 : Nat) (s38 : Int32 × q_V) => let g38a := s38.1; let W38 := s38.2; if (W38 (i + 1) k38) ≤ a1 then (if (W38 (i + 1) k38) ≤ 0 then ((g38a, W38)) else (let V42 := vset W38 (i + 1) k38 (nI 0); ((g38a) ||| ((nI 1) <<< ((nI k38) &&& 31)), V42))) else (let V43 := vset W38 (i + 1) k38 ((W38 (i + 1) k38) - (a1)); (g38a, V43)); let T38 := lp B38 16 0 (nI 0, V); let V44 := T38.2; let V46 := vset V44 i 2 ((V44 i 2) &&& ((T38.1) ^^^ (-1))); T38.1
set_option maxRecDepth 20000 in
set_option maxHeartbeats 4000000 in
theorem eX0_ageTimers (Sc : q_S) (Γ : Nat → q_K) (n : Nat) (V : q_V) (i : Nat) (H : sF Γ i) (a1 : Int32) : q_fn Sc Γ mX0_ageTimers [.ref i, .int (a1)] n V (some (.int (vX0_ageTimers i a1 V))) (fX0_ageTimers i a1 V) := by
  intro h hok
  show q_A Sc mX0_ageTimers 0 [.ref i, .int (a1), .retAddr 0, .retAddr 0] [] h n 0 0 (fun O h' n' => O = .inl (some (.int (vX0_ageTimers i a1 V))) ∧ q_ok (gX Γ (fX0_ageTimers i a1 V)) h' ∧ n' = n)
  have hQ : ∀ (O : q_O) (h' : q_H), O = .inl (some (.int (vX0_ageTimers i a1 V))) → q_ok (gX Γ (fX0_ageTimers i a1 V)) h' → (fun O h' n' => O = .inl (some (.int (vX0_ageTimers i a1 V))) ∧ q_ok (gX Γ (fX0_ageTimers i a1 V)) h' ∧ n' = n) O h' n := fun _ _ a b => ⟨a, b, rfl⟩
  generalize (fun O h' n' => O = .inl (some (.int (vX0_ageTimers i a1 V))) ∧ q_ok (gX Γ (fX0_ageTimers i a1 V)) h' ∧ n' = n) = Q at hQ ⊢
  refine q_iconst (v := nI 0) dX0_ageTimers_0 rfl ?_
  refine t_istore [.ref i, .int (a1), .int (nI 0), .retAddr 0] (Or.inl ⟨2, rfl, rfl, dX0_ageTimers_1⟩) (by decide) rfl ?_
  refine q_iconst (v := nI 0) dX0_ageTimers_2 rfl ?_
  refine t_istore [.ref i, .int (a1), .int (nI 0), .int (nI 0)] (Or.inl ⟨3, rfl, rfl, dX0_ageTimers_3⟩) (by decide) rfl ?_
  obtain ⟨B38, hB38⟩ : ∃ B : Nat → (Int32 × q_V) → (Int32 × q_V), B = (fun (k38 : Nat) (s38 : Int32 × q_V) => let g38a := s38.1; let W38 := s38.2; if (W38 (i + 1) k38) ≤ a1 then (if (W38 (i + 1) k38) ≤ 0 then ((g38a, W38)) else (((g38a) ||| ((nI 1) <<< ((nI k38) &&& 31)), (vset W38 (i + 1) k38 (nI 0))))) else ((g38a, (vset W38 (i + 1) k38 ((W38 (i + 1) k38) - (a1)))))) := ⟨_, rfl⟩
  have hl38 : ∀ (d38 k38 : Nat) (g38a : Int32) (W38 : q_V) (h : q_H), k38 + d38 = 16 → lp B38 d38 k38 (g38a, W38) = (lp B38 16 0 (nI 0, V)) → q_ok (gX Γ W38) h → q_A Sc mX0_ageTimers 4 [.ref i, .int (a1), .int (g38a), .int (nI k38)] [] h n 0 0 Q := by
    intro d38
    induction d38 with
    | zero =>
      intro k38 g38a W38 h e38 hT38 hok
      obtain ⟨hq380, hq381⟩ : g38a = ((lp B38 16 0 (nI 0, V)).1) ∧ W38 = ((lp B38 16 0 (nI 0, V)).2) := ⟨congrArg (fun q => q.1) hT38, congrArg (fun q => q.2) hT38⟩
      subst hq380
      subst hq381
      refine q_iload_n dX0_ageTimers_4 rfl ?_
      refine q_bipush (v := nI 16) dX0_ageTimers_5 rfl ?_
      refine t_icmp_ge_n (tgt := 61) (by omega) (by omega) dX0_ageTimers_7 (by decide) (fun c45 => ?_) (fun c45 => ?_)
      rotate_left
      · exact absurd c45 (by omega)
      refine q_aload_n dX0_ageTimers_61 rfl ?_
      refine q_dup dX0_ageTimers_62 rfl ?_
      refine v_geti 2 kX0 (by decide) wPX0_20 dX0_ageTimers_63 hok H.1 rfl ?_
      refine q_iload_n dX0_ageTimers_66 rfl ?_
      refine q_iconst (v := -1) dX0_ageTimers_67 rfl ?_
      refine q_ixor dX0_ageTimers_68 ?_
      refine q_iand dX0_ageTimers_69 ?_
      refine v_puti 2 kX0 (by decide) wPX0_20 rfl dX0_ageTimers_70 hok H.1 rfl ⟨rfl, rfl⟩ (fun h hok => ?_)
      refine q_iload_n dX0_ageTimers_73 rfl ?_
      exact q_iret dX0_ageTimers_74 rfl (rfl) (hQ _ _ (by subst hB38; dsimp only [vX0_ageTimers]) (by subst hB38; dsimp only [fX0_ageTimers]; exact hok))
    | succ d38 ih38 =>
      intro k38 g38a W38 h e38 hT38 hok
      refine q_iload_n dX0_ageTimers_4 rfl ?_
      refine q_bipush (v := nI 16) dX0_ageTimers_5 rfl ?_
      refine t_icmp_ge_n (tgt := 61) (by omega) (by omega) dX0_ageTimers_7 (by decide) (fun c39 => ?_) (fun c39 => ?_)
      · exact absurd c39 (by omega)
      refine q_aload_n dX0_ageTimers_10 rfl ?_
      refine v_getr 0 kX0 (by decide) wPX0_9 dX0_ageTimers_11 hok H.1 rfl ?_
      refine q_iload_n dX0_ageTimers_14 rfl ?_
      refine v_iald (by decide) dX0_ageTimers_15 hok H.2 (j := k38) (by omega) ?_
      refine q_iload_n dX0_ageTimers_16 rfl ?_
      refine q_icmp_le (tgt := 33) dX0_ageTimers_17 (by decide) (fun c40 => ?_) (fun c40 => ?_)
      ·
        refine q_aload_n dX0_ageTimers_33 rfl ?_
        refine v_getr 0 kX0 (by decide) wPX0_9 dX0_ageTimers_34 hok H.1 rfl ?_
        refine q_iload_n dX0_ageTimers_37 rfl ?_
        refine v_iald (by decide) dX0_ageTimers_38 hok H.2 (j := k38) (by omega) ?_
        refine q_if_le (tgt := 55) dX0_ageTimers_39 (by decide) (fun c41 => ?_) (fun c41 => ?_)
        ·
          refine t_iinc_n [.ref i, .int (a1), .int (g38a), .int (nI (k38 + 1))] dX0_ageTimers_55 rfl (by decide) rfl ?_
          refine q_goto (tgt := 4) dX0_ageTimers_58 (by decide) ?_
          exact ih38 (k38 + 1) g38a W38 h (by omega) ((congrArg (lp B38 d38 (k38 + 1)) (show (g38a, W38) = B38 k38 (g38a, W38) from by rw [hB38]; dsimp only; rw [if_pos c40, if_pos c41])).trans hT38) hok
        ·
          refine q_aload_n dX0_ageTimers_42 rfl ?_
          refine v_getr 0 kX0 (by decide) wPX0_9 dX0_ageTimers_43 hok H.1 rfl ?_
          refine q_iload_n dX0_ageTimers_46 rfl ?_
          refine q_iconst (v := nI 0) dX0_ageTimers_47 rfl ?_
          refine v_iast (by decide) dX0_ageTimers_48 hok H.2 (j := k38) (by omega) (fun h hok => ?_)
          refine q_iload_n dX0_ageTimers_49 rfl ?_
          refine q_iconst (v := nI 1) dX0_ageTimers_50 rfl ?_
          refine q_iload_n dX0_ageTimers_51 rfl ?_
          refine q_ishl dX0_ageTimers_52 ?_
          refine q_ior dX0_ageTimers_53 ?_
          refine t_istore [.ref i, .int (a1), .int ((g38a) ||| ((nI 1) <<< ((nI k38) &&& 31))), .int (nI k38)] (Or.inl ⟨2, rfl, rfl, dX0_ageTimers_54⟩) (by decide) rfl ?_
          refine t_iinc_n [.ref i, .int (a1), .int ((g38a) ||| ((nI 1) <<< ((nI k38) &&& 31))), .int (nI (k38 + 1))] dX0_ageTimers_55 rfl (by decide) rfl ?_
          refine q_goto (tgt := 4) dX0_ageTimers_58 (by decide) ?_
          exact ih38 (k38 + 1) ((g38a) ||| ((nI 1) <<< ((nI k38) &&& 31))) ((vset W38 (i + 1) k38 (nI 0))) h (by omega) ((congrArg (lp B38 d38 (k38 + 1)) (show ((g38a) ||| ((nI 1) <<< ((nI k38) &&& 31)), (vset W38 (i + 1) k38 (nI 0))) = B38 k38 (g38a, W38) from by rw [hB38]; dsimp only; rw [if_pos c40, if_neg c41])).trans hT38) hok
      ·
        refine q_aload_n dX0_ageTimers_20 rfl ?_
        refine v_getr 0 kX0 (by decide) wPX0_9 dX0_ageTimers_21 hok H.1 rfl ?_
        refine q_iload_n dX0_ageTimers_24 rfl ?_
        refine q_dup2 dX0_ageTimers_25 rfl rfl ?_
        refine v_iald (by decide) dX0_ageTimers_26 hok H.2 (j := k38) (by omega) ?_
        refine q_iload_n dX0_ageTimers_27 rfl ?_
        refine q_isub dX0_ageTimers_28 ?_
        refine v_iast (by decide) dX0_ageTimers_29 hok H.2 (j := k38) (by omega) (fun h hok => ?_)
        refine q_goto (tgt := 55) dX0_ageTimers_30 (by decide) ?_
        refine t_iinc_n [.ref i, .int (a1), .int (g38a), .int (nI (k38 + 1))] dX0_ageTimers_55 rfl (by decide) rfl ?_
        refine q_goto (tgt := 4) dX0_ageTimers_58 (by decide) ?_
        exact ih38 (k38 + 1) g38a ((vset W38 (i + 1) k38 ((W38 (i + 1) k38) - (a1)))) h (by omega) ((congrArg (lp B38 d38 (k38 + 1)) (show (g38a, (vset W38 (i + 1) k38 ((W38 (i + 1) k38) - (a1)))) = B38 k38 (g38a, W38) from by rw [hB38]; dsimp only; rw [if_neg c40])).trans hT38) hok
  exact hl38 16 0 (nI 0) V h (by omega) rfl hok
def fX0_age (i : Nat) (a1 : Int32) (V : q_V) : q_V := let V47 := fX0_ageTimers i a1 V; if (V47 i 1) = 0 then (V47) else (if a1 < (V47 i 4) then (let V50 := vset V47 i 4 ((V47 i 4) - (a1)); let V51 := vset V50 i 3 ((V50 i 3) ||| (vX0_ageTimers i a1 V)); V51) else (let V52 := fX0_include i V47; V52))
set_option maxRecDepth 20000 in
set_option maxHeartbeats 4000000 in
theorem eX0_age (Sc : q_S) (Γ : Nat → q_K) (n : Nat) (V : q_V) (i : Nat) (H : sF Γ i) (a1 : Int32) : q_fn Sc Γ mX0_age [.ref i, .int (a1)] n V none (fX0_age i a1 V) := by
  intro h hok
  show q_A Sc mX0_age 0 [.ref i, .int (a1), .retAddr 0] [] h n 0 0 (fun O h' n' => O = .inl none ∧ q_ok (gX Γ (fX0_age i a1 V)) h' ∧ n' = n)
  have hQ : ∀ (O : q_O) (h' : q_H), O = .inl none → q_ok (gX Γ (fX0_age i a1 V)) h' → (fun O h' n' => O = .inl none ∧ q_ok (gX Γ (fX0_age i a1 V)) h' ∧ n' = n) O h' n := fun _ _ a b => ⟨a, b, rfl⟩
  generalize (fun O h' n' => O = .inl none ∧ q_ok (gX Γ (fX0_age i a1 V)) h' ∧ n' = n) = Q at hQ ⊢
  refine q_aload_n dX0_age_0 rfl ?_
  refine q_iload_n dX0_age_1 rfl ?_
  refine v_callV (M' := mX0_ageTimers) [.int (a1)] [] kX0 dX0_age_2 wPX0_41v wIX0_ageTimers wSX0_ageTimers iX0_ageTimers oX0_ageTimers rfl hok H.1 (eX0_ageTimers Sc Γ n V i H a1) (Nat.le_of_ble_eq_true rfl) (Nat.le_of_ble_eq_true rfl) (Nat.le_of_ble_eq_true rfl) rfl (fun h hok => ?_)
  refine t_istore [.ref i, .int (a1), .int (vX0_ageTimers i a1 V)] (Or.inl ⟨2, rfl, rfl, dX0_age_5⟩) (by decide) rfl ?_
  refine q_aload_n dX0_age_6 rfl ?_
  refine v_geti 1 kX0 (by decide) wPX0_27 dX0_age_7 hok H.1 rfl ?_
  refine q_if_ne (tgt := 14) dX0_age_10 (by decide) (fun c48 => ?_) (fun c48 => ?_)
  ·
    refine q_aload_n dX0_age_14 rfl ?_
    refine v_geti 4 kX0 (by decide) wPX0_38 dX0_age_15 hok H.1 rfl ?_
    refine q_iload_n dX0_age_18 rfl ?_
    refine q_icmp_gt (tgt := 29) dX0_age_19 (by decide) (fun c49 => ?_) (fun c49 => ?_)
    ·
      refine q_aload_n dX0_age_29 rfl ?_
      refine q_dup dX0_age_30 rfl ?_
      refine v_geti 4 kX0 (by decide) wPX0_38 dX0_age_31 hok H.1 rfl ?_
      refine q_iload_n dX0_age_34 rfl ?_
      refine q_isub dX0_age_35 ?_
      refine v_puti 4 kX0 (by decide) wPX0_38 rfl dX0_age_36 hok H.1 rfl ⟨rfl, rfl⟩ (fun h hok => ?_)
      refine q_aload_n dX0_age_39 rfl ?_
      refine q_dup dX0_age_40 rfl ?_
      refine v_geti 3 kX0 (by decide) wPX0_31 dX0_age_41 hok H.1 rfl ?_
      refine q_iload_n dX0_age_44 rfl ?_
      refine q_ior dX0_age_45 ?_
      refine v_puti 3 kX0 (by decide) wPX0_31 rfl dX0_age_46 hok H.1 rfl ⟨rfl, rfl⟩ (fun h hok => ?_)
      exact q_vret dX0_age_49 rfl (hQ _ _ (rfl) (by dsimp only [fX0_age]; rw [if_neg c48, if_pos c49]; exact hok))
    ·
      refine q_aload_n dX0_age_22 rfl ?_
      refine v_callV (M' := mX0_include) [] [] kX0 dX0_age_23 wPX0_24v wIX0_include wSX0_include iX0_include oX0_include rfl hok H.1 (eX0_include Sc Γ n (fX0_ageTimers i a1 V) i H) (Nat.le_of_ble_eq_true rfl) (Nat.le_of_ble_eq_true rfl) (Nat.le_of_ble_eq_true rfl) rfl (fun h hok => ?_)
      refine q_goto (tgt := 49) dX0_age_26 (by decide) ?_
      exact q_vret dX0_age_49 rfl (hQ _ _ (rfl) (by dsimp only [fX0_age]; rw [if_neg c48, if_neg c49]; exact hok))
  ·
    exact q_vret dX0_age_13 rfl (hQ _ _ (rfl) (by dsimp only [fX0_age]; rw [if_pos c48]; exact hok))
def fX0_lowerTimers (i : Nat) (a1 : Int32) (a2 : Int32) (V : q_V) : q_V := let B53 := fun (k53 : Nat) (s53 : q_V) => let W53 := s53; if (vX4_holds a1 (nI k53) W53) = 0 then (W53) else (let V56 := vset W53 (i + 1) k53 (vJ9_min_7cf53 (W53 (i + 1) k53) a2 W53); V56); let T53 := lp B53 16 0 V; T53
set_option maxRecDepth 20000 in
set_option maxHeartbeats 4000000 in
theorem eX0_lowerTimers (Sc : q_S) (Γ : Nat → q_K) (n : Nat) (V : q_V) (i : Nat) (H : sF Γ i) (a1 : Int32) (a2 : Int32) : q_fn Sc Γ mX0_lowerTimers [.ref i, .int (a1), .int (a2)] n V none (fX0_lowerTimers i a1 a2 V) := by
  intro h hok
  show q_A Sc mX0_lowerTimers 0 [.ref i, .int (a1), .int (a2), .retAddr 0] [] h n 0 0 (fun O h' n' => O = .inl none ∧ q_ok (gX Γ (fX0_lowerTimers i a1 a2 V)) h' ∧ n' = n)
  have hQ : ∀ (O : q_O) (h' : q_H), O = .inl none → q_ok (gX Γ (fX0_lowerTimers i a1 a2 V)) h' → (fun O h' n' => O = .inl none ∧ q_ok (gX Γ (fX0_lowerTimers i a1 a2 V)) h' ∧ n' = n) O h' n := fun _ _ a b => ⟨a, b, rfl⟩
  generalize (fun O h' n' => O = .inl none ∧ q_ok (gX Γ (fX0_lowerTimers i a1 a2 V)) h' ∧ n' = n) = Q at hQ ⊢
  refine q_iconst (v := nI 0) dX0_lowerTimers_0 rfl ?_
  refine t_istore [.ref i, .int (a1), .int (a2), .int (nI 0)] (Or.inl ⟨3, rfl, rfl, dX0_lowerTimers_1⟩) (by decide) rfl ?_
  obtain ⟨B53, hB53⟩ : ∃ B : Nat → q_V → q_V, B = (fun (k53 : Nat) (s53 : q_V) => let W53 := s53; if (vX4_holds a1 (nI k53) W53) = 0 then (W53) else ((vset W53 (i + 1) k53 (vJ9_min_7cf53 (W53 (i + 1) k53) a2 W53)))) := ⟨_, rfl⟩
  have hl53 : ∀ (d53 k53 : Nat) (W53 : q_V) (h : q_H), k53 + d53 = 16 → lp B53 d53 k53 W53 = (lp B53 16 0 V) → q_ok (gX Γ W53) h → q_A Sc mX0_lowerTimers 2 [.ref i, .int (a1), .int (a2), .int (nI k53)] [] h n 0 0 Q := by
    intro d53
    induction d53 with
    | zero =>
      intro k53  W53 h e53 hT53 hok
      have hT53 : W53 = (lp B53 16 0 V) := hT53
      subst hT53
      refine q_iload_n dX0_lowerTimers_2 rfl ?_
      refine q_bipush (v := nI 16) dX0_lowerTimers_3 rfl ?_
      refine t_icmp_ge_n (tgt := 38) (by omega) (by omega) dX0_lowerTimers_5 (by decide) (fun c57 => ?_) (fun c57 => ?_)
      rotate_left
      · exact absurd c57 (by omega)
      exact q_vret dX0_lowerTimers_38 rfl (hQ _ _ (rfl) (by subst hB53; dsimp only [fX0_lowerTimers]; exact hok))
    | succ d53 ih53 =>
      intro k53  W53 h e53 hT53 hok
      refine q_iload_n dX0_lowerTimers_2 rfl ?_
      refine q_bipush (v := nI 16) dX0_lowerTimers_3 rfl ?_
      refine t_icmp_ge_n (tgt := 38) (by omega) (by omega) dX0_lowerTimers_5 (by decide) (fun c54 => ?_) (fun c54 => ?_)
      · exact absurd c54 (by omega)
      refine q_iload_n dX0_lowerTimers_8 rfl ?_
      refine q_iload_n dX0_lowerTimers_9 rfl ?_
      refine v_callS (M' := mX4_holds) [.int (a1), .int (nI k53)] [] dX0_lowerTimers_10 wPX0_34 wTX4_holds wNX4 iX4_holds oX4_holds rfl hok (eX4_holds Sc Γ n W53 a1 (nI k53)) (Nat.le_of_ble_eq_true rfl) (Nat.le_of_ble_eq_true rfl) (Nat.le_of_ble_eq_true rfl) rfl (fun h hok => ?_)
      refine q_if_eq (tgt := 32) dX0_lowerTimers_13 (by decide) (fun c55 => ?_) (fun c55 => ?_)
      ·
        refine t_iinc_n [.ref i, .int (a1), .int (a2), .int (nI (k53 + 1))] dX0_lowerTimers_32 rfl (by decide) rfl ?_
        refine q_goto (tgt := 2) dX0_lowerTimers_35 (by decide) ?_
        exact ih53 (k53 + 1) W53 h (by omega) ((congrArg (lp B53 d53 (k53 + 1)) (show W53 = B53 k53 W53 from by rw [hB53]; dsimp only; rw [if_pos c55])).trans hT53) hok
      ·
        refine q_aload_n dX0_lowerTimers_16 rfl ?_
        refine v_getr 0 kX0 (by decide) wPX0_9 dX0_lowerTimers_17 hok H.1 rfl ?_
        refine q_iload_n dX0_lowerTimers_20 rfl ?_
        refine q_aload_n dX0_lowerTimers_21 rfl ?_
        refine v_getr 0 kX0 (by decide) wPX0_9 dX0_lowerTimers_22 hok H.1 rfl ?_
        refine q_iload_n dX0_lowerTimers_25 rfl ?_
        refine v_iald (by decide) dX0_lowerTimers_26 hok H.2 (j := k53) (by omega) ?_
        refine q_iload_n dX0_lowerTimers_27 rfl ?_
        refine v_callS (M' := mJ9_min_7cf53) [.int (W53 (i + 1) k53), .int (a2)] [.int (nI k53), .ref (i + 1)] dX0_lowerTimers_28 wPX0_45 wTJ9_min_7cf53 wNJ9 iJ9_min_7cf53 oJ9_min_7cf53 rfl hok (eJ9_min_7cf53 Sc Γ n W53 (W53 (i + 1) k53) a2) (Nat.le_of_ble_eq_true rfl) (Nat.le_of_ble_eq_true rfl) (Nat.le_of_ble_eq_true rfl) rfl (fun h hok => ?_)
        refine v_iast (by decide) dX0_lowerTimers_31 hok H.2 (j := k53) (by omega) (fun h hok => ?_)
        refine t_iinc_n [.ref i, .int (a1), .int (a2), .int (nI (k53 + 1))] dX0_lowerTimers_32 rfl (by decide) rfl ?_
        refine q_goto (tgt := 2) dX0_lowerTimers_35 (by decide) ?_
        exact ih53 (k53 + 1) ((vset W53 (i + 1) k53 (vJ9_min_7cf53 (W53 (i + 1) k53) a2 W53))) h (by omega) ((congrArg (lp B53 d53 (k53 + 1)) (show (vset W53 (i + 1) k53 (vJ9_min_7cf53 (W53 (i + 1) k53) a2 W53)) = B53 k53 W53 from by rw [hB53]; dsimp only; rw [if_neg c55])).trans hT53) hok
  exact hl53 16 0  V h (by omega) rfl hok
def fX0_lowerOwnTimer (i : Nat) (a1 : Int32) (V : q_V) : q_V := let V58 := vset V i 4 (vJ9_min_7cf53 (V i 4) a1 V); V58
set_option maxRecDepth 20000 in
set_option maxHeartbeats 4000000 in
theorem eX0_lowerOwnTimer (Sc : q_S) (Γ : Nat → q_K) (n : Nat) (V : q_V) (i : Nat) (H : sF Γ i) (a1 : Int32) : q_fn Sc Γ mX0_lowerOwnTimer [.ref i, .int (a1)] n V none (fX0_lowerOwnTimer i a1 V) := by
  intro h hok
  show q_A Sc mX0_lowerOwnTimer 0 [.ref i, .int (a1)] [] h n 0 0 (fun O h' n' => O = .inl none ∧ q_ok (gX Γ (fX0_lowerOwnTimer i a1 V)) h' ∧ n' = n)
  have hQ : ∀ (O : q_O) (h' : q_H), O = .inl none → q_ok (gX Γ (fX0_lowerOwnTimer i a1 V)) h' → (fun O h' n' => O = .inl none ∧ q_ok (gX Γ (fX0_lowerOwnTimer i a1 V)) h' ∧ n' = n) O h' n := fun _ _ a b => ⟨a, b, rfl⟩
  generalize (fun O h' n' => O = .inl none ∧ q_ok (gX Γ (fX0_lowerOwnTimer i a1 V)) h' ∧ n' = n) = Q at hQ ⊢
  refine q_aload_n dX0_lowerOwnTimer_0 rfl ?_
  refine q_aload_n dX0_lowerOwnTimer_1 rfl ?_
  refine v_geti 4 kX0 (by decide) wPX0_38 dX0_lowerOwnTimer_2 hok H.1 rfl ?_
  refine q_iload_n dX0_lowerOwnTimer_5 rfl ?_
  refine v_callS (M' := mJ9_min_7cf53) [.int (V i 4), .int (a1)] [.ref i] dX0_lowerOwnTimer_6 wPX0_45 wTJ9_min_7cf53 wNJ9 iJ9_min_7cf53 oJ9_min_7cf53 rfl hok (eJ9_min_7cf53 Sc Γ n V (V i 4) a1) (Nat.le_of_ble_eq_true rfl) (Nat.le_of_ble_eq_true rfl) (Nat.le_of_ble_eq_true rfl) rfl (fun h hok => ?_)
  refine v_puti 4 kX0 (by decide) wPX0_38 rfl dX0_lowerOwnTimer_9 hok H.1 rfl ⟨rfl, rfl⟩ (fun h hok => ?_)
  exact q_vret dX0_lowerOwnTimer_12 rfl (hQ _ _ (rfl) (by dsimp only [fX0_lowerOwnTimer]; exact hok))
end
section
def fm40 (x : Int32) : Nat := (x.toInt % 40).toNat
theorem fm40_lt (x : Int32) : fm40 x < 40 := by
  unfold fm40
  omega
theorem q_xneg {x : Int32} (h : x < 0) : (x ^^^ nI 40) < 0 := by
  rw [Int32.lt_iff_toInt_lt] at h ⊢
  have h1 : x.toBitVec.toInt < 0 := h
  have h2 : x.toBitVec.msb = true := by
    rw [BitVec.msb_eq_toInt]
    exact decide_eq_true h1
  have h3 : (x ^^^ nI 40).toBitVec.msb = true := by
    rw [Int32.toBitVec_xor, BitVec.msb_xor, h2]
    rfl
  have h4 : (x ^^^ nI 40).toBitVec.toInt < 0 := by
    rw [BitVec.msb_eq_toInt] at h3
    exact of_decide_eq_true h3
  exact h4
theorem q_xpos {x : Int32} (h : 0 ≤ x.toInt) : 0 ≤ (x ^^^ nI 40) := by
  have h1 : x.toBitVec.msb = false := by
    rw [BitVec.msb_eq_toInt]
    exact decide_eq_false (Int.not_lt.mpr h)
  have h3 : (x ^^^ nI 40).toBitVec.msb = false := by
    rw [Int32.toBitVec_xor, BitVec.msb_xor, h1]
    rfl
  rw [BitVec.msb_eq_toInt] at h3
  rw [Int32.le_iff_toInt_le, Int32.toInt_zero]
  exact Int.not_lt.mp (of_decide_eq_false h3)
theorem fm_rem (x : Int32) : (x - x / nI 40 * nI 40).toInt = x.toInt.tmod 40 := by
  rw [rem_toInt x (nI 40), nI_toInt (by decide)]
  rfl
theorem tm40 (a : Int) : a.tmod 40 = a % 40 ∨ (a < 0 ∧ a.tmod 40 = a % 40 - 40 ∧ a % 40 ≠ 0) := by
  rw [Int.tmod_eq_emod]
  split
  · exact Or.inl (by omega)
  · rename_i h
    refine Or.inr ⟨by omega, by simp, fun q => h (Or.inr (Int.dvd_of_emod_eq_zero q))⟩
theorem int_eq {x : Int32} {j : Nat} (hj : j < 2 ^ 31) (h : x.toInt = j) : x = nI j := Int32.toInt_inj.mp (by rw [h, nI_toInt hj])
theorem fm40_pos {x : Int32} (h : 0 ≤ x.toInt) : x - x / nI 40 * nI 40 = nI (fm40 x) := by
  refine int_eq (by have := fm40_lt x; omega) ?_
  rw [fm_rem]
  unfold fm40
  rcases tm40 x.toInt with e | ⟨e, -⟩
  · rw [e]
    omega
  · omega

def vJ9_floorMod_7cf53_40 (a0 : Int32) (V : q_V) : Int32 := if 0 ≤ ((a0) ^^^ (nI 40)) then (((a0) - (a0) / (nI 40) * (nI 40))) else (if ((a0) - (a0) / (nI 40) * (nI 40)) = 0 then (((a0) - (a0) / (nI 40) * (nI 40))) else ((((a0) - (a0) / (nI 40) * (nI 40)) + (nI 40))))
set_option maxRecDepth 20000 in
set_option maxHeartbeats 4000000 in
theorem eJ9_floorMod_7cf53_40 (Sc : q_S) (Γ : Nat → q_K) (n : Nat) (V : q_V) (a0 : Int32) : q_fn Sc Γ mJ9_floorMod_7cf53 [.int (a0), .int (nI 40)] n V (some (.int (vJ9_floorMod_7cf53_40 a0 V))) V := by
  intro h hok
  show q_A Sc mJ9_floorMod_7cf53 0 [.int (a0), .int (nI 40), .retAddr 0] [] h n 0 0 (fun O h' n' => O = .inl (some (.int (vJ9_floorMod_7cf53_40 a0 V))) ∧ q_ok (gX Γ V) h' ∧ n' = n)
  have hQ : ∀ (O : q_O) (h' : q_H), O = .inl (some (.int (vJ9_floorMod_7cf53_40 a0 V))) → q_ok (gX Γ V) h' → (fun O h' n' => O = .inl (some (.int (vJ9_floorMod_7cf53_40 a0 V))) ∧ q_ok (gX Γ V) h' ∧ n' = n) O h' n := fun _ _ a b => ⟨a, b, rfl⟩
  generalize (fun O h' n' => O = .inl (some (.int (vJ9_floorMod_7cf53_40 a0 V))) ∧ q_ok (gX Γ V) h' ∧ n' = n) = Q at hQ ⊢
  refine q_iload_n dJ9_floorMod_7cf53_0 rfl ?_
  refine q_iload_n dJ9_floorMod_7cf53_1 rfl ?_
  refine q_irem dJ9_floorMod_7cf53_2 (by decide) ?_
  refine t_istore [.int (a0), .int (nI 40), .int ((a0) - (a0) / (nI 40) * (nI 40))] (Or.inl ⟨2, rfl, rfl, dJ9_floorMod_7cf53_3⟩) (by decide) rfl ?_
  refine q_iload_n dJ9_floorMod_7cf53_4 rfl ?_
  refine q_iload_n dJ9_floorMod_7cf53_5 rfl ?_
  refine q_ixor dJ9_floorMod_7cf53_6 ?_
  refine q_if_ge (tgt := 18) dJ9_floorMod_7cf53_7 (by decide) (fun c59 => ?_) (fun c59 => ?_)
  ·
    refine q_iload_n dJ9_floorMod_7cf53_18 rfl ?_
    exact q_iret dJ9_floorMod_7cf53_19 rfl (rfl) (hQ _ _ (by dsimp only [vJ9_floorMod_7cf53_40]; rw [if_pos c59]) (hok))
  ·
    refine q_iload_n dJ9_floorMod_7cf53_10 rfl ?_
    refine q_if_eq (tgt := 18) dJ9_floorMod_7cf53_11 (by decide) (fun c60 => ?_) (fun c60 => ?_)
    ·
      refine q_iload_n dJ9_floorMod_7cf53_18 rfl ?_
      exact q_iret dJ9_floorMod_7cf53_19 rfl (rfl) (hQ _ _ (by dsimp only [vJ9_floorMod_7cf53_40]; rw [if_neg c59, if_pos c60]) (hok))
    ·
      refine q_iload_n dJ9_floorMod_7cf53_14 rfl ?_
      refine q_iload_n dJ9_floorMod_7cf53_15 rfl ?_
      refine q_iadd dJ9_floorMod_7cf53_16 ?_
      exact q_iret dJ9_floorMod_7cf53_17 rfl (rfl) (hQ _ _ (by dsimp only [vJ9_floorMod_7cf53_40]; rw [if_neg c59, if_neg c60]) (hok))
theorem fm40_eq (x : Int32) (V : q_V) : vJ9_floorMod_7cf53_40 x V = nI (fm40 x) := by
  have hb := fm40_lt x
  dsimp only [vJ9_floorMod_7cf53_40]
  split
  · rename_i c
    have h0 : 0 ≤ x.toInt := Int.not_lt.mp fun q => by
      have h9 := q_xneg (x := x) (by rw [Int32.lt_iff_toInt_lt, Int32.toInt_zero]; exact q)
      rw [Int32.lt_iff_toInt_lt] at h9
      rw [Int32.le_iff_toInt_le] at c
      omega
    exact fm40_pos h0
  · rename_i c
    have h0 : x.toInt < 0 := Int.not_le.mp fun q => c (q_xpos q)
    split
    · rename_i c2
      have h3 := congrArg Int32.toInt c2
      rw [fm_rem, Int32.toInt_zero] at h3
      rw [c2]
      refine int_eq (by omega) ?_
      unfold fm40
      rw [Int32.toInt_zero]
      rcases tm40 x.toInt with e | ⟨e, e2, e3⟩ <;> omega
    · rename_i c2
      have h3 : x.toInt.tmod 40 ≠ 0 := fun q => c2 (Int32.toInt_inj.mp (by rw [fm_rem, q, Int32.toInt_zero]))
      refine int_eq (by omega) ?_
      have h5 := fm_rem x
      have h6 : -40 < x.toInt.tmod 40 ∧ x.toInt.tmod 40 < 40 := by
        rcases tm40 x.toInt with e | ⟨e, e2, e3⟩ <;> omega
      have hs : (x - x / nI 40 * nI 40 + nI 40).toInt = (x - x / nI 40 * nI 40).toInt + 40 := by
        rw [Int32.toInt_add, nI_toInt (by decide)]
        exact Int.bmod_eq_of_le (by omega) (by omega)
      rw [hs, h5]
      unfold fm40
      have h7 : x.toInt.tmod 40 ≤ 0 := by
        have h1 : 0 ≤ (-x.toInt).tmod 40 := Int.tmod_nonneg _ (by omega)
        rw [Int.neg_tmod] at h1
        omega
      rcases tm40 x.toInt with e | ⟨e, e2, e3⟩ <;> omega
theorem eJ9_fm (Sc : q_S) (Γ : Nat → q_K) (n : Nat) (V : q_V) (a0 : Int32) : q_fn Sc Γ mJ9_floorMod_7cf53 [.int a0, .int (nI 40)] n V (some (.int (nI (fm40 a0)))) V := by
  rw [← fm40_eq a0 V]
  exact eJ9_floorMod_7cf53_40 Sc Γ n V a0

def fX3_reset (lg : Nat) (V : q_V) : q_V := let V61 := vset V lg 4 (nI 0); let V62 := vset V61 lg 5 (nI 0); V62
set_option maxRecDepth 20000 in
set_option maxHeartbeats 4000000 in
theorem eX3_reset (Sc : q_S) (Γ : Nat → q_K) (n : Nat) (V : q_V) (lg : Nat) (Hg : sLg Γ lg) : q_fn Sc Γ mX3_reset [.ref lg] n V none (fX3_reset lg V) := by
  intro h hok
  show q_A Sc mX3_reset 0 [.ref lg] [] h n 0 0 (fun O h' n' => O = .inl none ∧ q_ok (gX Γ (fX3_reset lg V)) h' ∧ n' = n)
  have hQ : ∀ (O : q_O) (h' : q_H), O = .inl none → q_ok (gX Γ (fX3_reset lg V)) h' → (fun O h' n' => O = .inl none ∧ q_ok (gX Γ (fX3_reset lg V)) h' ∧ n' = n) O h' n := fun _ _ a b => ⟨a, b, rfl⟩
  generalize (fun O h' n' => O = .inl none ∧ q_ok (gX Γ (fX3_reset lg V)) h' ∧ n' = n) = Q at hQ ⊢
  refine q_aload_n dX3_reset_0 rfl ?_
  refine q_iconst (v := nI 0) dX3_reset_1 rfl ?_
  refine v_puti 4 kX3 (by decide) wPX3_24 rfl dX3_reset_2 hok Hg.1 rfl ⟨rfl, rfl⟩ (fun h hok => ?_)
  refine q_aload_n dX3_reset_5 rfl ?_
  refine q_iconst (v := nI 0) dX3_reset_6 rfl ?_
  refine v_puti 5 kX3 (by decide) wPX3_28 rfl dX3_reset_7 hok Hg.1 rfl ⟨rfl, rfl⟩ (fun h hok => ?_)
  exact q_vret dX3_reset_10 rfl (hQ _ _ (rfl) (by dsimp only [fX3_reset]; exact hok))
def fX3_add (lg : Nat) (a1 : Int32) (a2 : Int32) (a3 : Int32) (V : q_V) : q_V := let V64 := vset V (lg + 1) (fm40 (V lg 4)) (a1); let V65 := vset V64 (lg + 2) (fm40 (V lg 4)) (a2); let V66 := vset V65 (lg + 3) (fm40 (V lg 4)) (a3); let V67 := vset V66 (lg + 4) (fm40 (V lg 4)) (V66 lg 5); let V68 := vset V67 lg 4 ((V67 lg 4) + (nI 1)); V68
set_option maxRecDepth 20000 in
set_option maxHeartbeats 4000000 in
theorem eX3_add (Sc : q_S) (Γ : Nat → q_K) (n : Nat) (V : q_V) (lg : Nat) (Hg : sLg Γ lg) (a1 : Int32) (a2 : Int32) (a3 : Int32) : q_fn Sc Γ mX3_add [.ref lg, .int (a1), .int (a2), .int (a3)] n V none (fX3_add lg a1 a2 a3 V) := by
  intro h hok
  show q_A Sc mX3_add 0 [.ref lg, .int (a1), .int (a2), .int (a3), .retAddr 0] [] h n 0 0 (fun O h' n' => O = .inl none ∧ q_ok (gX Γ (fX3_add lg a1 a2 a3 V)) h' ∧ n' = n)
  have hQ : ∀ (O : q_O) (h' : q_H), O = .inl none → q_ok (gX Γ (fX3_add lg a1 a2 a3 V)) h' → (fun O h' n' => O = .inl none ∧ q_ok (gX Γ (fX3_add lg a1 a2 a3 V)) h' ∧ n' = n) O h' n := fun _ _ a b => ⟨a, b, rfl⟩
  generalize (fun O h' n' => O = .inl none ∧ q_ok (gX Γ (fX3_add lg a1 a2 a3 V)) h' ∧ n' = n) = Q at hQ ⊢
  refine q_aload_n dX3_add_0 rfl ?_
  refine v_geti 4 kX3 (by decide) wPX3_24 dX3_add_1 hok Hg.1 rfl ?_
  refine q_bipush (v := nI 40) dX3_add_4 rfl ?_
  refine v_callS (M' := mJ9_floorMod_7cf53) [.int (V lg 4), .int (nI 40)] [] dX3_add_6 wPX3_31 wTJ9_floorMod_7cf53 wNJ9 iJ9_floorMod_7cf53 oJ9_floorMod_7cf53 rfl hok (eJ9_fm Sc Γ n V (V lg 4)) (Nat.le_of_ble_eq_true rfl) (Nat.le_of_ble_eq_true rfl) (Nat.le_of_ble_eq_true rfl) rfl (fun h hok => ?_)
  have hfm63 := fm40_lt (V lg 4)
  refine t_istore [.ref lg, .int (a1), .int (a2), .int (a3), .int (nI (fm40 (V lg 4)))] (Or.inr ⟨rfl, dX3_add_9⟩) (by decide) rfl ?_
  refine q_aload_n dX3_add_11 rfl ?_
  refine v_getr 0 kX3 (by decide) wPX3_9 dX3_add_12 hok Hg.1 rfl ?_
  refine q_iload dX3_add_15 rfl ?_
  refine q_iload_n dX3_add_17 rfl ?_
  refine v_iast (by decide) dX3_add_18 hok Hg.2.1 (j := fm40 (V lg 4)) (by omega) (fun h hok => ?_)
  refine q_aload_n dX3_add_19 rfl ?_
  refine v_getr 1 kX3 (by decide) wPX3_15 dX3_add_20 hok Hg.1 rfl ?_
  refine q_iload dX3_add_23 rfl ?_
  refine q_iload_n dX3_add_25 rfl ?_
  refine v_iast (by decide) dX3_add_26 hok Hg.2.2.1 (j := fm40 (V lg 4)) (by omega) (fun h hok => ?_)
  refine q_aload_n dX3_add_27 rfl ?_
  refine v_getr 2 kX3 (by decide) wPX3_18 dX3_add_28 hok Hg.1 rfl ?_
  refine q_iload dX3_add_31 rfl ?_
  refine q_iload_n dX3_add_33 rfl ?_
  refine v_iast (by decide) dX3_add_34 hok Hg.2.2.2.1 (j := fm40 (V lg 4)) (by omega) (fun h hok => ?_)
  refine q_aload_n dX3_add_35 rfl ?_
  refine v_getr 3 kX3 (by decide) wPX3_21 dX3_add_36 hok Hg.1 rfl ?_
  refine q_iload dX3_add_39 rfl ?_
  refine q_aload_n dX3_add_41 rfl ?_
  refine v_geti 5 kX3 (by decide) wPX3_28 dX3_add_42 hok Hg.1 rfl ?_
  refine v_iast (by decide) dX3_add_45 hok Hg.2.2.2.2 (j := fm40 (V lg 4)) (by omega) (fun h hok => ?_)
  refine q_aload_n dX3_add_46 rfl ?_
  refine q_dup dX3_add_47 rfl ?_
  refine v_geti 4 kX3 (by decide) wPX3_24 dX3_add_48 hok Hg.1 rfl ?_
  refine q_iconst (v := nI 1) dX3_add_51 rfl ?_
  refine q_iadd dX3_add_52 ?_
  refine v_puti 4 kX3 (by decide) wPX3_24 rfl dX3_add_53 hok Hg.1 rfl ⟨rfl, rfl⟩ (fun h hok => ?_)
  exact q_vret dX3_add_56 rfl (hQ _ _ (rfl) (by dsimp only [fX3_add]; exact hok))
def vX3_look_0 (lg : Nat) (a1 : Int32) (V : q_V) : Int32 := (V (lg + 1) (fm40 (((V lg 4) - (nI 1)) - (a1))))
set_option maxRecDepth 20000 in
set_option maxHeartbeats 4000000 in
theorem eX3_look_0 (Sc : q_S) (Γ : Nat → q_K) (n : Nat) (V : q_V) (lg : Nat) (Hg : sLg Γ lg) (a1 : Int32) : q_fn Sc Γ mX3_look [.ref lg, .int (a1), .int (nI 0)] n V (some (.int (vX3_look_0 lg a1 V))) V := by
  intro h hok
  show q_A Sc mX3_look 0 [.ref lg, .int (a1), .int (nI 0), .retAddr 0] [] h n 0 0 (fun O h' n' => O = .inl (some (.int (vX3_look_0 lg a1 V))) ∧ q_ok (gX Γ V) h' ∧ n' = n)
  have hQ : ∀ (O : q_O) (h' : q_H), O = .inl (some (.int (vX3_look_0 lg a1 V))) → q_ok (gX Γ V) h' → (fun O h' n' => O = .inl (some (.int (vX3_look_0 lg a1 V))) ∧ q_ok (gX Γ V) h' ∧ n' = n) O h' n := fun _ _ a b => ⟨a, b, rfl⟩
  generalize (fun O h' n' => O = .inl (some (.int (vX3_look_0 lg a1 V))) ∧ q_ok (gX Γ V) h' ∧ n' = n) = Q at hQ ⊢
  refine q_aload_n dX3_look_0 rfl ?_
  refine v_geti 4 kX3 (by decide) wPX3_24 dX3_look_1 hok Hg.1 rfl ?_
  refine q_iconst (v := nI 1) dX3_look_4 rfl ?_
  refine q_isub dX3_look_5 ?_
  refine q_iload_n dX3_look_6 rfl ?_
  refine q_isub dX3_look_7 ?_
  refine q_bipush (v := nI 40) dX3_look_8 rfl ?_
  refine v_callS (M' := mJ9_floorMod_7cf53) [.int (((V lg 4) - (nI 1)) - (a1)), .int (nI 40)] [] dX3_look_10 wPX3_31 wTJ9_floorMod_7cf53 wNJ9 iJ9_floorMod_7cf53 oJ9_floorMod_7cf53 rfl hok (eJ9_fm Sc Γ n V (((V lg 4) - (nI 1)) - (a1))) (Nat.le_of_ble_eq_true rfl) (Nat.le_of_ble_eq_true rfl) (Nat.le_of_ble_eq_true rfl) rfl (fun h hok => ?_)
  have hfm69 := fm40_lt (((V lg 4) - (nI 1)) - (a1))
  refine t_istore [.ref lg, .int (a1), .int (nI 0), .int (nI (fm40 (((V lg 4) - (nI 1)) - (a1))))] (Or.inl ⟨3, rfl, rfl, dX3_look_13⟩) (by decide) rfl ?_
  refine q_iload_n dX3_look_14 rfl ?_
  refine q_tableIn (off := 25) (tgt := 40) dX3_look_15 (by decide) (by decide) (by decide) (by decide) ?_
  refine q_aload_n dX3_look_40 rfl ?_
  refine v_getr 0 kX3 (by decide) wPX3_9 dX3_look_41 hok Hg.1 rfl ?_
  refine q_iload_n dX3_look_44 rfl ?_
  refine v_iald (by decide) dX3_look_45 hok Hg.2.1 (j := fm40 (((V lg 4) - (nI 1)) - (a1))) (by omega) ?_
  exact q_iret dX3_look_46 rfl (rfl) (hQ _ _ (by dsimp only [vX3_look_0]) (hok))
def vX3_look_1 (lg : Nat) (a1 : Int32) (V : q_V) : Int32 := (V (lg + 2) (fm40 (((V lg 4) - (nI 1)) - (a1))))
set_option maxRecDepth 20000 in
set_option maxHeartbeats 4000000 in
theorem eX3_look_1 (Sc : q_S) (Γ : Nat → q_K) (n : Nat) (V : q_V) (lg : Nat) (Hg : sLg Γ lg) (a1 : Int32) : q_fn Sc Γ mX3_look [.ref lg, .int (a1), .int (nI 1)] n V (some (.int (vX3_look_1 lg a1 V))) V := by
  intro h hok
  show q_A Sc mX3_look 0 [.ref lg, .int (a1), .int (nI 1), .retAddr 0] [] h n 0 0 (fun O h' n' => O = .inl (some (.int (vX3_look_1 lg a1 V))) ∧ q_ok (gX Γ V) h' ∧ n' = n)
  have hQ : ∀ (O : q_O) (h' : q_H), O = .inl (some (.int (vX3_look_1 lg a1 V))) → q_ok (gX Γ V) h' → (fun O h' n' => O = .inl (some (.int (vX3_look_1 lg a1 V))) ∧ q_ok (gX Γ V) h' ∧ n' = n) O h' n := fun _ _ a b => ⟨a, b, rfl⟩
  generalize (fun O h' n' => O = .inl (some (.int (vX3_look_1 lg a1 V))) ∧ q_ok (gX Γ V) h' ∧ n' = n) = Q at hQ ⊢
  refine q_aload_n dX3_look_0 rfl ?_
  refine v_geti 4 kX3 (by decide) wPX3_24 dX3_look_1 hok Hg.1 rfl ?_
  refine q_iconst (v := nI 1) dX3_look_4 rfl ?_
  refine q_isub dX3_look_5 ?_
  refine q_iload_n dX3_look_6 rfl ?_
  refine q_isub dX3_look_7 ?_
  refine q_bipush (v := nI 40) dX3_look_8 rfl ?_
  refine v_callS (M' := mJ9_floorMod_7cf53) [.int (((V lg 4) - (nI 1)) - (a1)), .int (nI 40)] [] dX3_look_10 wPX3_31 wTJ9_floorMod_7cf53 wNJ9 iJ9_floorMod_7cf53 oJ9_floorMod_7cf53 rfl hok (eJ9_fm Sc Γ n V (((V lg 4) - (nI 1)) - (a1))) (Nat.le_of_ble_eq_true rfl) (Nat.le_of_ble_eq_true rfl) (Nat.le_of_ble_eq_true rfl) rfl (fun h hok => ?_)
  have hfm70 := fm40_lt (((V lg 4) - (nI 1)) - (a1))
  refine t_istore [.ref lg, .int (a1), .int (nI 1), .int (nI (fm40 (((V lg 4) - (nI 1)) - (a1))))] (Or.inl ⟨3, rfl, rfl, dX3_look_13⟩) (by decide) rfl ?_
  refine q_iload_n dX3_look_14 rfl ?_
  refine q_tableIn (off := 32) (tgt := 47) dX3_look_15 (by decide) (by decide) (by decide) (by decide) ?_
  refine q_aload_n dX3_look_47 rfl ?_
  refine v_getr 1 kX3 (by decide) wPX3_15 dX3_look_48 hok Hg.1 rfl ?_
  refine q_iload_n dX3_look_51 rfl ?_
  refine v_iald (by decide) dX3_look_52 hok Hg.2.2.1 (j := fm40 (((V lg 4) - (nI 1)) - (a1))) (by omega) ?_
  exact q_iret dX3_look_53 rfl (rfl) (hQ _ _ (by dsimp only [vX3_look_1]) (hok))
def vX3_look_2 (lg : Nat) (a1 : Int32) (V : q_V) : Int32 := (V (lg + 3) (fm40 (((V lg 4) - (nI 1)) - (a1))))
set_option maxRecDepth 20000 in
set_option maxHeartbeats 4000000 in
theorem eX3_look_2 (Sc : q_S) (Γ : Nat → q_K) (n : Nat) (V : q_V) (lg : Nat) (Hg : sLg Γ lg) (a1 : Int32) : q_fn Sc Γ mX3_look [.ref lg, .int (a1), .int (nI 2)] n V (some (.int (vX3_look_2 lg a1 V))) V := by
  intro h hok
  show q_A Sc mX3_look 0 [.ref lg, .int (a1), .int (nI 2), .retAddr 0] [] h n 0 0 (fun O h' n' => O = .inl (some (.int (vX3_look_2 lg a1 V))) ∧ q_ok (gX Γ V) h' ∧ n' = n)
  have hQ : ∀ (O : q_O) (h' : q_H), O = .inl (some (.int (vX3_look_2 lg a1 V))) → q_ok (gX Γ V) h' → (fun O h' n' => O = .inl (some (.int (vX3_look_2 lg a1 V))) ∧ q_ok (gX Γ V) h' ∧ n' = n) O h' n := fun _ _ a b => ⟨a, b, rfl⟩
  generalize (fun O h' n' => O = .inl (some (.int (vX3_look_2 lg a1 V))) ∧ q_ok (gX Γ V) h' ∧ n' = n) = Q at hQ ⊢
  refine q_aload_n dX3_look_0 rfl ?_
  refine v_geti 4 kX3 (by decide) wPX3_24 dX3_look_1 hok Hg.1 rfl ?_
  refine q_iconst (v := nI 1) dX3_look_4 rfl ?_
  refine q_isub dX3_look_5 ?_
  refine q_iload_n dX3_look_6 rfl ?_
  refine q_isub dX3_look_7 ?_
  refine q_bipush (v := nI 40) dX3_look_8 rfl ?_
  refine v_callS (M' := mJ9_floorMod_7cf53) [.int (((V lg 4) - (nI 1)) - (a1)), .int (nI 40)] [] dX3_look_10 wPX3_31 wTJ9_floorMod_7cf53 wNJ9 iJ9_floorMod_7cf53 oJ9_floorMod_7cf53 rfl hok (eJ9_fm Sc Γ n V (((V lg 4) - (nI 1)) - (a1))) (Nat.le_of_ble_eq_true rfl) (Nat.le_of_ble_eq_true rfl) (Nat.le_of_ble_eq_true rfl) rfl (fun h hok => ?_)
  have hfm71 := fm40_lt (((V lg 4) - (nI 1)) - (a1))
  refine t_istore [.ref lg, .int (a1), .int (nI 2), .int (nI (fm40 (((V lg 4) - (nI 1)) - (a1))))] (Or.inl ⟨3, rfl, rfl, dX3_look_13⟩) (by decide) rfl ?_
  refine q_iload_n dX3_look_14 rfl ?_
  refine q_tableIn (off := 39) (tgt := 54) dX3_look_15 (by decide) (by decide) (by decide) (by decide) ?_
  refine q_aload_n dX3_look_54 rfl ?_
  refine v_getr 2 kX3 (by decide) wPX3_18 dX3_look_55 hok Hg.1 rfl ?_
  refine q_iload_n dX3_look_58 rfl ?_
  refine v_iald (by decide) dX3_look_59 hok Hg.2.2.2.1 (j := fm40 (((V lg 4) - (nI 1)) - (a1))) (by omega) ?_
  exact q_iret dX3_look_60 rfl (rfl) (hQ _ _ (by dsimp only [vX3_look_2]) (hok))
def vX3_look_3 (lg : Nat) (a1 : Int32) (V : q_V) : Int32 := (V (lg + 4) (fm40 (((V lg 4) - (nI 1)) - (a1))))
set_option maxRecDepth 20000 in
set_option maxHeartbeats 4000000 in
theorem eX3_look_3 (Sc : q_S) (Γ : Nat → q_K) (n : Nat) (V : q_V) (lg : Nat) (Hg : sLg Γ lg) (a1 : Int32) : q_fn Sc Γ mX3_look [.ref lg, .int (a1), .int (nI 3)] n V (some (.int (vX3_look_3 lg a1 V))) V := by
  intro h hok
  show q_A Sc mX3_look 0 [.ref lg, .int (a1), .int (nI 3), .retAddr 0] [] h n 0 0 (fun O h' n' => O = .inl (some (.int (vX3_look_3 lg a1 V))) ∧ q_ok (gX Γ V) h' ∧ n' = n)
  have hQ : ∀ (O : q_O) (h' : q_H), O = .inl (some (.int (vX3_look_3 lg a1 V))) → q_ok (gX Γ V) h' → (fun O h' n' => O = .inl (some (.int (vX3_look_3 lg a1 V))) ∧ q_ok (gX Γ V) h' ∧ n' = n) O h' n := fun _ _ a b => ⟨a, b, rfl⟩
  generalize (fun O h' n' => O = .inl (some (.int (vX3_look_3 lg a1 V))) ∧ q_ok (gX Γ V) h' ∧ n' = n) = Q at hQ ⊢
  refine q_aload_n dX3_look_0 rfl ?_
  refine v_geti 4 kX3 (by decide) wPX3_24 dX3_look_1 hok Hg.1 rfl ?_
  refine q_iconst (v := nI 1) dX3_look_4 rfl ?_
  refine q_isub dX3_look_5 ?_
  refine q_iload_n dX3_look_6 rfl ?_
  refine q_isub dX3_look_7 ?_
  refine q_bipush (v := nI 40) dX3_look_8 rfl ?_
  refine v_callS (M' := mJ9_floorMod_7cf53) [.int (((V lg 4) - (nI 1)) - (a1)), .int (nI 40)] [] dX3_look_10 wPX3_31 wTJ9_floorMod_7cf53 wNJ9 iJ9_floorMod_7cf53 oJ9_floorMod_7cf53 rfl hok (eJ9_fm Sc Γ n V (((V lg 4) - (nI 1)) - (a1))) (Nat.le_of_ble_eq_true rfl) (Nat.le_of_ble_eq_true rfl) (Nat.le_of_ble_eq_true rfl) rfl (fun h hok => ?_)
  have hfm72 := fm40_lt (((V lg 4) - (nI 1)) - (a1))
  refine t_istore [.ref lg, .int (a1), .int (nI 3), .int (nI (fm40 (((V lg 4) - (nI 1)) - (a1))))] (Or.inl ⟨3, rfl, rfl, dX3_look_13⟩) (by decide) rfl ?_
  refine q_iload_n dX3_look_14 rfl ?_
  refine q_tableOut (tgt := 61) dX3_look_15 (by decide) (by decide) ?_
  refine q_aload_n dX3_look_61 rfl ?_
  refine v_getr 3 kX3 (by decide) wPX3_21 dX3_look_62 hok Hg.1 rfl ?_
  refine q_iload_n dX3_look_65 rfl ?_
  refine v_iald (by decide) dX3_look_66 hok Hg.2.2.2.2 (j := fm40 (((V lg 4) - (nI 1)) - (a1))) (by omega) ?_
  exact q_iret dX3_look_67 rfl (rfl) (hQ _ _ (by dsimp only [vX3_look_3]) (hok))
def fX2_reset (i : Nat) (V : q_V) : q_V := let B73 := fun (k73 : Nat) (s73 : q_V) => let W73 := s73; let V75 := vset W73 (i + 1) k73 (nI 0); let V76 := vset V75 (i + 2) k73 (nI 0); V76; let T73 := lp B73 8 0 V; T73
set_option maxRecDepth 20000 in
set_option maxHeartbeats 4000000 in
theorem eX2_reset (Sc : q_S) (Γ : Nat → q_K) (n : Nat) (V : q_V) (i : Nat) (H : sMb Γ i) : q_fn Sc Γ mX2_reset [.ref i] n V none (fX2_reset i V) := by
  intro h hok
  show q_A Sc mX2_reset 0 [.ref i, .retAddr 0] [] h n 0 0 (fun O h' n' => O = .inl none ∧ q_ok (gX Γ (fX2_reset i V)) h' ∧ n' = n)
  have hQ : ∀ (O : q_O) (h' : q_H), O = .inl none → q_ok (gX Γ (fX2_reset i V)) h' → (fun O h' n' => O = .inl none ∧ q_ok (gX Γ (fX2_reset i V)) h' ∧ n' = n) O h' n := fun _ _ a b => ⟨a, b, rfl⟩
  generalize (fun O h' n' => O = .inl none ∧ q_ok (gX Γ (fX2_reset i V)) h' ∧ n' = n) = Q at hQ ⊢
  refine q_iconst (v := nI 0) dX2_reset_0 rfl ?_
  refine t_istore [.ref i, .int (nI 0)] (Or.inl ⟨1, rfl, rfl, dX2_reset_1⟩) (by decide) rfl ?_
  obtain ⟨B73, hB73⟩ : ∃ B : Nat → q_V → q_V, B = (fun (k73 : Nat) (s73 : q_V) => let W73 := s73; (vset (vset W73 (i + 1) k73 (nI 0)) (i + 2) k73 (nI 0))) := ⟨_, rfl⟩
  have hl73 : ∀ (d73 k73 : Nat) (W73 : q_V) (h : q_H), k73 + d73 = 8 → lp B73 d73 k73 W73 = (lp B73 8 0 V) → q_ok (gX Γ W73) h → q_A Sc mX2_reset 2 [.ref i, .int (nI k73)] [] h n 0 0 Q := by
    intro d73
    induction d73 with
    | zero =>
      intro k73  W73 h e73 hT73 hok
      have hT73 : W73 = (lp B73 8 0 V) := hT73
      subst hT73
      refine q_iload_n dX2_reset_2 rfl ?_
      refine q_bipush (v := nI 8) dX2_reset_3 rfl ?_
      refine t_icmp_ge_n (tgt := 28) (by omega) (by omega) dX2_reset_5 (by decide) (fun c77 => ?_) (fun c77 => ?_)
      rotate_left
      · exact absurd c77 (by omega)
      exact q_vret dX2_reset_28 rfl (hQ _ _ (rfl) (by subst hB73; dsimp only [fX2_reset]; exact hok))
    | succ d73 ih73 =>
      intro k73  W73 h e73 hT73 hok
      refine q_iload_n dX2_reset_2 rfl ?_
      refine q_bipush (v := nI 8) dX2_reset_3 rfl ?_
      refine t_icmp_ge_n (tgt := 28) (by omega) (by omega) dX2_reset_5 (by decide) (fun c74 => ?_) (fun c74 => ?_)
      · exact absurd c74 (by omega)
      refine q_aload_n dX2_reset_8 rfl ?_
      refine v_getr 0 kX2 (by decide) wPX2_9 dX2_reset_9 hok H.1 rfl ?_
      refine q_iload_n dX2_reset_12 rfl ?_
      refine q_iconst (v := nI 0) dX2_reset_13 rfl ?_
      refine v_iast (by decide) dX2_reset_14 hok H.2.1 (j := k73) (by omega) (fun h hok => ?_)
      refine q_aload_n dX2_reset_15 rfl ?_
      refine v_getr 1 kX2 (by decide) wPX2_15 dX2_reset_16 hok H.1 rfl ?_
      refine q_iload_n dX2_reset_19 rfl ?_
      refine q_iconst (v := nI 0) dX2_reset_20 rfl ?_
      refine v_zast (by decide) dX2_reset_21 hok H.2.2 (j := k73) (by omega) rfl (fun h hok => ?_)
      refine t_iinc_n [.ref i, .int (nI (k73 + 1))] dX2_reset_22 rfl (by decide) rfl ?_
      refine q_goto (tgt := 2) dX2_reset_25 (by decide) ?_
      exact ih73 (k73 + 1) ((vset (vset W73 (i + 1) k73 (nI 0)) (i + 2) k73 (nI 0))) h (by omega) ((congrArg (lp B73 d73 (k73 + 1)) (show (vset (vset W73 (i + 1) k73 (nI 0)) (i + 2) k73 (nI 0)) = B73 k73 W73 from by rw [hB73]; dsimp only)).trans hT73) hok
  exact hl73 8 0  V h (by omega) rfl hok
end
section
def vX1_last (B : Nat) (V : q_V) : Int32 := (V B 3)
set_option maxRecDepth 20000 in
set_option maxHeartbeats 4000000 in
theorem eX1_last (Sc : q_S) (Γ : Nat → q_K) (n : Nat) (V : q_V) (B : Nat) (H : sLk Γ B) : q_fn Sc Γ mX1_last [.ref B] n V (some (.int (vX1_last B V))) V := by
  intro h hok
  show q_A Sc mX1_last 0 [.ref B] [] h n 0 0 (fun O h' n' => O = .inl (some (.int (vX1_last B V))) ∧ q_ok (gX Γ V) h' ∧ n' = n)
  have hQ : ∀ (O : q_O) (h' : q_H), O = .inl (some (.int (vX1_last B V))) → q_ok (gX Γ V) h' → (fun O h' n' => O = .inl (some (.int (vX1_last B V))) ∧ q_ok (gX Γ V) h' ∧ n' = n) O h' n := fun _ _ a b => ⟨a, b, rfl⟩
  generalize (fun O h' n' => O = .inl (some (.int (vX1_last B V))) ∧ q_ok (gX Γ V) h' ∧ n' = n) = Q at hQ ⊢
  refine q_aload_n dX1_last_0 rfl ?_
  refine v_geti 3 kX1 (by decide) wPX1_41 dX1_last_1 hok H.1 rfl ?_
  exact q_iret dX1_last_4 rfl (rfl) (hQ _ _ (by dsimp only [vX1_last]) (hok))
def vX1_grace (B : Nat) (V : q_V) : Int32 := (((V B 3) * (V B 4)) + (V B 5))
set_option maxRecDepth 20000 in
set_option maxHeartbeats 4000000 in
theorem eX1_grace (Sc : q_S) (Γ : Nat → q_K) (n : Nat) (V : q_V) (B : Nat) (H : sLk Γ B) : q_fn Sc Γ mX1_grace [.ref B] n V (some (.int (vX1_grace B V))) V := by
  intro h hok
  show q_A Sc mX1_grace 0 [.ref B] [] h n 0 0 (fun O h' n' => O = .inl (some (.int (vX1_grace B V))) ∧ q_ok (gX Γ V) h' ∧ n' = n)
  have hQ : ∀ (O : q_O) (h' : q_H), O = .inl (some (.int (vX1_grace B V))) → q_ok (gX Γ V) h' → (fun O h' n' => O = .inl (some (.int (vX1_grace B V))) ∧ q_ok (gX Γ V) h' ∧ n' = n) O h' n := fun _ _ a b => ⟨a, b, rfl⟩
  generalize (fun O h' n' => O = .inl (some (.int (vX1_grace B V))) ∧ q_ok (gX Γ V) h' ∧ n' = n) = Q at hQ ⊢
  refine q_aload_n dX1_grace_0 rfl ?_
  refine v_geti 3 kX1 (by decide) wPX1_41 dX1_grace_1 hok H.1 rfl ?_
  refine q_aload_n dX1_grace_4 rfl ?_
  refine v_geti 4 kX1 (by decide) wPX1_44 dX1_grace_5 hok H.1 rfl ?_
  refine q_imul dX1_grace_8 ?_
  refine q_aload_n dX1_grace_9 rfl ?_
  refine v_geti 5 kX1 (by decide) wPX1_47 dX1_grace_10 hok H.1 rfl ?_
  refine q_iadd dX1_grace_13 ?_
  exact q_iret dX1_grace_14 rfl (rfl) (hQ _ _ (by dsimp only [vX1_grace]) (hok))
def vX1_asks (B : Nat) (V : q_V) : Int32 := if (V B 6) = (nI 500) then ((nI 1)) else ((nI 0))
set_option maxRecDepth 20000 in
set_option maxHeartbeats 4000000 in
theorem eX1_asks (Sc : q_S) (Γ : Nat → q_K) (n : Nat) (V : q_V) (B : Nat) (H : sLk Γ B) : q_fn Sc Γ mX1_asks [.ref B] n V (some (.int (vX1_asks B V))) V := by
  intro h hok
  show q_A Sc mX1_asks 0 [.ref B] [] h n 0 0 (fun O h' n' => O = .inl (some (.int (vX1_asks B V))) ∧ q_ok (gX Γ V) h' ∧ n' = n)
  have hQ : ∀ (O : q_O) (h' : q_H), O = .inl (some (.int (vX1_asks B V))) → q_ok (gX Γ V) h' → (fun O h' n' => O = .inl (some (.int (vX1_asks B V))) ∧ q_ok (gX Γ V) h' ∧ n' = n) O h' n := fun _ _ a b => ⟨a, b, rfl⟩
  generalize (fun O h' n' => O = .inl (some (.int (vX1_asks B V))) ∧ q_ok (gX Γ V) h' ∧ n' = n) = Q at hQ ⊢
  refine q_aload_n dX1_asks_0 rfl ?_
  refine v_geti 6 kX1 (by decide) wPX1_34 dX1_asks_1 hok H.1 rfl ?_
  refine q_sipush (v := nI 500) dX1_asks_4 rfl ?_
  refine q_icmp_ne (tgt := 14) dX1_asks_7 (by decide) (fun c78 => ?_) (fun c78 => ?_)
  ·
    refine q_iconst (v := nI 0) dX1_asks_14 rfl ?_
    exact q_iret dX1_asks_15 rfl (rfl) (hQ _ _ (by dsimp only [vX1_asks]; rw [if_neg c78]) (hok))
  ·
    refine q_iconst (v := nI 1) dX1_asks_10 rfl ?_
    refine q_goto (tgt := 15) dX1_asks_11 (by decide) ?_
    exact q_iret dX1_asks_15 rfl (rfl) (hQ _ _ (by dsimp only [vX1_asks]; rw [if_pos c78]) (hok))
theorem bX1_asks (B : Nat) (V : q_V) : q_bl (vX1_asks B V) := by
  dsimp only [vX1_asks]
  repeat' split
  all_goals first | exact Or.inl rfl | exact Or.inr rfl
def fX1_set (B : Nat) (a1 : Int32) (a2 : Int32) (a3 : Int32) (V : q_V) : q_V := let V79 := vset V B 3 (a1); let V80 := vset V79 B 4 (a2); let V81 := vset V80 B 5 (a3); if (vX1_asks B V81) = 0 then (V81) else (let V83 := vset V81 B 7 (a2); V83)
set_option maxRecDepth 20000 in
set_option maxHeartbeats 4000000 in
theorem eX1_set (Sc : q_S) (Γ : Nat → q_K) (n : Nat) (V : q_V) (B : Nat) (H : sLk Γ B) (a1 : Int32) (a2 : Int32) (a3 : Int32) : q_fn Sc Γ mX1_set [.ref B, .int (a1), .int (a2), .int (a3)] n V none (fX1_set B a1 a2 a3 V) := by
  intro h hok
  show q_A Sc mX1_set 0 [.ref B, .int (a1), .int (a2), .int (a3)] [] h n 0 0 (fun O h' n' => O = .inl none ∧ q_ok (gX Γ (fX1_set B a1 a2 a3 V)) h' ∧ n' = n)
  have hQ : ∀ (O : q_O) (h' : q_H), O = .inl none → q_ok (gX Γ (fX1_set B a1 a2 a3 V)) h' → (fun O h' n' => O = .inl none ∧ q_ok (gX Γ (fX1_set B a1 a2 a3 V)) h' ∧ n' = n) O h' n := fun _ _ a b => ⟨a, b, rfl⟩
  generalize (fun O h' n' => O = .inl none ∧ q_ok (gX Γ (fX1_set B a1 a2 a3 V)) h' ∧ n' = n) = Q at hQ ⊢
  refine q_aload_n dX1_set_0 rfl ?_
  refine q_iload_n dX1_set_1 rfl ?_
  refine v_puti 3 kX1 (by decide) wPX1_41 rfl dX1_set_2 hok H.1 rfl ⟨rfl, rfl⟩ (fun h hok => ?_)
  refine q_aload_n dX1_set_5 rfl ?_
  refine q_iload_n dX1_set_6 rfl ?_
  refine v_puti 4 kX1 (by decide) wPX1_44 rfl dX1_set_7 hok H.1 rfl ⟨rfl, rfl⟩ (fun h hok => ?_)
  refine q_aload_n dX1_set_10 rfl ?_
  refine q_iload_n dX1_set_11 rfl ?_
  refine v_puti 5 kX1 (by decide) wPX1_47 rfl dX1_set_12 hok H.1 rfl ⟨rfl, rfl⟩ (fun h hok => ?_)
  refine q_aload_n dX1_set_15 rfl ?_
  refine v_callV (M' := mX1_asks) [] [] kX1 dX1_set_16 wPX1_50v wIX1_asks wSX1_asks iX1_asks oX1_asks rfl hok H.1 (eX1_asks Sc Γ n (vset (vset (vset V B 3 (a1)) B 4 (a2)) B 5 (a3)) B H) (Nat.le_of_ble_eq_true rfl) (Nat.le_of_ble_eq_true rfl) (Nat.le_of_ble_eq_true rfl) rfl (fun h hok => ?_)
  refine q_if_eq (tgt := 27) dX1_set_19 (by decide) (fun c82 => ?_) (fun c82 => ?_)
  ·
    exact q_vret dX1_set_27 rfl (hQ _ _ (rfl) (by dsimp only [fX1_set]; rw [if_pos c82]; exact hok))
  ·
    refine q_aload_n dX1_set_22 rfl ?_
    refine q_iload_n dX1_set_23 rfl ?_
    refine v_puti 7 kX1 (by decide) wPX1_54 rfl dX1_set_24 hok H.1 rfl ⟨rfl, rfl⟩ (fun h hok => ?_)
    exact q_vret dX1_set_27 rfl (hQ _ _ (rfl) (by dsimp only [fX1_set]; rw [if_neg c82]; exact hok))
def vX1_records (B : Nat) (V : q_V) : Int32 := let B84 := fun (k84 : Nat) (s84 : Int32) => let g84a := s84; if (vX0_state (B + 3 + 2 * k84) V) = (-1) then (g84a) else (g84a + Int32.ofInt (1)); let T84 := lp B84 8 0 (nI 0); T84
set_option maxRecDepth 20000 in
set_option maxHeartbeats 4000000 in
theorem eX1_records (Sc : q_S) (Γ : Nat → q_K) (n : Nat) (V : q_V) (B : Nat) (H : sLk Γ B) : q_fn Sc Γ mX1_records [.ref B] n V (some (.int (vX1_records B V))) V := by
  intro h hok
  show q_A Sc mX1_records 0 [.ref B, .retAddr 0, .retAddr 0] [] h n 0 0 (fun O h' n' => O = .inl (some (.int (vX1_records B V))) ∧ q_ok (gX Γ V) h' ∧ n' = n)
  have hQ : ∀ (O : q_O) (h' : q_H), O = .inl (some (.int (vX1_records B V))) → q_ok (gX Γ V) h' → (fun O h' n' => O = .inl (some (.int (vX1_records B V))) ∧ q_ok (gX Γ V) h' ∧ n' = n) O h' n := fun _ _ a b => ⟨a, b, rfl⟩
  generalize (fun O h' n' => O = .inl (some (.int (vX1_records B V))) ∧ q_ok (gX Γ V) h' ∧ n' = n) = Q at hQ ⊢
  refine q_iconst (v := nI 0) dX1_records_0 rfl ?_
  refine t_istore [.ref B, .int (nI 0), .retAddr 0] (Or.inl ⟨1, rfl, rfl, dX1_records_1⟩) (by decide) rfl ?_
  refine q_iconst (v := nI 0) dX1_records_2 rfl ?_
  refine t_istore [.ref B, .int (nI 0), .int (nI 0)] (Or.inl ⟨2, rfl, rfl, dX1_records_3⟩) (by decide) rfl ?_
  obtain ⟨B84, hB84⟩ : ∃ B : Nat → Int32 → Int32, B = (fun (k84 : Nat) (s84 : Int32) => let g84a := s84; if (vX0_state (B + 3 + 2 * k84) V) = (-1) then (g84a) else (g84a + Int32.ofInt (1))) := ⟨_, rfl⟩
  have hl84 : ∀ (d84 k84 : Nat) (g84a : Int32) (h : q_H), k84 + d84 = 8 → lp B84 d84 k84 g84a = (lp B84 8 0 (nI 0)) → q_ok (gX Γ V) h → q_A Sc mX1_records 4 [.ref B, .int (g84a), .int (nI k84)] [] h n 0 0 Q := by
    intro d84
    induction d84 with
    | zero =>
      intro k84 g84a h e84 hT84 hok
      have hT84 : g84a = (lp B84 8 0 (nI 0)) := hT84
      subst hT84
      refine q_iload_n dX1_records_4 rfl ?_
      refine q_bipush (v := nI 8) dX1_records_5 rfl ?_
      refine t_icmp_ge_n (tgt := 32) (by omega) (by omega) dX1_records_7 (by decide) (fun c87 => ?_) (fun c87 => ?_)
      rotate_left
      · exact absurd c87 (by omega)
      refine q_iload_n dX1_records_32 rfl ?_
      exact q_iret dX1_records_33 rfl (rfl) (hQ _ _ (by subst hB84; dsimp only [vX1_records]) (hok))
    | succ d84 ih84 =>
      intro k84 g84a h e84 hT84 hok
      refine q_iload_n dX1_records_4 rfl ?_
      refine q_bipush (v := nI 8) dX1_records_5 rfl ?_
      refine t_icmp_ge_n (tgt := 32) (by omega) (by omega) dX1_records_7 (by decide) (fun c85 => ?_) (fun c85 => ?_)
      · exact absurd c85 (by omega)
      refine q_aload_n dX1_records_10 rfl ?_
      refine v_getr 1 kX1 (by decide) wPX1_11 dX1_records_11 hok H.1 rfl ?_
      refine q_iload_n dX1_records_14 rfl ?_
      refine v_aald (j := k84) (z := B + 3 + 2 * k84) "GroupFilters$Filter" dX1_records_15 hok H.2.1 rfl (rg_at (by omega)) (by omega) ?_
      refine v_callV (M' := mX0_state) [] [] kX0 dX1_records_16 wPX1_57v wIX0_state wSX0_state iX0_state oX0_state rfl hok (H.2.2.2.1 k84 (by omega)).1 (eX0_state Sc Γ n V (B + 3 + 2 * k84) (H.2.2.2.1 k84 (by omega))) (Nat.le_of_ble_eq_true rfl) (Nat.le_of_ble_eq_true rfl) (Nat.le_of_ble_eq_true rfl) rfl (fun h hok => ?_)
      refine q_iconst (v := -1) dX1_records_19 rfl ?_
      refine q_icmp_eq (tgt := 26) dX1_records_20 (by decide) (fun c86 => ?_) (fun c86 => ?_)
      ·
        refine t_iinc_n [.ref B, .int (g84a), .int (nI (k84 + 1))] dX1_records_26 rfl (by decide) rfl ?_
        refine q_goto (tgt := 4) dX1_records_29 (by decide) ?_
        exact ih84 (k84 + 1) g84a h (by omega) ((congrArg (lp B84 d84 (k84 + 1)) (show g84a = B84 k84 g84a from by rw [hB84]; dsimp only; rw [if_pos c86])).trans hT84) hok
      ·
        refine t_iinc [.ref B, .int (g84a + Int32.ofInt (1)), .int (nI k84)] dX1_records_23 rfl rfl (by decide) rfl ?_
        refine t_iinc_n [.ref B, .int (g84a + Int32.ofInt (1)), .int (nI (k84 + 1))] dX1_records_26 rfl (by decide) rfl ?_
        refine q_goto (tgt := 4) dX1_records_29 (by decide) ?_
        exact ih84 (k84 + 1) (g84a + Int32.ofInt (1)) h (by omega) ((congrArg (lp B84 d84 (k84 + 1)) (show g84a + Int32.ofInt (1) = B84 k84 g84a from by rw [hB84]; dsimp only; rw [if_neg c86])).trans hT84) hok
  exact hl84 8 0 (nI 0) h (by omega) rfl hok
def fX1_yieldTo (B : Nat) (a1 : Int32) (V : q_V) : q_V := let V88 := vset V B 6 (vJ9_min_7cf53 (V B 6) a1 V); let V89 := vset V88 B 7 (((V88 B 3) * (V88 B 4)) + ((V88 B 5) / (nI 2))); V89
set_option maxRecDepth 20000 in
set_option maxHeartbeats 4000000 in
theorem eX1_yieldTo (Sc : q_S) (Γ : Nat → q_K) (n : Nat) (V : q_V) (B : Nat) (H : sLk Γ B) (a1 : Int32) : q_fn Sc Γ mX1_yieldTo [.ref B, .int (a1)] n V none (fX1_yieldTo B a1 V) := by
  intro h hok
  show q_A Sc mX1_yieldTo 0 [.ref B, .int (a1)] [] h n 0 0 (fun O h' n' => O = .inl none ∧ q_ok (gX Γ (fX1_yieldTo B a1 V)) h' ∧ n' = n)
  have hQ : ∀ (O : q_O) (h' : q_H), O = .inl none → q_ok (gX Γ (fX1_yieldTo B a1 V)) h' → (fun O h' n' => O = .inl none ∧ q_ok (gX Γ (fX1_yieldTo B a1 V)) h' ∧ n' = n) O h' n := fun _ _ a b => ⟨a, b, rfl⟩
  generalize (fun O h' n' => O = .inl none ∧ q_ok (gX Γ (fX1_yieldTo B a1 V)) h' ∧ n' = n) = Q at hQ ⊢
  refine q_aload_n dX1_yieldTo_0 rfl ?_
  refine q_aload_n dX1_yieldTo_1 rfl ?_
  refine v_geti 6 kX1 (by decide) wPX1_34 dX1_yieldTo_2 hok H.1 rfl ?_
  refine q_iload_n dX1_yieldTo_5 rfl ?_
  refine v_callS (M' := mJ9_min_7cf53) [.int (V B 6), .int (a1)] [.ref B] dX1_yieldTo_6 wPX1_61 wTJ9_min_7cf53 wNJ9 iJ9_min_7cf53 oJ9_min_7cf53 rfl hok (eJ9_min_7cf53 Sc Γ n V (V B 6) a1) (Nat.le_of_ble_eq_true rfl) (Nat.le_of_ble_eq_true rfl) (Nat.le_of_ble_eq_true rfl) rfl (fun h hok => ?_)
  refine v_puti 6 kX1 (by decide) wPX1_34 rfl dX1_yieldTo_9 hok H.1 rfl ⟨rfl, rfl⟩ (fun h hok => ?_)
  refine q_aload_n dX1_yieldTo_12 rfl ?_
  refine q_aload_n dX1_yieldTo_13 rfl ?_
  refine v_geti 3 kX1 (by decide) wPX1_41 dX1_yieldTo_14 hok H.1 rfl ?_
  refine q_aload_n dX1_yieldTo_17 rfl ?_
  refine v_geti 4 kX1 (by decide) wPX1_44 dX1_yieldTo_18 hok H.1 rfl ?_
  refine q_imul dX1_yieldTo_21 ?_
  refine q_aload_n dX1_yieldTo_22 rfl ?_
  refine v_geti 5 kX1 (by decide) wPX1_47 dX1_yieldTo_23 hok H.1 rfl ?_
  refine q_iconst (v := nI 2) dX1_yieldTo_26 rfl ?_
  refine q_idiv dX1_yieldTo_27 (by decide) ?_
  refine q_iadd dX1_yieldTo_28 ?_
  refine v_puti 7 kX1 (by decide) wPX1_54 rfl dX1_yieldTo_29 hok H.1 rfl ⟨rfl, rfl⟩ (fun h hok => ?_)
  exact q_vret dX1_yieldTo_32 rfl (hQ _ _ (rfl) (by dsimp only [fX1_yieldTo]; exact hok))
def fX1_ageFilters (B : Nat) (a1 : Int32) (V : q_V) : q_V := let B90 := fun (k90 : Nat) (s90 : q_V) => let W90 := s90; let V92 := fX0_age (B + 3 + 2 * k90) a1 W90; V92; let T90 := lp B90 8 0 V; T90
set_option maxRecDepth 20000 in
set_option maxHeartbeats 4000000 in
theorem eX1_ageFilters (Sc : q_S) (Γ : Nat → q_K) (n : Nat) (V : q_V) (B : Nat) (H : sLk Γ B) (a1 : Int32) : q_fn Sc Γ mX1_ageFilters [.ref B, .int (a1)] n V none (fX1_ageFilters B a1 V) := by
  intro h hok
  show q_A Sc mX1_ageFilters 0 [.ref B, .int (a1), .retAddr 0] [] h n 0 0 (fun O h' n' => O = .inl none ∧ q_ok (gX Γ (fX1_ageFilters B a1 V)) h' ∧ n' = n)
  have hQ : ∀ (O : q_O) (h' : q_H), O = .inl none → q_ok (gX Γ (fX1_ageFilters B a1 V)) h' → (fun O h' n' => O = .inl none ∧ q_ok (gX Γ (fX1_ageFilters B a1 V)) h' ∧ n' = n) O h' n := fun _ _ a b => ⟨a, b, rfl⟩
  generalize (fun O h' n' => O = .inl none ∧ q_ok (gX Γ (fX1_ageFilters B a1 V)) h' ∧ n' = n) = Q at hQ ⊢
  refine q_iconst (v := nI 0) dX1_ageFilters_0 rfl ?_
  refine t_istore [.ref B, .int (a1), .int (nI 0)] (Or.inl ⟨2, rfl, rfl, dX1_ageFilters_1⟩) (by decide) rfl ?_
  obtain ⟨B90, hB90⟩ : ∃ B : Nat → q_V → q_V, B = (fun (k90 : Nat) (s90 : q_V) => let W90 := s90; (fX0_age (B + 3 + 2 * k90) a1 W90)) := ⟨_, rfl⟩
  have hl90 : ∀ (d90 k90 : Nat) (W90 : q_V) (h : q_H), k90 + d90 = 8 → lp B90 d90 k90 W90 = (lp B90 8 0 V) → q_ok (gX Γ W90) h → q_A Sc mX1_ageFilters 2 [.ref B, .int (a1), .int (nI k90)] [] h n 0 0 Q := by
    intro d90
    induction d90 with
    | zero =>
      intro k90  W90 h e90 hT90 hok
      have hT90 : W90 = (lp B90 8 0 V) := hT90
      subst hT90
      refine q_iload_n dX1_ageFilters_2 rfl ?_
      refine q_bipush (v := nI 8) dX1_ageFilters_3 rfl ?_
      refine t_icmp_ge_n (tgt := 24) (by omega) (by omega) dX1_ageFilters_5 (by decide) (fun c93 => ?_) (fun c93 => ?_)
      rotate_left
      · exact absurd c93 (by omega)
      exact q_vret dX1_ageFilters_24 rfl (hQ _ _ (rfl) (by subst hB90; dsimp only [fX1_ageFilters]; exact hok))
    | succ d90 ih90 =>
      intro k90  W90 h e90 hT90 hok
      refine q_iload_n dX1_ageFilters_2 rfl ?_
      refine q_bipush (v := nI 8) dX1_ageFilters_3 rfl ?_
      refine t_icmp_ge_n (tgt := 24) (by omega) (by omega) dX1_ageFilters_5 (by decide) (fun c91 => ?_) (fun c91 => ?_)
      · exact absurd c91 (by omega)
      refine q_aload_n dX1_ageFilters_8 rfl ?_
      refine v_getr 1 kX1 (by decide) wPX1_11 dX1_ageFilters_9 hok H.1 rfl ?_
      refine q_iload_n dX1_ageFilters_12 rfl ?_
      refine v_aald (j := k90) (z := B + 3 + 2 * k90) "GroupFilters$Filter" dX1_ageFilters_13 hok H.2.1 rfl (rg_at (by omega)) (by omega) ?_
      refine q_iload_n dX1_ageFilters_14 rfl ?_
      refine v_callV (M' := mX0_age) [.int (a1)] [] kX0 dX1_ageFilters_15 wPX1_67v wIX0_age wSX0_age iX0_age oX0_age rfl hok (H.2.2.2.1 k90 (by omega)).1 (eX0_age Sc Γ n W90 (B + 3 + 2 * k90) (H.2.2.2.1 k90 (by omega)) a1) (Nat.le_of_ble_eq_true rfl) (Nat.le_of_ble_eq_true rfl) (Nat.le_of_ble_eq_true rfl) rfl (fun h hok => ?_)
      refine t_iinc_n [.ref B, .int (a1), .int (nI (k90 + 1))] dX1_ageFilters_18 rfl (by decide) rfl ?_
      refine q_goto (tgt := 2) dX1_ageFilters_21 (by decide) ?_
      exact ih90 (k90 + 1) ((fX0_age (B + 3 + 2 * k90) a1 W90)) h (by omega) ((congrArg (lp B90 d90 (k90 + 1)) (show (fX0_age (B + 3 + 2 * k90) a1 W90) = B90 k90 W90 from by rw [hB90]; dsimp only)).trans hT90) hok
  exact hl90 8 0  V h (by omega) rfl hok
def fX1_runClock (B : Nat) (lg : Nat) (a2 : Int32) (V : q_V) : q_V := let V94 := vset V B 7 ((V B 7) - (a2)); if (V94 B 7) ≤ 0 then (if (vX1_asks B V94) = 0 then (let V97 := vset V94 B 6 (nI 500); let V98 := vset V97 B 7 (V97 B 4); V98) else (let V99 := fX3_add lg (V94 B 0) (-1) (nI 0) V94; let V100 := vset V99 B 6 (nI 500); let V101 := vset V100 B 7 (V100 B 4); V101)) else (V94)
set_option maxRecDepth 20000 in
set_option maxHeartbeats 4000000 in
theorem eX1_runClock (Sc : q_S) (Γ : Nat → q_K) (n : Nat) (V : q_V) (B : Nat) (H : sLk Γ B) (lg : Nat) (Hg : sLg Γ lg) (a2 : Int32) : q_fn Sc Γ mX1_runClock [.ref B, .ref lg, .int (a2)] n V none (fX1_runClock B lg a2 V) := by
  intro h hok
  show q_A Sc mX1_runClock 0 [.ref B, .ref lg, .int (a2)] [] h n 0 0 (fun O h' n' => O = .inl none ∧ q_ok (gX Γ (fX1_runClock B lg a2 V)) h' ∧ n' = n)
  have hQ : ∀ (O : q_O) (h' : q_H), O = .inl none → q_ok (gX Γ (fX1_runClock B lg a2 V)) h' → (fun O h' n' => O = .inl none ∧ q_ok (gX Γ (fX1_runClock B lg a2 V)) h' ∧ n' = n) O h' n := fun _ _ a b => ⟨a, b, rfl⟩
  generalize (fun O h' n' => O = .inl none ∧ q_ok (gX Γ (fX1_runClock B lg a2 V)) h' ∧ n' = n) = Q at hQ ⊢
  refine q_aload_n dX1_runClock_0 rfl ?_
  refine q_dup dX1_runClock_1 rfl ?_
  refine v_geti 7 kX1 (by decide) wPX1_54 dX1_runClock_2 hok H.1 rfl ?_
  refine q_iload_n dX1_runClock_5 rfl ?_
  refine q_isub dX1_runClock_6 ?_
  refine v_puti 7 kX1 (by decide) wPX1_54 rfl dX1_runClock_7 hok H.1 rfl ⟨rfl, rfl⟩ (fun h hok => ?_)
  refine q_aload_n dX1_runClock_10 rfl ?_
  refine v_geti 7 kX1 (by decide) wPX1_54 dX1_runClock_11 hok H.1 rfl ?_
  refine q_if_le (tgt := 18) dX1_runClock_14 (by decide) (fun c95 => ?_) (fun c95 => ?_)
  ·
    refine q_aload_n dX1_runClock_18 rfl ?_
    refine v_callV (M' := mX1_asks) [] [] kX1 dX1_runClock_19 wPX1_50v wIX1_asks wSX1_asks iX1_asks oX1_asks rfl hok H.1 (eX1_asks Sc Γ n (vset V B 7 ((V B 7) - (a2))) B H) (Nat.le_of_ble_eq_true rfl) (Nat.le_of_ble_eq_true rfl) (Nat.le_of_ble_eq_true rfl) rfl (fun h hok => ?_)
    refine q_if_eq (tgt := 35) dX1_runClock_22 (by decide) (fun c96 => ?_) (fun c96 => ?_)
    ·
      refine q_aload_n dX1_runClock_35 rfl ?_
      refine q_sipush (v := nI 500) dX1_runClock_36 rfl ?_
      refine v_puti 6 kX1 (by decide) wPX1_34 rfl dX1_runClock_39 hok H.1 rfl ⟨rfl, rfl⟩ (fun h hok => ?_)
      refine q_aload_n dX1_runClock_42 rfl ?_
      refine q_aload_n dX1_runClock_43 rfl ?_
      refine v_geti 4 kX1 (by decide) wPX1_44 dX1_runClock_44 hok H.1 rfl ?_
      refine v_puti 7 kX1 (by decide) wPX1_54 rfl dX1_runClock_47 hok H.1 rfl ⟨rfl, rfl⟩ (fun h hok => ?_)
      exact q_vret dX1_runClock_50 rfl (hQ _ _ (rfl) (by dsimp only [fX1_runClock]; rw [if_pos c95, if_pos c96]; exact hok))
    ·
      refine q_aload_n dX1_runClock_25 rfl ?_
      refine q_aload_n dX1_runClock_26 rfl ?_
      refine v_geti 0 kX1 (by decide) wPX1_23 dX1_runClock_27 hok H.1 rfl ?_
      refine q_iconst (v := -1) dX1_runClock_30 rfl ?_
      refine q_iconst (v := nI 0) dX1_runClock_31 rfl ?_
      refine v_callV (M' := mX3_add) [.int ((vset V B 7 ((V B 7) - (a2))) B 0), .int (-1), .int (nI 0)] [] kX3 dX1_runClock_32 wPX1_71v wIX3_add wSX3_add iX3_add oX3_add rfl hok Hg.1 (eX3_add Sc Γ n (vset V B 7 ((V B 7) - (a2))) lg Hg ((vset V B 7 ((V B 7) - (a2))) B 0) (-1) (nI 0)) (Nat.le_of_ble_eq_true rfl) (Nat.le_of_ble_eq_true rfl) (Nat.le_of_ble_eq_true rfl) rfl (fun h hok => ?_)
      refine q_aload_n dX1_runClock_35 rfl ?_
      refine q_sipush (v := nI 500) dX1_runClock_36 rfl ?_
      refine v_puti 6 kX1 (by decide) wPX1_34 rfl dX1_runClock_39 hok H.1 rfl ⟨rfl, rfl⟩ (fun h hok => ?_)
      refine q_aload_n dX1_runClock_42 rfl ?_
      refine q_aload_n dX1_runClock_43 rfl ?_
      refine v_geti 4 kX1 (by decide) wPX1_44 dX1_runClock_44 hok H.1 rfl ?_
      refine v_puti 7 kX1 (by decide) wPX1_54 rfl dX1_runClock_47 hok H.1 rfl ⟨rfl, rfl⟩ (fun h hok => ?_)
      exact q_vret dX1_runClock_50 rfl (hQ _ _ (rfl) (by dsimp only [fX1_runClock]; rw [if_pos c95, if_neg c96]; exact hok))
  ·
    exact q_vret dX1_runClock_17 rfl (hQ _ _ (rfl) (by dsimp only [fX1_runClock]; rw [if_neg c95]; exact hok))
def fX1_askSources (B : Nat) (lg : Nat) (a2 : Nat) (a3 : Int32) (V : q_V) : q_V := if a3 = 0 then (V) else (if (vX1_asks B V) = 0 then (V) else (let V104 := fX3_add lg (V B 0) (nI a2) a3 V; let V105 := fX0_lowerTimers (B + 3 + 2 * a2) a3 (vX1_last B V104) V104; V105))
set_option maxRecDepth 20000 in
set_option maxHeartbeats 4000000 in
theorem eX1_askSources (Sc : q_S) (Γ : Nat → q_K) (n : Nat) (V : q_V) (B : Nat) (H : sLk Γ B) (lg : Nat) (Hg : sLg Γ lg) (a2 : Nat) (b2 : a2 < 8) (a3 : Int32) : q_fn Sc Γ mX1_askSources [.ref B, .ref lg, .int (nI a2), .int (a3)] n V none (fX1_askSources B lg a2 a3 V) := by
  intro h hok
  show q_A Sc mX1_askSources 0 [.ref B, .ref lg, .int (nI a2), .int (a3)] [] h n 0 0 (fun O h' n' => O = .inl none ∧ q_ok (gX Γ (fX1_askSources B lg a2 a3 V)) h' ∧ n' = n)
  have hQ : ∀ (O : q_O) (h' : q_H), O = .inl none → q_ok (gX Γ (fX1_askSources B lg a2 a3 V)) h' → (fun O h' n' => O = .inl none ∧ q_ok (gX Γ (fX1_askSources B lg a2 a3 V)) h' ∧ n' = n) O h' n := fun _ _ a b => ⟨a, b, rfl⟩
  generalize (fun O h' n' => O = .inl none ∧ q_ok (gX Γ (fX1_askSources B lg a2 a3 V)) h' ∧ n' = n) = Q at hQ ⊢
  refine q_iload_n dX1_askSources_0 rfl ?_
  refine q_if_eq (tgt := 35) dX1_askSources_1 (by decide) (fun c102 => ?_) (fun c102 => ?_)
  ·
    exact q_vret dX1_askSources_35 rfl (hQ _ _ (rfl) (by dsimp only [fX1_askSources]; rw [if_pos c102]; exact hok))
  ·
    refine q_aload_n dX1_askSources_4 rfl ?_
    refine v_callV (M' := mX1_asks) [] [] kX1 dX1_askSources_5 wPX1_50v wIX1_asks wSX1_asks iX1_asks oX1_asks rfl hok H.1 (eX1_asks Sc Γ n V B H) (Nat.le_of_ble_eq_true rfl) (Nat.le_of_ble_eq_true rfl) (Nat.le_of_ble_eq_true rfl) rfl (fun h hok => ?_)
    refine q_if_eq (tgt := 35) dX1_askSources_8 (by decide) (fun c103 => ?_) (fun c103 => ?_)
    ·
      exact q_vret dX1_askSources_35 rfl (hQ _ _ (rfl) (by dsimp only [fX1_askSources]; rw [if_neg c102, if_pos c103]; exact hok))
    ·
      refine q_aload_n dX1_askSources_11 rfl ?_
      refine q_aload_n dX1_askSources_12 rfl ?_
      refine v_geti 0 kX1 (by decide) wPX1_23 dX1_askSources_13 hok H.1 rfl ?_
      refine q_iload_n dX1_askSources_16 rfl ?_
      refine q_iload_n dX1_askSources_17 rfl ?_
      refine v_callV (M' := mX3_add) [.int (V B 0), .int (nI a2), .int (a3)] [] kX3 dX1_askSources_18 wPX1_71v wIX3_add wSX3_add iX3_add oX3_add rfl hok Hg.1 (eX3_add Sc Γ n V lg Hg (V B 0) (nI a2) a3) (Nat.le_of_ble_eq_true rfl) (Nat.le_of_ble_eq_true rfl) (Nat.le_of_ble_eq_true rfl) rfl (fun h hok => ?_)
      refine q_aload_n dX1_askSources_21 rfl ?_
      refine v_getr 1 kX1 (by decide) wPX1_11 dX1_askSources_22 hok H.1 rfl ?_
      refine q_iload_n dX1_askSources_25 rfl ?_
      refine v_aald (j := a2) (z := B + 3 + 2 * a2) "GroupFilters$Filter" dX1_askSources_26 hok H.2.1 rfl (rg_at (by omega)) (by omega) ?_
      refine q_iload_n dX1_askSources_27 rfl ?_
      refine q_aload_n dX1_askSources_28 rfl ?_
      refine v_callV (M' := mX1_last) [] [.int (a3), .ref (B + 3 + 2 * a2)] kX1 dX1_askSources_29 wPX1_120v wIX1_last wSX1_last iX1_last oX1_last rfl hok H.1 (eX1_last Sc Γ n (fX3_add lg (V B 0) (nI a2) a3 V) B H) (Nat.le_of_ble_eq_true rfl) (Nat.le_of_ble_eq_true rfl) (Nat.le_of_ble_eq_true rfl) rfl (fun h hok => ?_)
      refine v_callV (M' := mX0_lowerTimers) [.int (a3), .int (vX1_last B (fX3_add lg (V B 0) (nI a2) a3 V))] [] kX0 dX1_askSources_32 wPX1_123v wIX0_lowerTimers wSX0_lowerTimers iX0_lowerTimers oX0_lowerTimers rfl hok (H.2.2.2.1 a2 (by omega)).1 (eX0_lowerTimers Sc Γ n (fX3_add lg (V B 0) (nI a2) a3 V) (B + 3 + 2 * a2) (H.2.2.2.1 a2 (by omega)) a3 (vX1_last B (fX3_add lg (V B 0) (nI a2) a3 V))) (Nat.le_of_ble_eq_true rfl) (Nat.le_of_ble_eq_true rfl) (Nat.le_of_ble_eq_true rfl) rfl (fun h hok => ?_)
      exact q_vret dX1_askSources_35 rfl (hQ _ _ (rfl) (by dsimp only [fX1_askSources]; rw [if_neg c102, if_neg c103]; exact hok))
def fX1_askGroup (B : Nat) (lg : Nat) (a2 : Nat) (V : q_V) : q_V := if (vX1_asks B V) = 0 then (V) else (let V107 := fX3_add lg (V B 0) (nI a2) (nI 0) V; let V108 := fX0_lowerOwnTimer (B + 3 + 2 * a2) (vX1_last B V107) V107; V108)
set_option maxRecDepth 20000 in
set_option maxHeartbeats 4000000 in
theorem eX1_askGroup (Sc : q_S) (Γ : Nat → q_K) (n : Nat) (V : q_V) (B : Nat) (H : sLk Γ B) (lg : Nat) (Hg : sLg Γ lg) (a2 : Nat) (b2 : a2 < 8) : q_fn Sc Γ mX1_askGroup [.ref B, .ref lg, .int (nI a2)] n V none (fX1_askGroup B lg a2 V) := by
  intro h hok
  show q_A Sc mX1_askGroup 0 [.ref B, .ref lg, .int (nI a2)] [] h n 0 0 (fun O h' n' => O = .inl none ∧ q_ok (gX Γ (fX1_askGroup B lg a2 V)) h' ∧ n' = n)
  have hQ : ∀ (O : q_O) (h' : q_H), O = .inl none → q_ok (gX Γ (fX1_askGroup B lg a2 V)) h' → (fun O h' n' => O = .inl none ∧ q_ok (gX Γ (fX1_askGroup B lg a2 V)) h' ∧ n' = n) O h' n := fun _ _ a b => ⟨a, b, rfl⟩
  generalize (fun O h' n' => O = .inl none ∧ q_ok (gX Γ (fX1_askGroup B lg a2 V)) h' ∧ n' = n) = Q at hQ ⊢
  refine q_aload_n dX1_askGroup_0 rfl ?_
  refine v_callV (M' := mX1_asks) [] [] kX1 dX1_askGroup_1 wPX1_50v wIX1_asks wSX1_asks iX1_asks oX1_asks rfl hok H.1 (eX1_asks Sc Γ n V B H) (Nat.le_of_ble_eq_true rfl) (Nat.le_of_ble_eq_true rfl) (Nat.le_of_ble_eq_true rfl) rfl (fun h hok => ?_)
  refine q_if_eq (tgt := 30) dX1_askGroup_4 (by decide) (fun c106 => ?_) (fun c106 => ?_)
  ·
    exact q_vret dX1_askGroup_30 rfl (hQ _ _ (rfl) (by dsimp only [fX1_askGroup]; rw [if_pos c106]; exact hok))
  ·
    refine q_aload_n dX1_askGroup_7 rfl ?_
    refine q_aload_n dX1_askGroup_8 rfl ?_
    refine v_geti 0 kX1 (by decide) wPX1_23 dX1_askGroup_9 hok H.1 rfl ?_
    refine q_iload_n dX1_askGroup_12 rfl ?_
    refine q_iconst (v := nI 0) dX1_askGroup_13 rfl ?_
    refine v_callV (M' := mX3_add) [.int (V B 0), .int (nI a2), .int (nI 0)] [] kX3 dX1_askGroup_14 wPX1_71v wIX3_add wSX3_add iX3_add oX3_add rfl hok Hg.1 (eX3_add Sc Γ n V lg Hg (V B 0) (nI a2) (nI 0)) (Nat.le_of_ble_eq_true rfl) (Nat.le_of_ble_eq_true rfl) (Nat.le_of_ble_eq_true rfl) rfl (fun h hok => ?_)
    refine q_aload_n dX1_askGroup_17 rfl ?_
    refine v_getr 1 kX1 (by decide) wPX1_11 dX1_askGroup_18 hok H.1 rfl ?_
    refine q_iload_n dX1_askGroup_21 rfl ?_
    refine v_aald (j := a2) (z := B + 3 + 2 * a2) "GroupFilters$Filter" dX1_askGroup_22 hok H.2.1 rfl (rg_at (by omega)) (by omega) ?_
    refine q_aload_n dX1_askGroup_23 rfl ?_
    refine v_callV (M' := mX1_last) [] [.ref (B + 3 + 2 * a2)] kX1 dX1_askGroup_24 wPX1_120v wIX1_last wSX1_last iX1_last oX1_last rfl hok H.1 (eX1_last Sc Γ n (fX3_add lg (V B 0) (nI a2) (nI 0) V) B H) (Nat.le_of_ble_eq_true rfl) (Nat.le_of_ble_eq_true rfl) (Nat.le_of_ble_eq_true rfl) rfl (fun h hok => ?_)
    refine v_callV (M' := mX0_lowerOwnTimer) [.int (vX1_last B (fX3_add lg (V B 0) (nI a2) (nI 0) V))] [] kX0 dX1_askGroup_27 wPX1_126v wIX0_lowerOwnTimer wSX0_lowerOwnTimer iX0_lowerOwnTimer oX0_lowerOwnTimer rfl hok (H.2.2.2.1 a2 (by omega)).1 (eX0_lowerOwnTimer Sc Γ n (fX3_add lg (V B 0) (nI a2) (nI 0) V) (B + 3 + 2 * a2) (H.2.2.2.1 a2 (by omega)) (vX1_last B (fX3_add lg (V B 0) (nI a2) (nI 0) V))) (Nat.le_of_ble_eq_true rfl) (Nat.le_of_ble_eq_true rfl) (Nat.le_of_ble_eq_true rfl) rfl (fun h hok => ?_)
    exact q_vret dX1_askGroup_30 rfl (hQ _ _ (rfl) (by dsimp only [fX1_askGroup]; rw [if_neg c106]; exact hok))
def fX1_hearToIn (B : Nat) (lg : Nat) (a2 : Nat) (a3 : Int32) (V : q_V) : q_V := let V109 := fX0_allow (B + 3 + 2 * a2) a3 (vX1_grace B V) V; let V110 := fX1_askSources B lg a2 ((V (B + 3 + 2 * a2) 2) &&& ((a3) ^^^ (-1))) V109; if (V110 (B + 3 + 2 * a2) 1) = 0 then (V110) else (let V112 := fX1_askGroup B lg a2 V110; V112)
set_option maxRecDepth 20000 in
set_option maxHeartbeats 4000000 in
theorem eX1_hearToIn (Sc : q_S) (Γ : Nat → q_K) (n : Nat) (V : q_V) (B : Nat) (H : sLk Γ B) (lg : Nat) (Hg : sLg Γ lg) (a2 : Nat) (b2 : a2 < 8) (a3 : Int32) : q_fn Sc Γ mX1_hearToIn [.ref B, .ref lg, .int (nI a2), .int (a3)] n V none (fX1_hearToIn B lg a2 a3 V) := by
  intro h hok
  show q_A Sc mX1_hearToIn 0 [.ref B, .ref lg, .int (nI a2), .int (a3), .retAddr 0, .retAddr 0] [] h n 0 0 (fun O h' n' => O = .inl none ∧ q_ok (gX Γ (fX1_hearToIn B lg a2 a3 V)) h' ∧ n' = n)
  have hQ : ∀ (O : q_O) (h' : q_H), O = .inl none → q_ok (gX Γ (fX1_hearToIn B lg a2 a3 V)) h' → (fun O h' n' => O = .inl none ∧ q_ok (gX Γ (fX1_hearToIn B lg a2 a3 V)) h' ∧ n' = n) O h' n := fun _ _ a b => ⟨a, b, rfl⟩
  generalize (fun O h' n' => O = .inl none ∧ q_ok (gX Γ (fX1_hearToIn B lg a2 a3 V)) h' ∧ n' = n) = Q at hQ ⊢
  refine q_aload_n dX1_hearToIn_0 rfl ?_
  refine v_getr 1 kX1 (by decide) wPX1_11 dX1_hearToIn_1 hok H.1 rfl ?_
  refine q_iload_n dX1_hearToIn_4 rfl ?_
  refine v_aald (j := a2) (z := B + 3 + 2 * a2) "GroupFilters$Filter" dX1_hearToIn_5 hok H.2.1 rfl (rg_at (by omega)) (by omega) ?_
  refine q_astore dX1_hearToIn_6 (by decide) ?_
  refine q_aload dX1_hearToIn_8 rfl ?_
  refine v_geti 2 kX0 (by decide) wPX1_96 dX1_hearToIn_10 hok (H.2.2.2.1 a2 (by omega)).1 rfl ?_
  refine q_iload_n dX1_hearToIn_13 rfl ?_
  refine q_iconst (v := -1) dX1_hearToIn_14 rfl ?_
  refine q_ixor dX1_hearToIn_15 ?_
  refine q_iand dX1_hearToIn_16 ?_
  refine t_istore [.ref B, .ref lg, .int (nI a2), .int (a3), .ref (B + 3 + 2 * a2), .int ((V (B + 3 + 2 * a2) 2) &&& ((a3) ^^^ (-1)))] (Or.inr ⟨rfl, dX1_hearToIn_17⟩) (by decide) rfl ?_
  refine q_aload dX1_hearToIn_19 rfl ?_
  refine q_iload_n dX1_hearToIn_21 rfl ?_
  refine q_aload_n dX1_hearToIn_22 rfl ?_
  refine v_callV (M' := mX1_grace) [] [.int (a3), .ref (B + 3 + 2 * a2)] kX1 dX1_hearToIn_23 wPX1_76v wIX1_grace wSX1_grace iX1_grace oX1_grace rfl hok H.1 (eX1_grace Sc Γ n V B H) (Nat.le_of_ble_eq_true rfl) (Nat.le_of_ble_eq_true rfl) (Nat.le_of_ble_eq_true rfl) rfl (fun h hok => ?_)
  refine v_callV (M' := mX0_allow) [.int (a3), .int (vX1_grace B V)] [] kX0 dX1_hearToIn_26 wPX1_92v wIX0_allow wSX0_allow iX0_allow oX0_allow rfl hok (H.2.2.2.1 a2 (by omega)).1 (eX0_allow Sc Γ n V (B + 3 + 2 * a2) (H.2.2.2.1 a2 (by omega)) a3 (vX1_grace B V)) (Nat.le_of_ble_eq_true rfl) (Nat.le_of_ble_eq_true rfl) (Nat.le_of_ble_eq_true rfl) rfl (fun h hok => ?_)
  refine q_aload_n dX1_hearToIn_29 rfl ?_
  refine q_aload_n dX1_hearToIn_30 rfl ?_
  refine q_iload_n dX1_hearToIn_31 rfl ?_
  refine q_iload dX1_hearToIn_32 rfl ?_
  refine v_callV (M' := mX1_askSources) [.ref lg, .int (nI a2), .int ((V (B + 3 + 2 * a2) 2) &&& ((a3) ^^^ (-1)))] [] kX1 dX1_hearToIn_34 wPX1_99v wIX1_askSources wSX1_askSources iX1_askSources oX1_askSources rfl hok H.1 (eX1_askSources Sc Γ n (fX0_allow (B + 3 + 2 * a2) a3 (vX1_grace B V) V) B H lg Hg a2 (by omega) ((V (B + 3 + 2 * a2) 2) &&& ((a3) ^^^ (-1)))) (Nat.le_of_ble_eq_true rfl) (Nat.le_of_ble_eq_true rfl) (Nat.le_of_ble_eq_true rfl) rfl (fun h hok => ?_)
  refine q_aload dX1_hearToIn_37 rfl ?_
  refine v_geti 1 kX0 (by decide) wPX1_102 dX1_hearToIn_39 hok (H.2.2.2.1 a2 (by omega)).1 rfl ?_
  refine q_if_eq (tgt := 51) dX1_hearToIn_42 (by decide) (fun c111 => ?_) (fun c111 => ?_)
  ·
    exact q_vret dX1_hearToIn_51 rfl (hQ _ _ (rfl) (by dsimp only [fX1_hearToIn]; rw [if_pos c111]; exact hok))
  ·
    refine q_aload_n dX1_hearToIn_45 rfl ?_
    refine q_aload_n dX1_hearToIn_46 rfl ?_
    refine q_iload_n dX1_hearToIn_47 rfl ?_
    refine v_callV (M' := mX1_askGroup) [.ref lg, .int (nI a2)] [] kX1 dX1_hearToIn_48 wPX1_106v wIX1_askGroup wSX1_askGroup iX1_askGroup oX1_askGroup rfl hok H.1 (eX1_askGroup Sc Γ n (fX1_askSources B lg a2 ((V (B + 3 + 2 * a2) 2) &&& ((a3) ^^^ (-1))) (fX0_allow (B + 3 + 2 * a2) a3 (vX1_grace B V) V)) B H lg Hg a2 (by omega)) (Nat.le_of_ble_eq_true rfl) (Nat.le_of_ble_eq_true rfl) (Nat.le_of_ble_eq_true rfl) rfl (fun h hok => ?_)
    exact q_vret dX1_hearToIn_51 rfl (hQ _ _ (rfl) (by dsimp only [fX1_hearToIn]; rw [if_neg c111]; exact hok))
def fX1_hearToEx (B : Nat) (lg : Nat) (a2 : Nat) (a3 : Int32) (V : q_V) : q_V := let V113 := fX0_exclude (B + 3 + 2 * a2) a3 (V (B + 3 + 2 * a2) 4) (vX1_grace B V) V; let V114 := fX1_askSources B lg a2 (vX0_doubted (B + 3 + 2 * a2) a3 V) V113; V114
set_option maxRecDepth 20000 in
set_option maxHeartbeats 4000000 in
theorem eX1_hearToEx (Sc : q_S) (Γ : Nat → q_K) (n : Nat) (V : q_V) (B : Nat) (H : sLk Γ B) (lg : Nat) (Hg : sLg Γ lg) (a2 : Nat) (b2 : a2 < 8) (a3 : Int32) : q_fn Sc Γ mX1_hearToEx [.ref B, .ref lg, .int (nI a2), .int (a3)] n V none (fX1_hearToEx B lg a2 a3 V) := by
  intro h hok
  show q_A Sc mX1_hearToEx 0 [.ref B, .ref lg, .int (nI a2), .int (a3), .retAddr 0, .retAddr 0] [] h n 0 0 (fun O h' n' => O = .inl none ∧ q_ok (gX Γ (fX1_hearToEx B lg a2 a3 V)) h' ∧ n' = n)
  have hQ : ∀ (O : q_O) (h' : q_H), O = .inl none → q_ok (gX Γ (fX1_hearToEx B lg a2 a3 V)) h' → (fun O h' n' => O = .inl none ∧ q_ok (gX Γ (fX1_hearToEx B lg a2 a3 V)) h' ∧ n' = n) O h' n := fun _ _ a b => ⟨a, b, rfl⟩
  generalize (fun O h' n' => O = .inl none ∧ q_ok (gX Γ (fX1_hearToEx B lg a2 a3 V)) h' ∧ n' = n) = Q at hQ ⊢
  refine q_aload_n dX1_hearToEx_0 rfl ?_
  refine v_getr 1 kX1 (by decide) wPX1_11 dX1_hearToEx_1 hok H.1 rfl ?_
  refine q_iload_n dX1_hearToEx_4 rfl ?_
  refine v_aald (j := a2) (z := B + 3 + 2 * a2) "GroupFilters$Filter" dX1_hearToEx_5 hok H.2.1 rfl (rg_at (by omega)) (by omega) ?_
  refine q_astore dX1_hearToEx_6 (by decide) ?_
  refine q_aload dX1_hearToEx_8 rfl ?_
  refine q_iload_n dX1_hearToEx_10 rfl ?_
  refine v_callV (M' := mX0_doubted) [.int (a3)] [] kX0 dX1_hearToEx_11 wPX1_110v wIX0_doubted wSX0_doubted iX0_doubted oX0_doubted rfl hok (H.2.2.2.1 a2 (by omega)).1 (eX0_doubted Sc Γ n V (B + 3 + 2 * a2) (H.2.2.2.1 a2 (by omega)) a3) (Nat.le_of_ble_eq_true rfl) (Nat.le_of_ble_eq_true rfl) (Nat.le_of_ble_eq_true rfl) rfl (fun h hok => ?_)
  refine t_istore [.ref B, .ref lg, .int (nI a2), .int (a3), .ref (B + 3 + 2 * a2), .int (vX0_doubted (B + 3 + 2 * a2) a3 V)] (Or.inr ⟨rfl, dX1_hearToEx_14⟩) (by decide) rfl ?_
  refine q_aload dX1_hearToEx_16 rfl ?_
  refine q_iload_n dX1_hearToEx_18 rfl ?_
  refine q_aload dX1_hearToEx_19 rfl ?_
  refine v_geti 4 kX0 (by decide) wPX1_114 dX1_hearToEx_21 hok (H.2.2.2.1 a2 (by omega)).1 rfl ?_
  refine q_aload_n dX1_hearToEx_24 rfl ?_
  refine v_callV (M' := mX1_grace) [] [.int (V (B + 3 + 2 * a2) 4), .int (a3), .ref (B + 3 + 2 * a2)] kX1 dX1_hearToEx_25 wPX1_76v wIX1_grace wSX1_grace iX1_grace oX1_grace rfl hok H.1 (eX1_grace Sc Γ n V B H) (Nat.le_of_ble_eq_true rfl) (Nat.le_of_ble_eq_true rfl) (Nat.le_of_ble_eq_true rfl) rfl (fun h hok => ?_)
  refine v_callV (M' := mX0_exclude) [.int (a3), .int (V (B + 3 + 2 * a2) 4), .int (vX1_grace B V)] [] kX0 dX1_hearToEx_28 wPX1_79v wIX0_exclude wSX0_exclude iX0_exclude oX0_exclude rfl hok (H.2.2.2.1 a2 (by omega)).1 (eX0_exclude Sc Γ n V (B + 3 + 2 * a2) (H.2.2.2.1 a2 (by omega)) a3 (V (B + 3 + 2 * a2) 4) (vX1_grace B V)) (Nat.le_of_ble_eq_true rfl) (Nat.le_of_ble_eq_true rfl) (Nat.le_of_ble_eq_true rfl) rfl (fun h hok => ?_)
  refine q_aload_n dX1_hearToEx_31 rfl ?_
  refine q_aload_n dX1_hearToEx_32 rfl ?_
  refine q_iload_n dX1_hearToEx_33 rfl ?_
  refine q_iload dX1_hearToEx_34 rfl ?_
  refine v_callV (M' := mX1_askSources) [.ref lg, .int (nI a2), .int (vX0_doubted (B + 3 + 2 * a2) a3 V)] [] kX1 dX1_hearToEx_36 wPX1_99v wIX1_askSources wSX1_askSources iX1_askSources oX1_askSources rfl hok H.1 (eX1_askSources Sc Γ n (fX0_exclude (B + 3 + 2 * a2) a3 (V (B + 3 + 2 * a2) 4) (vX1_grace B V) V) B H lg Hg a2 (by omega) (vX0_doubted (B + 3 + 2 * a2) a3 V)) (Nat.le_of_ble_eq_true rfl) (Nat.le_of_ble_eq_true rfl) (Nat.le_of_ble_eq_true rfl) rfl (fun h hok => ?_)
  exact q_vret dX1_hearToEx_39 rfl (hQ _ _ (rfl) (by dsimp only [fX1_hearToEx]; exact hok))
def fX1_hearBlock (B : Nat) (lg : Nat) (a2 : Nat) (a3 : Int32) (V : q_V) : q_V := let V115 := fX0_block (B + 3 + 2 * a2) a3 V; let V116 := fX1_askSources B lg a2 (vX0_doubted (B + 3 + 2 * a2) a3 V) V115; V116
set_option maxRecDepth 20000 in
set_option maxHeartbeats 4000000 in
theorem eX1_hearBlock (Sc : q_S) (Γ : Nat → q_K) (n : Nat) (V : q_V) (B : Nat) (H : sLk Γ B) (lg : Nat) (Hg : sLg Γ lg) (a2 : Nat) (b2 : a2 < 8) (a3 : Int32) : q_fn Sc Γ mX1_hearBlock [.ref B, .ref lg, .int (nI a2), .int (a3)] n V none (fX1_hearBlock B lg a2 a3 V) := by
  intro h hok
  show q_A Sc mX1_hearBlock 0 [.ref B, .ref lg, .int (nI a2), .int (a3), .retAddr 0, .retAddr 0] [] h n 0 0 (fun O h' n' => O = .inl none ∧ q_ok (gX Γ (fX1_hearBlock B lg a2 a3 V)) h' ∧ n' = n)
  have hQ : ∀ (O : q_O) (h' : q_H), O = .inl none → q_ok (gX Γ (fX1_hearBlock B lg a2 a3 V)) h' → (fun O h' n' => O = .inl none ∧ q_ok (gX Γ (fX1_hearBlock B lg a2 a3 V)) h' ∧ n' = n) O h' n := fun _ _ a b => ⟨a, b, rfl⟩
  generalize (fun O h' n' => O = .inl none ∧ q_ok (gX Γ (fX1_hearBlock B lg a2 a3 V)) h' ∧ n' = n) = Q at hQ ⊢
  refine q_aload_n dX1_hearBlock_0 rfl ?_
  refine v_getr 1 kX1 (by decide) wPX1_11 dX1_hearBlock_1 hok H.1 rfl ?_
  refine q_iload_n dX1_hearBlock_4 rfl ?_
  refine v_aald (j := a2) (z := B + 3 + 2 * a2) "GroupFilters$Filter" dX1_hearBlock_5 hok H.2.1 rfl (rg_at (by omega)) (by omega) ?_
  refine q_astore dX1_hearBlock_6 (by decide) ?_
  refine q_aload dX1_hearBlock_8 rfl ?_
  refine q_iload_n dX1_hearBlock_10 rfl ?_
  refine v_callV (M' := mX0_doubted) [.int (a3)] [] kX0 dX1_hearBlock_11 wPX1_110v wIX0_doubted wSX0_doubted iX0_doubted oX0_doubted rfl hok (H.2.2.2.1 a2 (by omega)).1 (eX0_doubted Sc Γ n V (B + 3 + 2 * a2) (H.2.2.2.1 a2 (by omega)) a3) (Nat.le_of_ble_eq_true rfl) (Nat.le_of_ble_eq_true rfl) (Nat.le_of_ble_eq_true rfl) rfl (fun h hok => ?_)
  refine t_istore [.ref B, .ref lg, .int (nI a2), .int (a3), .ref (B + 3 + 2 * a2), .int (vX0_doubted (B + 3 + 2 * a2) a3 V)] (Or.inr ⟨rfl, dX1_hearBlock_14⟩) (by decide) rfl ?_
  refine q_aload dX1_hearBlock_16 rfl ?_
  refine q_iload_n dX1_hearBlock_18 rfl ?_
  refine v_callV (M' := mX0_block) [.int (a3)] [] kX0 dX1_hearBlock_19 wPX1_117v wIX0_block wSX0_block iX0_block oX0_block rfl hok (H.2.2.2.1 a2 (by omega)).1 (eX0_block Sc Γ n V (B + 3 + 2 * a2) (H.2.2.2.1 a2 (by omega)) a3) (Nat.le_of_ble_eq_true rfl) (Nat.le_of_ble_eq_true rfl) (Nat.le_of_ble_eq_true rfl) rfl (fun h hok => ?_)
  refine q_aload_n dX1_hearBlock_22 rfl ?_
  refine q_aload_n dX1_hearBlock_23 rfl ?_
  refine q_iload_n dX1_hearBlock_24 rfl ?_
  refine q_iload dX1_hearBlock_25 rfl ?_
  refine v_callV (M' := mX1_askSources) [.ref lg, .int (nI a2), .int (vX0_doubted (B + 3 + 2 * a2) a3 V)] [] kX1 dX1_hearBlock_27 wPX1_99v wIX1_askSources wSX1_askSources iX1_askSources oX1_askSources rfl hok H.1 (eX1_askSources Sc Γ n (fX0_block (B + 3 + 2 * a2) a3 V) B H lg Hg a2 (by omega) (vX0_doubted (B + 3 + 2 * a2) a3 V)) (Nat.le_of_ble_eq_true rfl) (Nat.le_of_ble_eq_true rfl) (Nat.le_of_ble_eq_true rfl) rfl (fun h hok => ?_)
  exact q_vret dX1_hearBlock_30 rfl (hQ _ _ (rfl) (by dsimp only [fX1_hearBlock]; exact hok))
end
section
def fX1_hearReport_0 (B : Nat) (lg : Nat) (a2 : Nat) (a4 : Int32) (V : q_V) : q_V := let V117 := fX0_allow (B + 3 + 2 * a2) a4 (vX1_grace B V) V; V117
set_option maxRecDepth 20000 in
set_option maxHeartbeats 4000000 in
theorem eX1_hearReport_0 (Sc : q_S) (Γ : Nat → q_K) (n : Nat) (V : q_V) (B : Nat) (H : sLk Γ B) (lg : Nat) (Hg : sLg Γ lg) (a2 : Nat) (b2 : a2 < 8) (a4 : Int32) : q_fn Sc Γ mX1_hearReport [.ref B, .ref lg, .int (nI a2), .int (nI 0), .int (a4)] n V none (fX1_hearReport_0 B lg a2 a4 V) := by
  intro h hok
  show q_A Sc mX1_hearReport 0 [.ref B, .ref lg, .int (nI a2), .int (nI 0), .int (a4)] [] h n 0 0 (fun O h' n' => O = .inl none ∧ q_ok (gX Γ (fX1_hearReport_0 B lg a2 a4 V)) h' ∧ n' = n)
  have hQ : ∀ (O : q_O) (h' : q_H), O = .inl none → q_ok (gX Γ (fX1_hearReport_0 B lg a2 a4 V)) h' → (fun O h' n' => O = .inl none ∧ q_ok (gX Γ (fX1_hearReport_0 B lg a2 a4 V)) h' ∧ n' = n) O h' n := fun _ _ a b => ⟨a, b, rfl⟩
  generalize (fun O h' n' => O = .inl none ∧ q_ok (gX Γ (fX1_hearReport_0 B lg a2 a4 V)) h' ∧ n' = n) = Q at hQ ⊢
  refine q_iload_n dX1_hearReport_0 rfl ?_
  refine q_tableOut (tgt := 91) dX1_hearReport_1 (by decide) (by decide) ?_
  refine q_aload_n dX1_hearReport_91 rfl ?_
  refine v_getr 1 kX1 (by decide) wPX1_11 dX1_hearReport_92 hok H.1 rfl ?_
  refine q_iload_n dX1_hearReport_95 rfl ?_
  refine v_aald (j := a2) (z := B + 3 + 2 * a2) "GroupFilters$Filter" dX1_hearReport_96 hok H.2.1 rfl (rg_at (by omega)) (by omega) ?_
  refine q_iload dX1_hearReport_97 rfl ?_
  refine q_aload_n dX1_hearReport_99 rfl ?_
  refine v_callV (M' := mX1_grace) [] [.int (a4), .ref (B + 3 + 2 * a2)] kX1 dX1_hearReport_100 wPX1_76v wIX1_grace wSX1_grace iX1_grace oX1_grace rfl hok H.1 (eX1_grace Sc Γ n V B H) (Nat.le_of_ble_eq_true rfl) (Nat.le_of_ble_eq_true rfl) (Nat.le_of_ble_eq_true rfl) rfl (fun h hok => ?_)
  refine v_callV (M' := mX0_allow) [.int (a4), .int (vX1_grace B V)] [] kX0 dX1_hearReport_103 wPX1_92v wIX0_allow wSX0_allow iX0_allow oX0_allow rfl hok (H.2.2.2.1 a2 (by omega)).1 (eX0_allow Sc Γ n V (B + 3 + 2 * a2) (H.2.2.2.1 a2 (by omega)) a4 (vX1_grace B V)) (Nat.le_of_ble_eq_true rfl) (Nat.le_of_ble_eq_true rfl) (Nat.le_of_ble_eq_true rfl) rfl (fun h hok => ?_)
  exact q_vret dX1_hearReport_106 rfl (hQ _ _ (rfl) (by dsimp only [fX1_hearReport_0]; exact hok))
def fX1_hearReport_1 (B : Nat) (lg : Nat) (a2 : Nat) (a4 : Int32) (V : q_V) : q_V := let V118 := fX0_exclude (B + 3 + 2 * a2) a4 (vX1_grace B V) (vX1_grace B V) V; V118
set_option maxRecDepth 20000 in
set_option maxHeartbeats 4000000 in
theorem eX1_hearReport_1 (Sc : q_S) (Γ : Nat → q_K) (n : Nat) (V : q_V) (B : Nat) (H : sLk Γ B) (lg : Nat) (Hg : sLg Γ lg) (a2 : Nat) (b2 : a2 < 8) (a4 : Int32) : q_fn Sc Γ mX1_hearReport [.ref B, .ref lg, .int (nI a2), .int (nI 1), .int (a4)] n V none (fX1_hearReport_1 B lg a2 a4 V) := by
  intro h hok
  show q_A Sc mX1_hearReport 0 [.ref B, .ref lg, .int (nI a2), .int (nI 1), .int (a4)] [] h n 0 0 (fun O h' n' => O = .inl none ∧ q_ok (gX Γ (fX1_hearReport_1 B lg a2 a4 V)) h' ∧ n' = n)
  have hQ : ∀ (O : q_O) (h' : q_H), O = .inl none → q_ok (gX Γ (fX1_hearReport_1 B lg a2 a4 V)) h' → (fun O h' n' => O = .inl none ∧ q_ok (gX Γ (fX1_hearReport_1 B lg a2 a4 V)) h' ∧ n' = n) O h' n := fun _ _ a b => ⟨a, b, rfl⟩
  generalize (fun O h' n' => O = .inl none ∧ q_ok (gX Γ (fX1_hearReport_1 B lg a2 a4 V)) h' ∧ n' = n) = Q at hQ ⊢
  refine q_iload_n dX1_hearReport_0 rfl ?_
  refine q_tableIn (off := 35) (tgt := 36) dX1_hearReport_1 (by decide) (by decide) (by decide) (by decide) ?_
  refine q_aload_n dX1_hearReport_36 rfl ?_
  refine v_getr 1 kX1 (by decide) wPX1_11 dX1_hearReport_37 hok H.1 rfl ?_
  refine q_iload_n dX1_hearReport_40 rfl ?_
  refine v_aald (j := a2) (z := B + 3 + 2 * a2) "GroupFilters$Filter" dX1_hearReport_41 hok H.2.1 rfl (rg_at (by omega)) (by omega) ?_
  refine q_iload dX1_hearReport_42 rfl ?_
  refine q_aload_n dX1_hearReport_44 rfl ?_
  refine v_callV (M' := mX1_grace) [] [.int (a4), .ref (B + 3 + 2 * a2)] kX1 dX1_hearReport_45 wPX1_76v wIX1_grace wSX1_grace iX1_grace oX1_grace rfl hok H.1 (eX1_grace Sc Γ n V B H) (Nat.le_of_ble_eq_true rfl) (Nat.le_of_ble_eq_true rfl) (Nat.le_of_ble_eq_true rfl) rfl (fun h hok => ?_)
  refine q_aload_n dX1_hearReport_48 rfl ?_
  refine v_callV (M' := mX1_grace) [] [.int (vX1_grace B V), .int (a4), .ref (B + 3 + 2 * a2)] kX1 dX1_hearReport_49 wPX1_76v wIX1_grace wSX1_grace iX1_grace oX1_grace rfl hok H.1 (eX1_grace Sc Γ n V B H) (Nat.le_of_ble_eq_true rfl) (Nat.le_of_ble_eq_true rfl) (Nat.le_of_ble_eq_true rfl) rfl (fun h hok => ?_)
  refine v_callV (M' := mX0_exclude) [.int (a4), .int (vX1_grace B V), .int (vX1_grace B V)] [] kX0 dX1_hearReport_52 wPX1_79v wIX0_exclude wSX0_exclude iX0_exclude oX0_exclude rfl hok (H.2.2.2.1 a2 (by omega)).1 (eX0_exclude Sc Γ n V (B + 3 + 2 * a2) (H.2.2.2.1 a2 (by omega)) a4 (vX1_grace B V) (vX1_grace B V)) (Nat.le_of_ble_eq_true rfl) (Nat.le_of_ble_eq_true rfl) (Nat.le_of_ble_eq_true rfl) rfl (fun h hok => ?_)
  refine q_goto (tgt := 106) dX1_hearReport_55 (by decide) ?_
  exact q_vret dX1_hearReport_106 rfl (hQ _ _ (rfl) (by dsimp only [fX1_hearReport_1]; exact hok))
def fX1_hearReport_2 (B : Nat) (lg : Nat) (a2 : Nat) (a4 : Int32) (V : q_V) : q_V := let V119 := fX1_hearToIn B lg a2 a4 V; V119
set_option maxRecDepth 20000 in
set_option maxHeartbeats 4000000 in
theorem eX1_hearReport_2 (Sc : q_S) (Γ : Nat → q_K) (n : Nat) (V : q_V) (B : Nat) (H : sLk Γ B) (lg : Nat) (Hg : sLg Γ lg) (a2 : Nat) (b2 : a2 < 8) (a4 : Int32) : q_fn Sc Γ mX1_hearReport [.ref B, .ref lg, .int (nI a2), .int (nI 2), .int (a4)] n V none (fX1_hearReport_2 B lg a2 a4 V) := by
  intro h hok
  show q_A Sc mX1_hearReport 0 [.ref B, .ref lg, .int (nI a2), .int (nI 2), .int (a4)] [] h n 0 0 (fun O h' n' => O = .inl none ∧ q_ok (gX Γ (fX1_hearReport_2 B lg a2 a4 V)) h' ∧ n' = n)
  have hQ : ∀ (O : q_O) (h' : q_H), O = .inl none → q_ok (gX Γ (fX1_hearReport_2 B lg a2 a4 V)) h' → (fun O h' n' => O = .inl none ∧ q_ok (gX Γ (fX1_hearReport_2 B lg a2 a4 V)) h' ∧ n' = n) O h' n := fun _ _ a b => ⟨a, b, rfl⟩
  generalize (fun O h' n' => O = .inl none ∧ q_ok (gX Γ (fX1_hearReport_2 B lg a2 a4 V)) h' ∧ n' = n) = Q at hQ ⊢
  refine q_iload_n dX1_hearReport_0 rfl ?_
  refine q_tableIn (off := 57) (tgt := 58) dX1_hearReport_1 (by decide) (by decide) (by decide) (by decide) ?_
  refine q_aload_n dX1_hearReport_58 rfl ?_
  refine q_aload_n dX1_hearReport_59 rfl ?_
  refine q_iload_n dX1_hearReport_60 rfl ?_
  refine q_iload dX1_hearReport_61 rfl ?_
  refine v_callV (M' := mX1_hearToIn) [.ref lg, .int (nI a2), .int (a4)] [] kX1 dX1_hearReport_63 wPX1_82v wIX1_hearToIn wSX1_hearToIn iX1_hearToIn oX1_hearToIn rfl hok H.1 (eX1_hearToIn Sc Γ n V B H lg Hg a2 (by omega) a4) (Nat.le_of_ble_eq_true rfl) (Nat.le_of_ble_eq_true rfl) (Nat.le_of_ble_eq_true rfl) rfl (fun h hok => ?_)
  refine q_goto (tgt := 106) dX1_hearReport_66 (by decide) ?_
  exact q_vret dX1_hearReport_106 rfl (hQ _ _ (rfl) (by dsimp only [fX1_hearReport_2]; exact hok))
def fX1_hearReport_3 (B : Nat) (lg : Nat) (a2 : Nat) (a4 : Int32) (V : q_V) : q_V := let V120 := fX1_hearToEx B lg a2 a4 V; V120
set_option maxRecDepth 20000 in
set_option maxHeartbeats 4000000 in
theorem eX1_hearReport_3 (Sc : q_S) (Γ : Nat → q_K) (n : Nat) (V : q_V) (B : Nat) (H : sLk Γ B) (lg : Nat) (Hg : sLg Γ lg) (a2 : Nat) (b2 : a2 < 8) (a4 : Int32) : q_fn Sc Γ mX1_hearReport [.ref B, .ref lg, .int (nI a2), .int (nI 3), .int (a4)] n V none (fX1_hearReport_3 B lg a2 a4 V) := by
  intro h hok
  show q_A Sc mX1_hearReport 0 [.ref B, .ref lg, .int (nI a2), .int (nI 3), .int (a4)] [] h n 0 0 (fun O h' n' => O = .inl none ∧ q_ok (gX Γ (fX1_hearReport_3 B lg a2 a4 V)) h' ∧ n' = n)
  have hQ : ∀ (O : q_O) (h' : q_H), O = .inl none → q_ok (gX Γ (fX1_hearReport_3 B lg a2 a4 V)) h' → (fun O h' n' => O = .inl none ∧ q_ok (gX Γ (fX1_hearReport_3 B lg a2 a4 V)) h' ∧ n' = n) O h' n := fun _ _ a b => ⟨a, b, rfl⟩
  generalize (fun O h' n' => O = .inl none ∧ q_ok (gX Γ (fX1_hearReport_3 B lg a2 a4 V)) h' ∧ n' = n) = Q at hQ ⊢
  refine q_iload_n dX1_hearReport_0 rfl ?_
  refine q_tableIn (off := 68) (tgt := 69) dX1_hearReport_1 (by decide) (by decide) (by decide) (by decide) ?_
  refine q_aload_n dX1_hearReport_69 rfl ?_
  refine q_aload_n dX1_hearReport_70 rfl ?_
  refine q_iload_n dX1_hearReport_71 rfl ?_
  refine q_iload dX1_hearReport_72 rfl ?_
  refine v_callV (M' := mX1_hearToEx) [.ref lg, .int (nI a2), .int (a4)] [] kX1 dX1_hearReport_74 wPX1_86v wIX1_hearToEx wSX1_hearToEx iX1_hearToEx oX1_hearToEx rfl hok H.1 (eX1_hearToEx Sc Γ n V B H lg Hg a2 (by omega) a4) (Nat.le_of_ble_eq_true rfl) (Nat.le_of_ble_eq_true rfl) (Nat.le_of_ble_eq_true rfl) rfl (fun h hok => ?_)
  refine q_goto (tgt := 106) dX1_hearReport_77 (by decide) ?_
  exact q_vret dX1_hearReport_106 rfl (hQ _ _ (rfl) (by dsimp only [fX1_hearReport_3]; exact hok))
def fX1_hearReport_4 (B : Nat) (lg : Nat) (a2 : Nat) (a4 : Int32) (V : q_V) : q_V := let V121 := fX0_allow (B + 3 + 2 * a2) a4 (vX1_grace B V) V; V121
set_option maxRecDepth 20000 in
set_option maxHeartbeats 4000000 in
theorem eX1_hearReport_4 (Sc : q_S) (Γ : Nat → q_K) (n : Nat) (V : q_V) (B : Nat) (H : sLk Γ B) (lg : Nat) (Hg : sLg Γ lg) (a2 : Nat) (b2 : a2 < 8) (a4 : Int32) : q_fn Sc Γ mX1_hearReport [.ref B, .ref lg, .int (nI a2), .int (nI 4), .int (a4)] n V none (fX1_hearReport_4 B lg a2 a4 V) := by
  intro h hok
  show q_A Sc mX1_hearReport 0 [.ref B, .ref lg, .int (nI a2), .int (nI 4), .int (a4)] [] h n 0 0 (fun O h' n' => O = .inl none ∧ q_ok (gX Γ (fX1_hearReport_4 B lg a2 a4 V)) h' ∧ n' = n)
  have hQ : ∀ (O : q_O) (h' : q_H), O = .inl none → q_ok (gX Γ (fX1_hearReport_4 B lg a2 a4 V)) h' → (fun O h' n' => O = .inl none ∧ q_ok (gX Γ (fX1_hearReport_4 B lg a2 a4 V)) h' ∧ n' = n) O h' n := fun _ _ a b => ⟨a, b, rfl⟩
  generalize (fun O h' n' => O = .inl none ∧ q_ok (gX Γ (fX1_hearReport_4 B lg a2 a4 V)) h' ∧ n' = n) = Q at hQ ⊢
  refine q_iload_n dX1_hearReport_0 rfl ?_
  refine q_tableIn (off := 90) (tgt := 91) dX1_hearReport_1 (by decide) (by decide) (by decide) (by decide) ?_
  refine q_aload_n dX1_hearReport_91 rfl ?_
  refine v_getr 1 kX1 (by decide) wPX1_11 dX1_hearReport_92 hok H.1 rfl ?_
  refine q_iload_n dX1_hearReport_95 rfl ?_
  refine v_aald (j := a2) (z := B + 3 + 2 * a2) "GroupFilters$Filter" dX1_hearReport_96 hok H.2.1 rfl (rg_at (by omega)) (by omega) ?_
  refine q_iload dX1_hearReport_97 rfl ?_
  refine q_aload_n dX1_hearReport_99 rfl ?_
  refine v_callV (M' := mX1_grace) [] [.int (a4), .ref (B + 3 + 2 * a2)] kX1 dX1_hearReport_100 wPX1_76v wIX1_grace wSX1_grace iX1_grace oX1_grace rfl hok H.1 (eX1_grace Sc Γ n V B H) (Nat.le_of_ble_eq_true rfl) (Nat.le_of_ble_eq_true rfl) (Nat.le_of_ble_eq_true rfl) rfl (fun h hok => ?_)
  refine v_callV (M' := mX0_allow) [.int (a4), .int (vX1_grace B V)] [] kX0 dX1_hearReport_103 wPX1_92v wIX0_allow wSX0_allow iX0_allow oX0_allow rfl hok (H.2.2.2.1 a2 (by omega)).1 (eX0_allow Sc Γ n V (B + 3 + 2 * a2) (H.2.2.2.1 a2 (by omega)) a4 (vX1_grace B V)) (Nat.le_of_ble_eq_true rfl) (Nat.le_of_ble_eq_true rfl) (Nat.le_of_ble_eq_true rfl) rfl (fun h hok => ?_)
  exact q_vret dX1_hearReport_106 rfl (hQ _ _ (rfl) (by dsimp only [fX1_hearReport_4]; exact hok))
def fX1_hearReport_5 (B : Nat) (lg : Nat) (a2 : Nat) (a4 : Int32) (V : q_V) : q_V := let V122 := fX1_hearBlock B lg a2 a4 V; V122
set_option maxRecDepth 20000 in
set_option maxHeartbeats 4000000 in
theorem eX1_hearReport_5 (Sc : q_S) (Γ : Nat → q_K) (n : Nat) (V : q_V) (B : Nat) (H : sLk Γ B) (lg : Nat) (Hg : sLg Γ lg) (a2 : Nat) (b2 : a2 < 8) (a4 : Int32) : q_fn Sc Γ mX1_hearReport [.ref B, .ref lg, .int (nI a2), .int (nI 5), .int (a4)] n V none (fX1_hearReport_5 B lg a2 a4 V) := by
  intro h hok
  show q_A Sc mX1_hearReport 0 [.ref B, .ref lg, .int (nI a2), .int (nI 5), .int (a4)] [] h n 0 0 (fun O h' n' => O = .inl none ∧ q_ok (gX Γ (fX1_hearReport_5 B lg a2 a4 V)) h' ∧ n' = n)
  have hQ : ∀ (O : q_O) (h' : q_H), O = .inl none → q_ok (gX Γ (fX1_hearReport_5 B lg a2 a4 V)) h' → (fun O h' n' => O = .inl none ∧ q_ok (gX Γ (fX1_hearReport_5 B lg a2 a4 V)) h' ∧ n' = n) O h' n := fun _ _ a b => ⟨a, b, rfl⟩
  generalize (fun O h' n' => O = .inl none ∧ q_ok (gX Γ (fX1_hearReport_5 B lg a2 a4 V)) h' ∧ n' = n) = Q at hQ ⊢
  refine q_iload_n dX1_hearReport_0 rfl ?_
  refine q_tableIn (off := 79) (tgt := 80) dX1_hearReport_1 (by decide) (by decide) (by decide) (by decide) ?_
  refine q_aload_n dX1_hearReport_80 rfl ?_
  refine q_aload_n dX1_hearReport_81 rfl ?_
  refine q_iload_n dX1_hearReport_82 rfl ?_
  refine q_iload dX1_hearReport_83 rfl ?_
  refine v_callV (M' := mX1_hearBlock) [.ref lg, .int (nI a2), .int (a4)] [] kX1 dX1_hearReport_85 wPX1_89v wIX1_hearBlock wSX1_hearBlock iX1_hearBlock oX1_hearBlock rfl hok H.1 (eX1_hearBlock Sc Γ n V B H lg Hg a2 (by omega) a4) (Nat.le_of_ble_eq_true rfl) (Nat.le_of_ble_eq_true rfl) (Nat.le_of_ble_eq_true rfl) rfl (fun h hok => ?_)
  refine q_goto (tgt := 106) dX1_hearReport_88 (by decide) ?_
  exact q_vret dX1_hearReport_106 rfl (hQ _ _ (rfl) (by dsimp only [fX1_hearReport_5]; exact hok))
def fX1_hearQuery (B : Nat) (a1 : Nat) (a2 : Int32) (V : q_V) : q_V := if a2 = 0 then (let V125 := fX0_lowerOwnTimer (B + 3 + 2 * a1) (vX1_last B V) V; V125) else (let V124 := fX0_lowerTimers (B + 3 + 2 * a1) a2 (vX1_last B V) V; V124)
set_option maxRecDepth 20000 in
set_option maxHeartbeats 4000000 in
theorem eX1_hearQuery (Sc : q_S) (Γ : Nat → q_K) (n : Nat) (V : q_V) (B : Nat) (H : sLk Γ B) (a1 : Nat) (b1 : a1 < 8) (a2 : Int32) : q_fn Sc Γ mX1_hearQuery [.ref B, .int (nI a1), .int (a2)] n V none (fX1_hearQuery B a1 a2 V) := by
  intro h hok
  show q_A Sc mX1_hearQuery 0 [.ref B, .int (nI a1), .int (a2)] [] h n 0 0 (fun O h' n' => O = .inl none ∧ q_ok (gX Γ (fX1_hearQuery B a1 a2 V)) h' ∧ n' = n)
  have hQ : ∀ (O : q_O) (h' : q_H), O = .inl none → q_ok (gX Γ (fX1_hearQuery B a1 a2 V)) h' → (fun O h' n' => O = .inl none ∧ q_ok (gX Γ (fX1_hearQuery B a1 a2 V)) h' ∧ n' = n) O h' n := fun _ _ a b => ⟨a, b, rfl⟩
  generalize (fun O h' n' => O = .inl none ∧ q_ok (gX Γ (fX1_hearQuery B a1 a2 V)) h' ∧ n' = n) = Q at hQ ⊢
  refine q_iload_n dX1_hearQuery_0 rfl ?_
  refine q_if_ne (tgt := 20) dX1_hearQuery_1 (by decide) (fun c123 => ?_) (fun c123 => ?_)
  ·
    refine q_aload_n dX1_hearQuery_20 rfl ?_
    refine v_getr 1 kX1 (by decide) wPX1_11 dX1_hearQuery_21 hok H.1 rfl ?_
    refine q_iload_n dX1_hearQuery_24 rfl ?_
    refine v_aald (j := a1) (z := B + 3 + 2 * a1) "GroupFilters$Filter" dX1_hearQuery_25 hok H.2.1 rfl (rg_at (by omega)) (by omega) ?_
    refine q_iload_n dX1_hearQuery_26 rfl ?_
    refine q_aload_n dX1_hearQuery_27 rfl ?_
    refine v_callV (M' := mX1_last) [] [.int (a2), .ref (B + 3 + 2 * a1)] kX1 dX1_hearQuery_28 wPX1_120v wIX1_last wSX1_last iX1_last oX1_last rfl hok H.1 (eX1_last Sc Γ n V B H) (Nat.le_of_ble_eq_true rfl) (Nat.le_of_ble_eq_true rfl) (Nat.le_of_ble_eq_true rfl) rfl (fun h hok => ?_)
    refine v_callV (M' := mX0_lowerTimers) [.int (a2), .int (vX1_last B V)] [] kX0 dX1_hearQuery_31 wPX1_123v wIX0_lowerTimers wSX0_lowerTimers iX0_lowerTimers oX0_lowerTimers rfl hok (H.2.2.2.1 a1 (by omega)).1 (eX0_lowerTimers Sc Γ n V (B + 3 + 2 * a1) (H.2.2.2.1 a1 (by omega)) a2 (vX1_last B V)) (Nat.le_of_ble_eq_true rfl) (Nat.le_of_ble_eq_true rfl) (Nat.le_of_ble_eq_true rfl) rfl (fun h hok => ?_)
    exact q_vret dX1_hearQuery_34 rfl (hQ _ _ (rfl) (by dsimp only [fX1_hearQuery]; rw [if_neg c123]; exact hok))
  ·
    refine q_aload_n dX1_hearQuery_4 rfl ?_
    refine v_getr 1 kX1 (by decide) wPX1_11 dX1_hearQuery_5 hok H.1 rfl ?_
    refine q_iload_n dX1_hearQuery_8 rfl ?_
    refine v_aald (j := a1) (z := B + 3 + 2 * a1) "GroupFilters$Filter" dX1_hearQuery_9 hok H.2.1 rfl (rg_at (by omega)) (by omega) ?_
    refine q_aload_n dX1_hearQuery_10 rfl ?_
    refine v_callV (M' := mX1_last) [] [.ref (B + 3 + 2 * a1)] kX1 dX1_hearQuery_11 wPX1_120v wIX1_last wSX1_last iX1_last oX1_last rfl hok H.1 (eX1_last Sc Γ n V B H) (Nat.le_of_ble_eq_true rfl) (Nat.le_of_ble_eq_true rfl) (Nat.le_of_ble_eq_true rfl) rfl (fun h hok => ?_)
    refine v_callV (M' := mX0_lowerOwnTimer) [.int (vX1_last B V)] [] kX0 dX1_hearQuery_14 wPX1_126v wIX0_lowerOwnTimer wSX0_lowerOwnTimer iX0_lowerOwnTimer oX0_lowerOwnTimer rfl hok (H.2.2.2.1 a1 (by omega)).1 (eX0_lowerOwnTimer Sc Γ n V (B + 3 + 2 * a1) (H.2.2.2.1 a1 (by omega)) (vX1_last B V)) (Nat.le_of_ble_eq_true rfl) (Nat.le_of_ble_eq_true rfl) (Nat.le_of_ble_eq_true rfl) rfl (fun h hok => ?_)
    refine q_goto (tgt := 34) dX1_hearQuery_17 (by decide) ?_
    exact q_vret dX1_hearQuery_34 rfl (hQ _ _ (rfl) (by dsimp only [fX1_hearQuery]; rw [if_pos c123]; exact hok))
def fX1_changeWish (B : Nat) (lg : Nat) (a2 : Nat) (a3 : Nat) (a4 : Int32) (a5 : Int32) (V : q_V) : q_V := let V126 := vset V (B + 19 + 3 * a2 + 1) a3 (a5); let V127 := vset V126 (B + 19 + 3 * a2 + 2) a3 (a4); if a4 = (V (B + 19 + 3 * a2 + 2) a3) then (if a4 = 0 then (if ((a5) &&& ((V (B + 19 + 3 * a2 + 1) a3) ^^^ (-1))) = 0 then (if ((V (B + 19 + 3 * a2 + 1) a3) &&& ((a5) ^^^ (-1))) = 0 then (V127) else (let V133 := fX1_hearReport_5 B lg a3 ((V (B + 19 + 3 * a2 + 1) a3) &&& ((a5) ^^^ (-1))) V127; V133)) else (let V134 := fX1_hearReport_4 B lg a3 ((a5) &&& ((V (B + 19 + 3 * a2 + 1) a3) ^^^ (-1))) V127; if ((V (B + 19 + 3 * a2 + 1) a3) &&& ((a5) ^^^ (-1))) = 0 then (V134) else (let V136 := fX1_hearReport_5 B lg a3 ((V (B + 19 + 3 * a2 + 1) a3) &&& ((a5) ^^^ (-1))) V134; V136))) else (if ((V (B + 19 + 3 * a2 + 1) a3) &&& ((a5) ^^^ (-1))) = 0 then (if ((a5) &&& ((V (B + 19 + 3 * a2 + 1) a3) ^^^ (-1))) = 0 then (V127) else (let V140 := fX1_hearReport_5 B lg a3 ((a5) &&& ((V (B + 19 + 3 * a2 + 1) a3) ^^^ (-1))) V127; V140)) else (let V141 := fX1_hearReport_4 B lg a3 ((V (B + 19 + 3 * a2 + 1) a3) &&& ((a5) ^^^ (-1))) V127; if ((a5) &&& ((V (B + 19 + 3 * a2 + 1) a3) ^^^ (-1))) = 0 then (V141) else (let V143 := fX1_hearReport_5 B lg a3 ((a5) &&& ((V (B + 19 + 3 * a2 + 1) a3) ^^^ (-1))) V141; V143)))) else (if a4 = 0 then (let V145 := fX1_hearReport_2 B lg a3 a5 V127; V145) else (let V146 := fX1_hearReport_3 B lg a3 a5 V127; V146))
set_option maxRecDepth 20000 in
set_option maxHeartbeats 4000000 in
theorem eX1_changeWish (Sc : q_S) (Γ : Nat → q_K) (n : Nat) (V : q_V) (B : Nat) (H : sLk Γ B) (lg : Nat) (Hg : sLg Γ lg) (a2 : Nat) (b2 : a2 < 6) (a3 : Nat) (b3 : a3 < 8) (a4 : Int32) (b4 : q_bl a4) (a5 : Int32) : q_fn Sc Γ mX1_changeWish [.ref B, .ref lg, .int (nI a2), .int (nI a3), .int (a4), .int (a5)] n V none (fX1_changeWish B lg a2 a3 a4 a5 V) := by
  intro h hok
  show q_A Sc mX1_changeWish 0 [.ref B, .ref lg, .int (nI a2), .int (nI a3), .int (a4), .int (a5), .retAddr 0, .retAddr 0, .retAddr 0, .retAddr 0, .retAddr 0, .retAddr 0, .retAddr 0] [] h n 0 0 (fun O h' n' => O = .inl none ∧ q_ok (gX Γ (fX1_changeWish B lg a2 a3 a4 a5 V)) h' ∧ n' = n)
  have hQ : ∀ (O : q_O) (h' : q_H), O = .inl none → q_ok (gX Γ (fX1_changeWish B lg a2 a3 a4 a5 V)) h' → (fun O h' n' => O = .inl none ∧ q_ok (gX Γ (fX1_changeWish B lg a2 a3 a4 a5 V)) h' ∧ n' = n) O h' n := fun _ _ a b => ⟨a, b, rfl⟩
  generalize (fun O h' n' => O = .inl none ∧ q_ok (gX Γ (fX1_changeWish B lg a2 a3 a4 a5 V)) h' ∧ n' = n) = Q at hQ ⊢
  refine q_aload_n dX1_changeWish_0 rfl ?_
  refine v_getr 2 kX1 (by decide) wPX1_19 dX1_changeWish_1 hok H.1 rfl ?_
  refine q_iload_n dX1_changeWish_4 rfl ?_
  refine v_aald (j := a2) (z := B + 19 + 3 * a2) "GroupFilters$Member" dX1_changeWish_5 hok H.2.2.1 rfl (rg_at (by omega)) (by omega) ?_
  refine q_astore dX1_changeWish_6 (by decide) ?_
  refine q_aload dX1_changeWish_8 rfl ?_
  refine v_getr 0 kX2 (by decide) wPX1_129 dX1_changeWish_10 hok (H.2.2.2.2 a2 (by omega)).1 rfl ?_
  refine q_iload_n dX1_changeWish_13 rfl ?_
  refine v_iald (by decide) dX1_changeWish_14 hok (H.2.2.2.2 a2 (by omega)).2.1 (j := a3) (by omega) ?_
  refine t_istore [.ref B, .ref lg, .int (nI a2), .int (nI a3), .int (a4), .int (a5), .ref (B + 19 + 3 * a2), .int (V (B + 19 + 3 * a2 + 1) a3), .retAddr 0, .retAddr 0, .retAddr 0, .retAddr 0, .retAddr 0] (Or.inr ⟨rfl, dX1_changeWish_15⟩) (by decide) rfl ?_
  refine q_aload dX1_changeWish_17 rfl ?_
  refine v_getr 1 kX2 (by decide) wPX1_133 dX1_changeWish_19 hok (H.2.2.2.2 a2 (by omega)).1 rfl ?_
  refine q_iload_n dX1_changeWish_22 rfl ?_
  refine v_zald (by decide) dX1_changeWish_23 hok (H.2.2.2.2 a2 (by omega)).2.2 (j := a3) (by omega) ?_
  refine t_istore [.ref B, .ref lg, .int (nI a2), .int (nI a3), .int (a4), .int (a5), .ref (B + 19 + 3 * a2), .int (V (B + 19 + 3 * a2 + 1) a3), .int (V (B + 19 + 3 * a2 + 2) a3), .retAddr 0, .retAddr 0, .retAddr 0, .retAddr 0] (Or.inr ⟨rfl, dX1_changeWish_24⟩) (by decide) rfl ?_
  refine q_aload dX1_changeWish_26 rfl ?_
  refine v_getr 0 kX2 (by decide) wPX1_129 dX1_changeWish_28 hok (H.2.2.2.2 a2 (by omega)).1 rfl ?_
  refine q_iload_n dX1_changeWish_31 rfl ?_
  refine q_iload dX1_changeWish_32 rfl ?_
  refine v_iast (by decide) dX1_changeWish_34 hok (H.2.2.2.2 a2 (by omega)).2.1 (j := a3) (by omega) (fun h hok => ?_)
  refine q_aload dX1_changeWish_35 rfl ?_
  refine v_getr 1 kX2 (by decide) wPX1_133 dX1_changeWish_37 hok (H.2.2.2.2 a2 (by omega)).1 rfl ?_
  refine q_iload_n dX1_changeWish_40 rfl ?_
  refine q_iload dX1_changeWish_41 rfl ?_
  refine v_zast (by decide) dX1_changeWish_43 hok (H.2.2.2.2 a2 (by omega)).2.2 (j := a3) (by omega) (q_bl.vp b4) (fun h hok => ?_)
  refine q_iload dX1_changeWish_44 rfl ?_
  refine q_iload dX1_changeWish_46 rfl ?_
  refine q_icmp_eq (tgt := 70) dX1_changeWish_48 (by decide) (fun c128 => ?_) (fun c128 => ?_)
  ·
    refine q_iload dX1_changeWish_70 rfl ?_
    refine q_iload dX1_changeWish_72 rfl ?_
    refine q_iconst (v := -1) dX1_changeWish_74 rfl ?_
    refine q_ixor dX1_changeWish_75 ?_
    refine q_iand dX1_changeWish_76 ?_
    refine t_istore [.ref B, .ref lg, .int (nI a2), .int (nI a3), .int (a4), .int (a5), .ref (B + 19 + 3 * a2), .int (V (B + 19 + 3 * a2 + 1) a3), .int (V (B + 19 + 3 * a2 + 2) a3), .int ((a5) &&& ((V (B + 19 + 3 * a2 + 1) a3) ^^^ (-1))), .retAddr 0, .retAddr 0, .retAddr 0] (Or.inr ⟨rfl, dX1_changeWish_77⟩) (by decide) rfl ?_
    refine q_iload dX1_changeWish_79 rfl ?_
    refine q_iload dX1_changeWish_81 rfl ?_
    refine q_iconst (v := -1) dX1_changeWish_83 rfl ?_
    refine q_ixor dX1_changeWish_84 ?_
    refine q_iand dX1_changeWish_85 ?_
    refine t_istore [.ref B, .ref lg, .int (nI a2), .int (nI a3), .int (a4), .int (a5), .ref (B + 19 + 3 * a2), .int (V (B + 19 + 3 * a2 + 1) a3), .int (V (B + 19 + 3 * a2 + 2) a3), .int ((a5) &&& ((V (B + 19 + 3 * a2 + 1) a3) ^^^ (-1))), .int ((V (B + 19 + 3 * a2 + 1) a3) &&& ((a5) ^^^ (-1))), .retAddr 0, .retAddr 0] (Or.inr ⟨rfl, dX1_changeWish_86⟩) (by decide) rfl ?_
    refine q_iload dX1_changeWish_88 rfl ?_
    refine q_if_eq (tgt := 98) dX1_changeWish_90 (by decide) (fun c129 => ?_) (fun c129 => ?_)
    ·
      refine q_iload dX1_changeWish_98 rfl ?_
      refine t_istore [.ref B, .ref lg, .int (nI a2), .int (nI a3), .int (a4), .int (a5), .ref (B + 19 + 3 * a2), .int (V (B + 19 + 3 * a2 + 1) a3), .int (V (B + 19 + 3 * a2 + 2) a3), .int ((a5) &&& ((V (B + 19 + 3 * a2 + 1) a3) ^^^ (-1))), .int ((V (B + 19 + 3 * a2 + 1) a3) &&& ((a5) ^^^ (-1))), .int ((a5) &&& ((V (B + 19 + 3 * a2 + 1) a3) ^^^ (-1))), .retAddr 0] (Or.inr ⟨rfl, dX1_changeWish_100⟩) (by decide) rfl ?_
      refine q_iload dX1_changeWish_102 rfl ?_
      refine q_if_eq (tgt := 112) dX1_changeWish_104 (by decide) (fun c130 => ?_) (fun c130 => ?_)
      rotate_left
      · exact absurd c129 c130
      refine q_iload dX1_changeWish_112 rfl ?_
      refine t_istore [.ref B, .ref lg, .int (nI a2), .int (nI a3), .int (a4), .int (a5), .ref (B + 19 + 3 * a2), .int (V (B + 19 + 3 * a2 + 1) a3), .int (V (B + 19 + 3 * a2 + 2) a3), .int ((a5) &&& ((V (B + 19 + 3 * a2 + 1) a3) ^^^ (-1))), .int ((V (B + 19 + 3 * a2 + 1) a3) &&& ((a5) ^^^ (-1))), .int ((a5) &&& ((V (B + 19 + 3 * a2 + 1) a3) ^^^ (-1))), .int ((V (B + 19 + 3 * a2 + 1) a3) &&& ((a5) ^^^ (-1)))] (Or.inr ⟨rfl, dX1_changeWish_114⟩) (by decide) rfl ?_
      refine q_iload dX1_changeWish_116 rfl ?_
      refine q_if_eq (tgt := 130) dX1_changeWish_118 (by decide) (fun c131 => ?_) (fun c131 => ?_)
      ·
        refine q_iload dX1_changeWish_130 rfl ?_
        refine q_if_eq (tgt := 144) dX1_changeWish_132 (by decide) (fun c132 => ?_) (fun c132 => ?_)
        ·
          exact q_vret dX1_changeWish_144 rfl (hQ _ _ (rfl) (by dsimp only [fX1_changeWish]; rw [if_pos c128, if_pos c129, if_pos c131, if_pos c132]; exact hok))
        ·
          refine q_aload_n dX1_changeWish_135 rfl ?_
          refine q_aload_n dX1_changeWish_136 rfl ?_
          refine q_iload_n dX1_changeWish_137 rfl ?_
          refine q_iconst (v := nI 5) dX1_changeWish_138 rfl ?_
          refine q_iload dX1_changeWish_139 rfl ?_
          refine v_callV (M' := mX1_hearReport) [.ref lg, .int (nI a3), .int (nI 5), .int ((V (B + 19 + 3 * a2 + 1) a3) &&& ((a5) ^^^ (-1)))] [] kX1 dX1_changeWish_141 wPX1_136v wIX1_hearReport wSX1_hearReport iX1_hearReport oX1_hearReport rfl hok H.1 (eX1_hearReport_5 Sc Γ n (vset (vset V (B + 19 + 3 * a2 + 1) a3 (a5)) (B + 19 + 3 * a2 + 2) a3 (a4)) B H lg Hg a3 (by omega) ((V (B + 19 + 3 * a2 + 1) a3) &&& ((a5) ^^^ (-1)))) (Nat.le_of_ble_eq_true rfl) (Nat.le_of_ble_eq_true rfl) (Nat.le_of_ble_eq_true rfl) rfl (fun h hok => ?_)
          exact q_vret dX1_changeWish_144 rfl (hQ _ _ (rfl) (by dsimp only [fX1_changeWish]; rw [if_pos c128, if_pos c129, if_pos c131, if_neg c132]; exact hok))
      ·
        refine q_aload_n dX1_changeWish_121 rfl ?_
        refine q_aload_n dX1_changeWish_122 rfl ?_
        refine q_iload_n dX1_changeWish_123 rfl ?_
        refine q_iconst (v := nI 4) dX1_changeWish_124 rfl ?_
        refine q_iload dX1_changeWish_125 rfl ?_
        refine v_callV (M' := mX1_hearReport) [.ref lg, .int (nI a3), .int (nI 4), .int ((a5) &&& ((V (B + 19 + 3 * a2 + 1) a3) ^^^ (-1)))] [] kX1 dX1_changeWish_127 wPX1_136v wIX1_hearReport wSX1_hearReport iX1_hearReport oX1_hearReport rfl hok H.1 (eX1_hearReport_4 Sc Γ n (vset (vset V (B + 19 + 3 * a2 + 1) a3 (a5)) (B + 19 + 3 * a2 + 2) a3 (a4)) B H lg Hg a3 (by omega) ((a5) &&& ((V (B + 19 + 3 * a2 + 1) a3) ^^^ (-1)))) (Nat.le_of_ble_eq_true rfl) (Nat.le_of_ble_eq_true rfl) (Nat.le_of_ble_eq_true rfl) rfl (fun h hok => ?_)
        refine q_iload dX1_changeWish_130 rfl ?_
        refine q_if_eq (tgt := 144) dX1_changeWish_132 (by decide) (fun c135 => ?_) (fun c135 => ?_)
        ·
          exact q_vret dX1_changeWish_144 rfl (hQ _ _ (rfl) (by dsimp only [fX1_changeWish]; rw [if_pos c128, if_pos c129, if_neg c131, if_pos c135]; exact hok))
        ·
          refine q_aload_n dX1_changeWish_135 rfl ?_
          refine q_aload_n dX1_changeWish_136 rfl ?_
          refine q_iload_n dX1_changeWish_137 rfl ?_
          refine q_iconst (v := nI 5) dX1_changeWish_138 rfl ?_
          refine q_iload dX1_changeWish_139 rfl ?_
          refine v_callV (M' := mX1_hearReport) [.ref lg, .int (nI a3), .int (nI 5), .int ((V (B + 19 + 3 * a2 + 1) a3) &&& ((a5) ^^^ (-1)))] [] kX1 dX1_changeWish_141 wPX1_136v wIX1_hearReport wSX1_hearReport iX1_hearReport oX1_hearReport rfl hok H.1 (eX1_hearReport_5 Sc Γ n (fX1_hearReport_4 B lg a3 ((a5) &&& ((V (B + 19 + 3 * a2 + 1) a3) ^^^ (-1))) (vset (vset V (B + 19 + 3 * a2 + 1) a3 (a5)) (B + 19 + 3 * a2 + 2) a3 (a4))) B H lg Hg a3 (by omega) ((V (B + 19 + 3 * a2 + 1) a3) &&& ((a5) ^^^ (-1)))) (Nat.le_of_ble_eq_true rfl) (Nat.le_of_ble_eq_true rfl) (Nat.le_of_ble_eq_true rfl) rfl (fun h hok => ?_)
          exact q_vret dX1_changeWish_144 rfl (hQ _ _ (rfl) (by dsimp only [fX1_changeWish]; rw [if_pos c128, if_pos c129, if_neg c131, if_neg c135]; exact hok))
    ·
      refine q_iload dX1_changeWish_93 rfl ?_
      refine q_goto (tgt := 100) dX1_changeWish_95 (by decide) ?_
      refine t_istore [.ref B, .ref lg, .int (nI a2), .int (nI a3), .int (a4), .int (a5), .ref (B + 19 + 3 * a2), .int (V (B + 19 + 3 * a2 + 1) a3), .int (V (B + 19 + 3 * a2 + 2) a3), .int ((a5) &&& ((V (B + 19 + 3 * a2 + 1) a3) ^^^ (-1))), .int ((V (B + 19 + 3 * a2 + 1) a3) &&& ((a5) ^^^ (-1))), .int ((V (B + 19 + 3 * a2 + 1) a3) &&& ((a5) ^^^ (-1))), .retAddr 0] (Or.inr ⟨rfl, dX1_changeWish_100⟩) (by decide) rfl ?_
      refine q_iload dX1_changeWish_102 rfl ?_
      refine q_if_eq (tgt := 112) dX1_changeWish_104 (by decide) (fun c137 => ?_) (fun c137 => ?_)
      · exact absurd c137 c129
      refine q_iload dX1_changeWish_107 rfl ?_
      refine q_goto (tgt := 114) dX1_changeWish_109 (by decide) ?_
      refine t_istore [.ref B, .ref lg, .int (nI a2), .int (nI a3), .int (a4), .int (a5), .ref (B + 19 + 3 * a2), .int (V (B + 19 + 3 * a2 + 1) a3), .int (V (B + 19 + 3 * a2 + 2) a3), .int ((a5) &&& ((V (B + 19 + 3 * a2 + 1) a3) ^^^ (-1))), .int ((V (B + 19 + 3 * a2 + 1) a3) &&& ((a5) ^^^ (-1))), .int ((V (B + 19 + 3 * a2 + 1) a3) &&& ((a5) ^^^ (-1))), .int ((a5) &&& ((V (B + 19 + 3 * a2 + 1) a3) ^^^ (-1)))] (Or.inr ⟨rfl, dX1_changeWish_114⟩) (by decide) rfl ?_
      refine q_iload dX1_changeWish_116 rfl ?_
      refine q_if_eq (tgt := 130) dX1_changeWish_118 (by decide) (fun c138 => ?_) (fun c138 => ?_)
      ·
        refine q_iload dX1_changeWish_130 rfl ?_
        refine q_if_eq (tgt := 144) dX1_changeWish_132 (by decide) (fun c139 => ?_) (fun c139 => ?_)
        ·
          exact q_vret dX1_changeWish_144 rfl (hQ _ _ (rfl) (by dsimp only [fX1_changeWish]; rw [if_pos c128, if_neg c129, if_pos c138, if_pos c139]; exact hok))
        ·
          refine q_aload_n dX1_changeWish_135 rfl ?_
          refine q_aload_n dX1_changeWish_136 rfl ?_
          refine q_iload_n dX1_changeWish_137 rfl ?_
          refine q_iconst (v := nI 5) dX1_changeWish_138 rfl ?_
          refine q_iload dX1_changeWish_139 rfl ?_
          refine v_callV (M' := mX1_hearReport) [.ref lg, .int (nI a3), .int (nI 5), .int ((a5) &&& ((V (B + 19 + 3 * a2 + 1) a3) ^^^ (-1)))] [] kX1 dX1_changeWish_141 wPX1_136v wIX1_hearReport wSX1_hearReport iX1_hearReport oX1_hearReport rfl hok H.1 (eX1_hearReport_5 Sc Γ n (vset (vset V (B + 19 + 3 * a2 + 1) a3 (a5)) (B + 19 + 3 * a2 + 2) a3 (a4)) B H lg Hg a3 (by omega) ((a5) &&& ((V (B + 19 + 3 * a2 + 1) a3) ^^^ (-1)))) (Nat.le_of_ble_eq_true rfl) (Nat.le_of_ble_eq_true rfl) (Nat.le_of_ble_eq_true rfl) rfl (fun h hok => ?_)
          exact q_vret dX1_changeWish_144 rfl (hQ _ _ (rfl) (by dsimp only [fX1_changeWish]; rw [if_pos c128, if_neg c129, if_pos c138, if_neg c139]; exact hok))
      ·
        refine q_aload_n dX1_changeWish_121 rfl ?_
        refine q_aload_n dX1_changeWish_122 rfl ?_
        refine q_iload_n dX1_changeWish_123 rfl ?_
        refine q_iconst (v := nI 4) dX1_changeWish_124 rfl ?_
        refine q_iload dX1_changeWish_125 rfl ?_
        refine v_callV (M' := mX1_hearReport) [.ref lg, .int (nI a3), .int (nI 4), .int ((V (B + 19 + 3 * a2 + 1) a3) &&& ((a5) ^^^ (-1)))] [] kX1 dX1_changeWish_127 wPX1_136v wIX1_hearReport wSX1_hearReport iX1_hearReport oX1_hearReport rfl hok H.1 (eX1_hearReport_4 Sc Γ n (vset (vset V (B + 19 + 3 * a2 + 1) a3 (a5)) (B + 19 + 3 * a2 + 2) a3 (a4)) B H lg Hg a3 (by omega) ((V (B + 19 + 3 * a2 + 1) a3) &&& ((a5) ^^^ (-1)))) (Nat.le_of_ble_eq_true rfl) (Nat.le_of_ble_eq_true rfl) (Nat.le_of_ble_eq_true rfl) rfl (fun h hok => ?_)
        refine q_iload dX1_changeWish_130 rfl ?_
        refine q_if_eq (tgt := 144) dX1_changeWish_132 (by decide) (fun c142 => ?_) (fun c142 => ?_)
        ·
          exact q_vret dX1_changeWish_144 rfl (hQ _ _ (rfl) (by dsimp only [fX1_changeWish]; rw [if_pos c128, if_neg c129, if_neg c138, if_pos c142]; exact hok))
        ·
          refine q_aload_n dX1_changeWish_135 rfl ?_
          refine q_aload_n dX1_changeWish_136 rfl ?_
          refine q_iload_n dX1_changeWish_137 rfl ?_
          refine q_iconst (v := nI 5) dX1_changeWish_138 rfl ?_
          refine q_iload dX1_changeWish_139 rfl ?_
          refine v_callV (M' := mX1_hearReport) [.ref lg, .int (nI a3), .int (nI 5), .int ((a5) &&& ((V (B + 19 + 3 * a2 + 1) a3) ^^^ (-1)))] [] kX1 dX1_changeWish_141 wPX1_136v wIX1_hearReport wSX1_hearReport iX1_hearReport oX1_hearReport rfl hok H.1 (eX1_hearReport_5 Sc Γ n (fX1_hearReport_4 B lg a3 ((V (B + 19 + 3 * a2 + 1) a3) &&& ((a5) ^^^ (-1))) (vset (vset V (B + 19 + 3 * a2 + 1) a3 (a5)) (B + 19 + 3 * a2 + 2) a3 (a4))) B H lg Hg a3 (by omega) ((a5) &&& ((V (B + 19 + 3 * a2 + 1) a3) ^^^ (-1)))) (Nat.le_of_ble_eq_true rfl) (Nat.le_of_ble_eq_true rfl) (Nat.le_of_ble_eq_true rfl) rfl (fun h hok => ?_)
          exact q_vret dX1_changeWish_144 rfl (hQ _ _ (rfl) (by dsimp only [fX1_changeWish]; rw [if_pos c128, if_neg c129, if_neg c138, if_neg c142]; exact hok))
  ·
    refine q_aload_n dX1_changeWish_51 rfl ?_
    refine q_aload_n dX1_changeWish_52 rfl ?_
    refine q_iload_n dX1_changeWish_53 rfl ?_
    refine q_iload dX1_changeWish_54 rfl ?_
    refine q_if_eq (tgt := 63) dX1_changeWish_56 (by decide) (fun c144 => ?_) (fun c144 => ?_)
    ·
      refine q_iconst (v := nI 2) dX1_changeWish_63 rfl ?_
      refine q_iload dX1_changeWish_64 rfl ?_
      refine v_callV (M' := mX1_hearReport) [.ref lg, .int (nI a3), .int (nI 2), .int (a5)] [] kX1 dX1_changeWish_66 wPX1_136v wIX1_hearReport wSX1_hearReport iX1_hearReport oX1_hearReport rfl hok H.1 (eX1_hearReport_2 Sc Γ n (vset (vset V (B + 19 + 3 * a2 + 1) a3 (a5)) (B + 19 + 3 * a2 + 2) a3 (a4)) B H lg Hg a3 (by omega) a5) (Nat.le_of_ble_eq_true rfl) (Nat.le_of_ble_eq_true rfl) (Nat.le_of_ble_eq_true rfl) rfl (fun h hok => ?_)
      exact q_vret dX1_changeWish_69 rfl (hQ _ _ (rfl) (by dsimp only [fX1_changeWish]; rw [if_neg c128, if_pos c144]; exact hok))
    ·
      refine q_iconst (v := nI 3) dX1_changeWish_59 rfl ?_
      refine q_goto (tgt := 64) dX1_changeWish_60 (by decide) ?_
      refine q_iload dX1_changeWish_64 rfl ?_
      refine v_callV (M' := mX1_hearReport) [.ref lg, .int (nI a3), .int (nI 3), .int (a5)] [] kX1 dX1_changeWish_66 wPX1_136v wIX1_hearReport wSX1_hearReport iX1_hearReport oX1_hearReport rfl hok H.1 (eX1_hearReport_3 Sc Γ n (vset (vset V (B + 19 + 3 * a2 + 1) a3 (a5)) (B + 19 + 3 * a2 + 2) a3 (a4)) B H lg Hg a3 (by omega) a5) (Nat.le_of_ble_eq_true rfl) (Nat.le_of_ble_eq_true rfl) (Nat.le_of_ble_eq_true rfl) rfl (fun h hok => ?_)
      exact q_vret dX1_changeWish_69 rfl (hQ _ _ (rfl) (by dsimp only [fX1_changeWish]; rw [if_neg c128, if_neg c144]; exact hok))
def fX1_letAnswer (B : Nat) (lg : Nat) (a2 : Nat) (V : q_V) : q_V := let B147 := fun (k147 : Nat) (s147 : Int32 × q_V) => let g147a := s147.1; let W147 := s147.2; if (W147 (B + 19 + 3 * a2 + 2) k147) = 0 then (if (W147 (B + 19 + 3 * a2 + 1) k147) = 0 then ((g147a, W147)) else (let V154 := fX1_hearReport_0 B lg k147 (W147 (B + 19 + 3 * a2 + 1) k147) W147; (g147a + Int32.ofInt (1), V154))) else (let V151 := fX1_hearReport_1 B lg k147 (W147 (B + 19 + 3 * a2 + 1) k147) W147; (g147a + Int32.ofInt (1), V151)); let T147 := lp B147 8 0 (nI 0, V); let V155 := T147.2; V155
def vX1_letAnswer (B : Nat) (lg : Nat) (a2 : Nat) (V : q_V) : Int32 := let B147 := fun (k147 : Nat) (s147 : Int32 × q_V) => let g147a := s147.1; let W147 := s147.2; if (W147 (B + 19 + 3 * a2 + 2) k147) = 0 then (if (W147 (B + 19 + 3 * a2 + 1) k147) = 0 then ((g147a, W147)) else (let V154 := fX1_hearReport_0 B lg k147 (W147 (B + 19 + 3 * a2 + 1) k147) W147; (g147a + Int32.ofInt (1), V154))) else (let V151 := fX1_hearReport_1 B lg k147 (W147 (B + 19 + 3 * a2 + 1) k147) W147; (g147a + Int32.ofInt (1), V151)); let T147 := lp B147 8 0 (nI 0, V); let V155 := T147.2; T147.1
set_option maxRecDepth 20000 in
set_option maxHeartbeats 4000000 in
theorem eX1_letAnswer (Sc : q_S) (Γ : Nat → q_K) (n : Nat) (V : q_V) (B : Nat) (H : sLk Γ B) (lg : Nat) (Hg : sLg Γ lg) (a2 : Nat) (b2 : a2 < 6) : q_fn Sc Γ mX1_letAnswer [.ref B, .ref lg, .int (nI a2)] n V (some (.int (vX1_letAnswer B lg a2 V))) (fX1_letAnswer B lg a2 V) := by
  intro h hok
  show q_A Sc mX1_letAnswer 0 [.ref B, .ref lg, .int (nI a2), .retAddr 0, .retAddr 0, .retAddr 0] [] h n 0 0 (fun O h' n' => O = .inl (some (.int (vX1_letAnswer B lg a2 V))) ∧ q_ok (gX Γ (fX1_letAnswer B lg a2 V)) h' ∧ n' = n)
  have hQ : ∀ (O : q_O) (h' : q_H), O = .inl (some (.int (vX1_letAnswer B lg a2 V))) → q_ok (gX Γ (fX1_letAnswer B lg a2 V)) h' → (fun O h' n' => O = .inl (some (.int (vX1_letAnswer B lg a2 V))) ∧ q_ok (gX Γ (fX1_letAnswer B lg a2 V)) h' ∧ n' = n) O h' n := fun _ _ a b => ⟨a, b, rfl⟩
  generalize (fun O h' n' => O = .inl (some (.int (vX1_letAnswer B lg a2 V))) ∧ q_ok (gX Γ (fX1_letAnswer B lg a2 V)) h' ∧ n' = n) = Q at hQ ⊢
  refine q_aload_n dX1_letAnswer_0 rfl ?_
  refine v_getr 2 kX1 (by decide) wPX1_19 dX1_letAnswer_1 hok H.1 rfl ?_
  refine q_iload_n dX1_letAnswer_4 rfl ?_
  refine v_aald (j := a2) (z := B + 19 + 3 * a2) "GroupFilters$Member" dX1_letAnswer_5 hok H.2.2.1 rfl (rg_at (by omega)) (by omega) ?_
  refine q_astore_n dX1_letAnswer_6 (by decide) ?_
  refine q_iconst (v := nI 0) dX1_letAnswer_7 rfl ?_
  refine t_istore [.ref B, .ref lg, .int (nI a2), .ref (B + 19 + 3 * a2), .int (nI 0), .retAddr 0] (Or.inr ⟨rfl, dX1_letAnswer_8⟩) (by decide) rfl ?_
  refine q_iconst (v := nI 0) dX1_letAnswer_10 rfl ?_
  refine t_istore [.ref B, .ref lg, .int (nI a2), .ref (B + 19 + 3 * a2), .int (nI 0), .int (nI 0)] (Or.inr ⟨rfl, dX1_letAnswer_11⟩) (by decide) rfl ?_
  obtain ⟨B147, hB147⟩ : ∃ B : Nat → (Int32 × q_V) → (Int32 × q_V), B = (fun (k147 : Nat) (s147 : Int32 × q_V) => let g147a := s147.1; let W147 := s147.2; if (W147 (B + 19 + 3 * a2 + 2) k147) = 0 then (if (W147 (B + 19 + 3 * a2 + 1) k147) = 0 then ((g147a, W147)) else ((g147a + Int32.ofInt (1), (fX1_hearReport_0 B lg k147 (W147 (B + 19 + 3 * a2 + 1) k147) W147)))) else ((g147a + Int32.ofInt (1), (fX1_hearReport_1 B lg k147 (W147 (B + 19 + 3 * a2 + 1) k147) W147)))) := ⟨_, rfl⟩
  have hl147 : ∀ (d147 k147 : Nat) (g147a : Int32) (W147 : q_V) (h : q_H), k147 + d147 = 8 → lp B147 d147 k147 (g147a, W147) = (lp B147 8 0 (nI 0, V)) → q_ok (gX Γ W147) h → q_A Sc mX1_letAnswer 13 [.ref B, .ref lg, .int (nI a2), .ref (B + 19 + 3 * a2), .int (g147a), .int (nI k147)] [] h n 0 0 Q := by
    intro d147
    induction d147 with
    | zero =>
      intro k147 g147a W147 h e147 hT147 hok
      obtain ⟨hq1470, hq1471⟩ : g147a = ((lp B147 8 0 (nI 0, V)).1) ∧ W147 = ((lp B147 8 0 (nI 0, V)).2) := ⟨congrArg (fun q => q.1) hT147, congrArg (fun q => q.2) hT147⟩
      subst hq1470
      subst hq1471
      refine q_iload dX1_letAnswer_13 rfl ?_
      refine q_bipush (v := nI 8) dX1_letAnswer_15 rfl ?_
      refine t_icmp_ge_n (tgt := 78) (by omega) (by omega) dX1_letAnswer_17 (by decide) (fun c156 => ?_) (fun c156 => ?_)
      rotate_left
      · exact absurd c156 (by omega)
      refine q_iload dX1_letAnswer_78 rfl ?_
      exact q_iret dX1_letAnswer_80 rfl (rfl) (hQ _ _ (by subst hB147; dsimp only [vX1_letAnswer]) (by subst hB147; dsimp only [fX1_letAnswer]; exact hok))
    | succ d147 ih147 =>
      intro k147 g147a W147 h e147 hT147 hok
      refine q_iload dX1_letAnswer_13 rfl ?_
      refine q_bipush (v := nI 8) dX1_letAnswer_15 rfl ?_
      refine t_icmp_ge_n (tgt := 78) (by omega) (by omega) dX1_letAnswer_17 (by decide) (fun c148 => ?_) (fun c148 => ?_)
      · exact absurd c148 (by omega)
      refine q_aload_n dX1_letAnswer_20 rfl ?_
      refine v_getr 1 kX2 (by decide) wPX1_133 dX1_letAnswer_21 hok (H.2.2.2.2 a2 (by omega)).1 rfl ?_
      refine q_iload dX1_letAnswer_24 rfl ?_
      refine v_zald (by decide) dX1_letAnswer_26 hok (H.2.2.2.2 a2 (by omega)).2.2 (j := k147) (by omega) ?_
      refine q_if_ne (tgt := 40) dX1_letAnswer_27 (by decide) (fun c149 => ?_) (fun c149 => ?_)
      ·
        refine q_aload_n dX1_letAnswer_40 rfl ?_
        refine q_aload_n dX1_letAnswer_41 rfl ?_
        refine q_iload dX1_letAnswer_42 rfl ?_
        refine q_aload_n dX1_letAnswer_44 rfl ?_
        refine v_getr 1 kX2 (by decide) wPX1_133 dX1_letAnswer_45 hok (H.2.2.2.2 a2 (by omega)).1 rfl ?_
        refine q_iload dX1_letAnswer_48 rfl ?_
        refine v_zald (by decide) dX1_letAnswer_50 hok (H.2.2.2.2 a2 (by omega)).2.2 (j := k147) (by omega) ?_
        refine q_if_eq (tgt := 58) dX1_letAnswer_51 (by decide) (fun c150 => ?_) (fun c150 => ?_)
        · exact absurd c150 c149
        refine q_iconst (v := nI 1) dX1_letAnswer_54 rfl ?_
        refine q_goto (tgt := 59) dX1_letAnswer_55 (by decide) ?_
        refine q_aload_n dX1_letAnswer_59 rfl ?_
        refine v_getr 0 kX2 (by decide) wPX1_129 dX1_letAnswer_60 hok (H.2.2.2.2 a2 (by omega)).1 rfl ?_
        refine q_iload dX1_letAnswer_63 rfl ?_
        refine v_iald (by decide) dX1_letAnswer_65 hok (H.2.2.2.2 a2 (by omega)).2.1 (j := k147) (by omega) ?_
        refine v_callV (M' := mX1_hearReport) [.ref lg, .int (nI k147), .int (nI 1), .int (W147 (B + 19 + 3 * a2 + 1) k147)] [] kX1 dX1_letAnswer_66 wPX1_136v wIX1_hearReport wSX1_hearReport iX1_hearReport oX1_hearReport rfl hok H.1 (eX1_hearReport_1 Sc Γ n W147 B H lg Hg k147 (by omega) (W147 (B + 19 + 3 * a2 + 1) k147)) (Nat.le_of_ble_eq_true rfl) (Nat.le_of_ble_eq_true rfl) (Nat.le_of_ble_eq_true rfl) rfl (fun h hok => ?_)
        refine t_iinc [.ref B, .ref lg, .int (nI a2), .ref (B + 19 + 3 * a2), .int (g147a + Int32.ofInt (1)), .int (nI k147)] dX1_letAnswer_69 rfl rfl (by decide) rfl ?_
        refine t_iinc_n [.ref B, .ref lg, .int (nI a2), .ref (B + 19 + 3 * a2), .int (g147a + Int32.ofInt (1)), .int (nI (k147 + 1))] dX1_letAnswer_72 rfl (by decide) rfl ?_
        refine q_goto (tgt := 13) dX1_letAnswer_75 (by decide) ?_
        exact ih147 (k147 + 1) (g147a + Int32.ofInt (1)) ((fX1_hearReport_1 B lg k147 (W147 (B + 19 + 3 * a2 + 1) k147) W147)) h (by omega) ((congrArg (lp B147 d147 (k147 + 1)) (show (g147a + Int32.ofInt (1), (fX1_hearReport_1 B lg k147 (W147 (B + 19 + 3 * a2 + 1) k147) W147)) = B147 k147 (g147a, W147) from by rw [hB147]; dsimp only; rw [if_neg c149])).trans hT147) hok
      ·
        refine q_aload_n dX1_letAnswer_30 rfl ?_
        refine v_getr 0 kX2 (by decide) wPX1_129 dX1_letAnswer_31 hok (H.2.2.2.2 a2 (by omega)).1 rfl ?_
        refine q_iload dX1_letAnswer_34 rfl ?_
        refine v_iald (by decide) dX1_letAnswer_36 hok (H.2.2.2.2 a2 (by omega)).2.1 (j := k147) (by omega) ?_
        refine q_if_eq (tgt := 72) dX1_letAnswer_37 (by decide) (fun c152 => ?_) (fun c152 => ?_)
        ·
          refine t_iinc_n [.ref B, .ref lg, .int (nI a2), .ref (B + 19 + 3 * a2), .int (g147a), .int (nI (k147 + 1))] dX1_letAnswer_72 rfl (by decide) rfl ?_
          refine q_goto (tgt := 13) dX1_letAnswer_75 (by decide) ?_
          exact ih147 (k147 + 1) g147a W147 h (by omega) ((congrArg (lp B147 d147 (k147 + 1)) (show (g147a, W147) = B147 k147 (g147a, W147) from by rw [hB147]; dsimp only; rw [if_pos c149, if_pos c152])).trans hT147) hok
        ·
          refine q_aload_n dX1_letAnswer_40 rfl ?_
          refine q_aload_n dX1_letAnswer_41 rfl ?_
          refine q_iload dX1_letAnswer_42 rfl ?_
          refine q_aload_n dX1_letAnswer_44 rfl ?_
          refine v_getr 1 kX2 (by decide) wPX1_133 dX1_letAnswer_45 hok (H.2.2.2.2 a2 (by omega)).1 rfl ?_
          refine q_iload dX1_letAnswer_48 rfl ?_
          refine v_zald (by decide) dX1_letAnswer_50 hok (H.2.2.2.2 a2 (by omega)).2.2 (j := k147) (by omega) ?_
          refine q_if_eq (tgt := 58) dX1_letAnswer_51 (by decide) (fun c153 => ?_) (fun c153 => ?_)
          rotate_left
          · exact absurd c149 c153
          refine q_iconst (v := nI 0) dX1_letAnswer_58 rfl ?_
          refine q_aload_n dX1_letAnswer_59 rfl ?_
          refine v_getr 0 kX2 (by decide) wPX1_129 dX1_letAnswer_60 hok (H.2.2.2.2 a2 (by omega)).1 rfl ?_
          refine q_iload dX1_letAnswer_63 rfl ?_
          refine v_iald (by decide) dX1_letAnswer_65 hok (H.2.2.2.2 a2 (by omega)).2.1 (j := k147) (by omega) ?_
          refine v_callV (M' := mX1_hearReport) [.ref lg, .int (nI k147), .int (nI 0), .int (W147 (B + 19 + 3 * a2 + 1) k147)] [] kX1 dX1_letAnswer_66 wPX1_136v wIX1_hearReport wSX1_hearReport iX1_hearReport oX1_hearReport rfl hok H.1 (eX1_hearReport_0 Sc Γ n W147 B H lg Hg k147 (by omega) (W147 (B + 19 + 3 * a2 + 1) k147)) (Nat.le_of_ble_eq_true rfl) (Nat.le_of_ble_eq_true rfl) (Nat.le_of_ble_eq_true rfl) rfl (fun h hok => ?_)
          refine t_iinc [.ref B, .ref lg, .int (nI a2), .ref (B + 19 + 3 * a2), .int (g147a + Int32.ofInt (1)), .int (nI k147)] dX1_letAnswer_69 rfl rfl (by decide) rfl ?_
          refine t_iinc_n [.ref B, .ref lg, .int (nI a2), .ref (B + 19 + 3 * a2), .int (g147a + Int32.ofInt (1)), .int (nI (k147 + 1))] dX1_letAnswer_72 rfl (by decide) rfl ?_
          refine q_goto (tgt := 13) dX1_letAnswer_75 (by decide) ?_
          exact ih147 (k147 + 1) (g147a + Int32.ofInt (1)) ((fX1_hearReport_0 B lg k147 (W147 (B + 19 + 3 * a2 + 1) k147) W147)) h (by omega) ((congrArg (lp B147 d147 (k147 + 1)) (show (g147a + Int32.ofInt (1), (fX1_hearReport_0 B lg k147 (W147 (B + 19 + 3 * a2 + 1) k147) W147)) = B147 k147 (g147a, W147) from by rw [hB147]; dsimp only; rw [if_pos c149, if_neg c152])).trans hT147) hok
  exact hl147 8 0 (nI 0) V h (by omega) rfl hok
def fX1_reset (B : Nat) (V : q_V) : q_V := let B157 := fun (k157 : Nat) (s157 : q_V) => let W157 := s157; let V159 := fX0_reset (B + 3 + 2 * k157) W157; V159; let T157 := lp B157 8 0 V; let B161 := fun (k161 : Nat) (s161 : q_V) => let W161 := s161; let V163 := fX2_reset (B + 19 + 3 * k161) W161; V163; let T161 := lp B161 6 0 T157; let V165 := vset T161 B 6 (nI 500); let V166 := fX1_set B (nI 2) (nI 20) (nI 4) V165; V166
set_option maxRecDepth 20000 in
set_option maxHeartbeats 4000000 in
theorem eX1_reset (Sc : q_S) (Γ : Nat → q_K) (n : Nat) (V : q_V) (B : Nat) (H : sLk Γ B) : q_fn Sc Γ mX1_reset [.ref B] n V none (fX1_reset B V) := by
  intro h hok
  show q_A Sc mX1_reset 0 [.ref B, .retAddr 0] [] h n 0 0 (fun O h' n' => O = .inl none ∧ q_ok (gX Γ (fX1_reset B V)) h' ∧ n' = n)
  have hQ : ∀ (O : q_O) (h' : q_H), O = .inl none → q_ok (gX Γ (fX1_reset B V)) h' → (fun O h' n' => O = .inl none ∧ q_ok (gX Γ (fX1_reset B V)) h' ∧ n' = n) O h' n := fun _ _ a b => ⟨a, b, rfl⟩
  generalize (fun O h' n' => O = .inl none ∧ q_ok (gX Γ (fX1_reset B V)) h' ∧ n' = n) = Q at hQ ⊢
  refine q_iconst (v := nI 0) dX1_reset_0 rfl ?_
  refine t_istore [.ref B, .int (nI 0)] (Or.inl ⟨1, rfl, rfl, dX1_reset_1⟩) (by decide) rfl ?_
  obtain ⟨B157, hB157⟩ : ∃ B : Nat → q_V → q_V, B = (fun (k157 : Nat) (s157 : q_V) => let W157 := s157; (fX0_reset (B + 3 + 2 * k157) W157)) := ⟨_, rfl⟩
  have hl157 : ∀ (d157 k157 : Nat) (W157 : q_V) (h : q_H), k157 + d157 = 8 → lp B157 d157 k157 W157 = (lp B157 8 0 V) → q_ok (gX Γ W157) h → q_A Sc mX1_reset 2 [.ref B, .int (nI k157)] [] h n 0 0 Q := by
    intro d157
    induction d157 with
    | zero =>
      intro k157  W157 h e157 hT157 hok
      have hT157 : W157 = (lp B157 8 0 V) := hT157
      subst hT157
      refine q_iload_n dX1_reset_2 rfl ?_
      refine q_bipush (v := nI 8) dX1_reset_3 rfl ?_
      refine t_icmp_ge_n (tgt := 23) (by omega) (by omega) dX1_reset_5 (by decide) (fun c160 => ?_) (fun c160 => ?_)
      rotate_left
      · exact absurd c160 (by omega)
      refine q_iconst (v := nI 0) dX1_reset_23 rfl ?_
      refine t_istore [.ref B, .int (nI 0)] (Or.inl ⟨1, rfl, rfl, dX1_reset_24⟩) (by decide) rfl ?_
      obtain ⟨B161, hB161⟩ : ∃ B : Nat → q_V → q_V, B = (fun (k161 : Nat) (s161 : q_V) => let W161 := s161; (fX2_reset (B + 19 + 3 * k161) W161)) := ⟨_, rfl⟩
      have hl161 : ∀ (d161 k161 : Nat) (W161 : q_V) (h : q_H), k161 + d161 = 6 → lp B161 d161 k161 W161 = (lp B161 6 0 (lp B157 8 0 V)) → q_ok (gX Γ W161) h → q_A Sc mX1_reset 25 [.ref B, .int (nI k161)] [] h n 0 0 Q := by
        intro d161
        induction d161 with
        | zero =>
          intro k161  W161 h e161 hT161 hok
          have hT161 : W161 = (lp B161 6 0 (lp B157 8 0 V)) := hT161
          subst hT161
          refine q_iload_n dX1_reset_25 rfl ?_
          refine q_bipush (v := nI 6) dX1_reset_26 rfl ?_
          refine t_icmp_ge_n (tgt := 46) (by omega) (by omega) dX1_reset_28 (by decide) (fun c164 => ?_) (fun c164 => ?_)
          rotate_left
          · exact absurd c164 (by omega)
          refine q_aload_n dX1_reset_46 rfl ?_
          refine q_sipush (v := nI 500) dX1_reset_47 rfl ?_
          refine v_puti 6 kX1 (by decide) wPX1_34 rfl dX1_reset_50 hok H.1 rfl ⟨rfl, rfl⟩ (fun h hok => ?_)
          refine q_aload_n dX1_reset_53 rfl ?_
          refine q_iconst (v := nI 2) dX1_reset_54 rfl ?_
          refine q_bipush (v := nI 20) dX1_reset_55 rfl ?_
          refine q_iconst (v := nI 4) dX1_reset_57 rfl ?_
          refine v_callV (M' := mX1_set) [.int (nI 2), .int (nI 20), .int (nI 4)] [] kX1 dX1_reset_58 wPX1_37v wIX1_set wSX1_set iX1_set oX1_set rfl hok H.1 (eX1_set Sc Γ n (vset (lp B161 6 0 (lp B157 8 0 V)) B 6 (nI 500)) B H (nI 2) (nI 20) (nI 4)) (Nat.le_of_ble_eq_true rfl) (Nat.le_of_ble_eq_true rfl) (Nat.le_of_ble_eq_true rfl) rfl (fun h hok => ?_)
          exact q_vret dX1_reset_61 rfl (hQ _ _ (rfl) (by subst hB161; subst hB157; dsimp only [fX1_reset]; exact hok))
        | succ d161 ih161 =>
          intro k161  W161 h e161 hT161 hok
          refine q_iload_n dX1_reset_25 rfl ?_
          refine q_bipush (v := nI 6) dX1_reset_26 rfl ?_
          refine t_icmp_ge_n (tgt := 46) (by omega) (by omega) dX1_reset_28 (by decide) (fun c162 => ?_) (fun c162 => ?_)
          · exact absurd c162 (by omega)
          refine q_aload_n dX1_reset_31 rfl ?_
          refine v_getr 2 kX1 (by decide) wPX1_19 dX1_reset_32 hok H.1 rfl ?_
          refine q_iload_n dX1_reset_35 rfl ?_
          refine v_aald (j := k161) (z := B + 19 + 3 * k161) "GroupFilters$Member" dX1_reset_36 hok H.2.2.1 rfl (rg_at (by omega)) (by omega) ?_
          refine v_callV (M' := mX2_reset) [] [] kX2 dX1_reset_37 wPX1_33v wIX2_reset wSX2_reset iX2_reset oX2_reset rfl hok (H.2.2.2.2 k161 (by omega)).1 (eX2_reset Sc Γ n W161 (B + 19 + 3 * k161) (H.2.2.2.2 k161 (by omega))) (Nat.le_of_ble_eq_true rfl) (Nat.le_of_ble_eq_true rfl) (Nat.le_of_ble_eq_true rfl) rfl (fun h hok => ?_)
          refine t_iinc_n [.ref B, .int (nI (k161 + 1))] dX1_reset_40 rfl (by decide) rfl ?_
          refine q_goto (tgt := 25) dX1_reset_43 (by decide) ?_
          exact ih161 (k161 + 1) ((fX2_reset (B + 19 + 3 * k161) W161)) h (by omega) ((congrArg (lp B161 d161 (k161 + 1)) (show (fX2_reset (B + 19 + 3 * k161) W161) = B161 k161 W161 from by rw [hB161]; dsimp only)).trans hT161) hok
      exact hl161 6 0  ((lp B157 8 0 V)) h (by omega) rfl hok
    | succ d157 ih157 =>
      intro k157  W157 h e157 hT157 hok
      refine q_iload_n dX1_reset_2 rfl ?_
      refine q_bipush (v := nI 8) dX1_reset_3 rfl ?_
      refine t_icmp_ge_n (tgt := 23) (by omega) (by omega) dX1_reset_5 (by decide) (fun c158 => ?_) (fun c158 => ?_)
      · exact absurd c158 (by omega)
      refine q_aload_n dX1_reset_8 rfl ?_
      refine v_getr 1 kX1 (by decide) wPX1_11 dX1_reset_9 hok H.1 rfl ?_
      refine q_iload_n dX1_reset_12 rfl ?_
      refine v_aald (j := k157) (z := B + 3 + 2 * k157) "GroupFilters$Filter" dX1_reset_13 hok H.2.1 rfl (rg_at (by omega)) (by omega) ?_
      refine v_callV (M' := mX0_reset) [] [] kX0 dX1_reset_14 wPX1_32v wIX0_reset wSX0_reset iX0_reset oX0_reset rfl hok (H.2.2.2.1 k157 (by omega)).1 (eX0_reset Sc Γ n W157 (B + 3 + 2 * k157) (H.2.2.2.1 k157 (by omega))) (Nat.le_of_ble_eq_true rfl) (Nat.le_of_ble_eq_true rfl) (Nat.le_of_ble_eq_true rfl) rfl (fun h hok => ?_)
      refine t_iinc_n [.ref B, .int (nI (k157 + 1))] dX1_reset_17 rfl (by decide) rfl ?_
      refine q_goto (tgt := 2) dX1_reset_20 (by decide) ?_
      exact ih157 (k157 + 1) ((fX0_reset (B + 3 + 2 * k157) W157)) h (by omega) ((congrArg (lp B157 d157 (k157 + 1)) (show (fX0_reset (B + 3 + 2 * k157) W157) = B157 k157 W157 from by rw [hB157]; dsimp only)).trans hT157) hok
  exact hl157 8 0  V h (by omega) rfl hok
end
