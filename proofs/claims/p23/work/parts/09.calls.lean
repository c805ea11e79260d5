-- ends of methods, and calls
section JE
variable {g : GT} {d ca sa : Nat} {M : MT} {pc : Nat} {lv lv' : List (Nat × Value)} {st : List Value} {h : MH} {Q Q' : RT → MH → Prop}
theorem JC.fin {p : Program} {R : Room} {s : State} {m : MethodId} {meth : Method} {c : Code} {H : Heap} {locs : List Loc} {cells slots mc ms : Nat} {ls : Array Slot} (C : JC g d ca sa M lv h p R s m meth c H locs cells slots mc ms ls) {v : Option Value} (hq : Q (.inl v) h) (args : Array Value) (t : State) (ht : t.heap = H) : Qo g Q args s (.returned (v.map (em g))) t :=
  ⟨⟨v, h, rfl, hq, by rw [ht]; exact C.2.2.1.2.2.1, by rw [ht]; exact C.2.2.1.1⟩, by rw [ht]; exact C.2.2.1.2.1⟩
theorem J_iret {x : Int32} {ty : FieldType} (hd : decode M.2.1 pc = .ok (.ireturn, 1)) (hr : M.2.2.2.1 = some ty) (hn : narrow ty (.int x) = .int x) (hq : Q (.inl (some (.int x))) h) : J g d ca sa M pc lv [.int x] h Q := by
  intro hg p e R s m args below meth c H locs cells slots mc ms ls C
  refine vx_ret ?_
  refine W.widen (k := mc) (n := ms) (by have := C.2.2.2.1; omega) (by have := C.2.2.2.1; omega) ?_
  have hlocks := C.1.2.2.2.2.1
  exact W.zret (v := x) C.1.1 C.1.2.1 (C.1.2.2.2.1.trans hr) hn (fun t ht hW => C.fin hq args t ht) C.2.2.1.2.2.2 hd
theorem J_lret {x : Int64} (hd : decode M.2.1 pc = .ok (.lreturn, 1)) (hr : M.2.2.2.1 = some .long) (hq : Q (.inl (some (.long x))) h) : J g d ca sa M pc lv [.long x] h Q := by
  intro hg p e R s m args below meth c H locs cells slots mc ms ls C
  refine vx_ret ?_
  refine W.widen (k := mc) (n := ms) (by have := C.2.2.2.1; omega) (by have := C.2.2.2.1; omega) ?_
  have hlocks := C.1.2.2.2.2.1
  exact W.lret (v := x) C.1.1 C.1.2.1 (C.1.2.2.2.1.trans hr) (fun t ht hW => C.fin hq args t ht) C.2.2.1.2.2.2 hd
theorem J_dret {x : UInt64} (hd : decode M.2.1 pc = .ok (.dreturn, 1)) (hr : M.2.2.2.1 = some .double) (hq : Q (.inl (some (.double x))) h) : J g d ca sa M pc lv [.double x] h Q := by
  intro hg p e R s m args below meth c H locs cells slots mc ms ls C
  refine vx_ret ?_
  refine W.widen (k := mc) (n := ms) (by have := C.2.2.2.1; omega) (by have := C.2.2.2.1; omega) ?_
  have hlocks := C.1.2.2.2.2.1
  exact W.dret (v := x) C.1.1 C.1.2.1 (C.1.2.2.2.1.trans hr) (fun t ht hW => C.fin hq args t ht) C.2.2.1.2.2.2 hd
theorem J_vret (hd : decode M.2.1 pc = .ok (.return_, 1)) (hr : M.2.2.2.1 = none) (hq : Q (.inl none) h) : J g d ca sa M pc lv [] h Q := by
  intro hg p e R s m args below meth c H locs cells slots mc ms ls C
  refine vx_ret ?_
  refine W.widen (k := mc) (n := ms) (by have := C.2.2.2.1; omega) (by have := C.2.2.2.1; omega) ?_
  have hlocks := C.1.2.2.2.2.1
  exact W.vret C.1.1 C.1.2.1 (C.1.2.2.2.1.trans hr) (fun t ht hW => C.fin hq args t ht) C.2.2.1.2.2.2 hd
theorem J_aret {x : Nat} {t : FieldType} (hd : decode M.2.1 pc = .ok (.areturn, 1)) (hr : M.2.2.2.1 = some (.array t)) (hq : Q (.inl (some (.ref x))) h) : J g d ca sa M pc lv [.ref x] h Q := by
  intro hg p e R s m args below meth c H locs cells slots mc ms ls C
  refine vx_ret ?_
  refine W.widen (k := mc) (n := ms) (by have := C.2.2.2.1; omega) (by have := C.2.2.2.1; omega) ?_
  have hlocks := C.1.2.2.2.2.1
  exact W.aret (v := .ref (ad g x)) C.1.1 C.1.2.1 (C.1.2.2.2.1.trans hr) (Or.inr ⟨t, rfl⟩) (Or.inr ⟨_, rfl⟩) (fun t ht hW => C.fin (v := some (.ref x)) hq args t ht) C.2.2.1.2.2.2 hd
/-- at a method's start -/
def Pcj (g : GT) (av : List Value) (h : MH) : Array Value → State → Prop := fun v U =>
  v = (av.map (em g)).toArray ∧ (g_s g).WarmedH U.vm ∧ g_n g ≤ U.heap.size ∧ (∀ q, q < g_n g → U.heap[q]? = (g_s g).heap[q]?) ∧ Rel g h U.heap
theorem Pcj_blind (av : List Value) : FrameBlind (Pcj g av h) := fun _ _ _ _ q => q
theorem lv_args_em (g : GT) : ∀ (vs : List Value) (i : Nat), lv_args i (vs.map (em g)) = (lv_args i vs).map (fun q => (q.1, em g q.2))
  | [], i => rfl
  | v :: vs, i => by
    show (i, em g v) :: lv_args (if (em g v).category = 2 then i + 2 else i + 1) (vs.map (em g)) = _
    rw [em_cat, lv_args_em g vs]
    rfl
theorem lg_sl_em (g : GT) : ∀ (vs : List Value), (lg_sl (vs.map (em g))).length = (lg_sl vs).length
  | [] => rfl
  | v :: vs => by
    have ih := lg_sl_em g vs
    unfold lg_sl at ih ⊢
    rw [List.map_cons, List.flatMap_cons, List.flatMap_cons, List.length_append, List.length_append, ih, em_cat]
    split <;> rfl
/-- what is known of a method that is called -/
def MOK (M : MT) (n : Nat) : Prop := Cond.code M.1 M.2.1 M.2.2.1 M.2.2.2.1 ∈ lw_tbl ∧ Cond.initialized M.1.cls ∈ lw_tbl ∧ plainName M.1.cls = true ∧ (M.1.cls ≠ "java/lang/invoke/MethodHandle" ∧ M.1.cls ≠ "java/lang/invoke/VarHandle") ∧ (parseMethodDescriptor M.1.desc).map (fun d => d.parameters.length) = some n ∧ M.2.2.1 ≤ 16 ∧ M.2.2.2.2 = []
abbrev wsj (M : MT) : List Cond := [.code M.1 M.2.1 M.2.2.1 M.2.2.2.1]
abbrev rmj (d ca sa : Nat) : Room := { frames := d + 4, cells := ca, slots := sa, locals := 35 * d + 150 }
theorem J_vxmet {av : List Value} {n : Nat} (hg : OkG g) (hM : MOK M n) (hlen : (lg_sl av).length ≤ M.2.2.1) (hj : J g d ca sa M 0 (lv_args 0 av) [] h Q) : vx_Met g.1 M.1 (wsj M) (rmj d ca sa) (Pcj g av h) (Qo g Q) (Xo g Q) ca sa (fun q => g_n g ≤ q) := by
  refine vx_ofW (cc := M.2.1) (maxL := M.2.2.1) (ret := M.2.2.2.1) hM.2.2.1 rfl ?_
  intro p e s m args below meth c s₁ B hml htab hv
  obtain ⟨rfl, hW, hz, ho, hR⟩ := hv
  have hl := lv_entry (av.map (em g)) (n := M.2.2.1) (by rw [lg_sl_em]; exact hlen)
  rw [lg_entry_eq]
  refine hj hg p e _ s m _ below meth c s.heap [] 0 0 ca sa _ ⟨⟨B.exec, B.bytes, hml, B.returns, B.notSynchronized, (name_of_methodNamed B.named B.method).1, findClass_of_methodNamed B.named, ?_⟩, ⟨hW, hz, ho⟩, ⟨ho, Nat.le_refl _, hR, fun q hq => absurd hq List.not_mem_nil⟩, ⟨Nat.le_refl _, Nat.le_refl _, by omega, by omega, Nat.le_refl _, Nat.le_refl _⟩, ?_⟩
  · rw [hM.2.2.2.2.2.2]
    cases he : c.exceptionTable.toList with
    | nil => rfl
    | cons x l => exact (htab x (by rw [he]; exact List.mem_cons_self)).elim
  · rw [← lv_args_em]
    exact hl
theorem J_met {av : List Value} {n : Nat} (hg : OkG g) (hM : MOK M n) (hlen : (lg_sl av).length ≤ M.2.2.1) (hnx : ∀ E h', ¬ Q (.inr E) h') (hj : J g d ca sa M 0 (lv_args 0 av) [] h Q) : Met g.1 M.1 (wsj M) (rmj d ca sa) (Pcj g av h) (Qo g Q) ca sa (fun q => g_n g ≤ q) := by
  intro p e h1 h2 h3 s m args below h4 h5 h6 h7
  obtain ⟨k, o, e1, e2, e3, e4⟩ := J_vxmet hg hM hlen hj p e h1 h2 h3 s m args below h4 h5 h6 h7
  refine ⟨k, o, e1, e2, e3, ?_⟩
  rcases e4 with e4 | ⟨q, -, E, ce, L, ⟨⟨h', c2, -⟩, -⟩, -⟩
  · exact e4
  · exact absurd c2 (hnx _ _)
/-- behind a call that returned -/
theorem J_run {ca1 sa1 ca2 sa2 : Nat} {Q1 : RT → MH → Prop} {rest : List Value} {a' : Array Value} (hg : OkG g) {p : Program} {e : Env} {R : Room} {s : State} {m : MethodId} {args : Array Value} {below : List Frame} {meth : Method} {c : Code} {H : Heap} {locs : List Loc} {cells slots mc ms : Nat} {ls : Array Slot}
    (C : JC g d ca sa M lv h p R s m meth c H locs cells slots mc ms ls) (hr : va_Run p g.1 e R s m args below meth c H locs cells slots ca1 sa1 (F0 m pc ls (st.map (em g))) (rest.map (em g)) (Qo g Q1 a') (fun q => g_n g ≤ q)) (h1 : ca1 + ca2 ≤ ca) (h2 : sa1 + sa2 ≤ sa)
    (kk : ∀ v h', Q1 (.inl v) h' → J g d ca2 sa2 M (pc + 3) lv (v.toList ++ rest) h' Q) : W p g.1 e R s m args below meth c H locs cells slots (vx_MQ below (Qo g Q) (Xo g Q) args s mc ms (fun q => g_n g ≤ q)) (F0 m pc ls (st.map (em g))) := by
  intro T hT X
  obtain ⟨v, st₀, t, T', L, h0, X', hL, e1, e2, ⟨⟨v', h', c1, c2, c3, c4⟩, c5⟩, hst⟩ := hr T hT X
  cases c1
  obtain ⟨b1, b2, ⟨hoH, hsz, hR, hlo⟩, hroom, hl⟩ := id C
  have C' : JC g d ca2 sa2 M lv h' p R s m meth c T'.heap (locs ++ L) (cells + ca1) (slots + sa1) mc ms ls := by
    refine ⟨b1, b2, ⟨by rw [e1]; exact c4, ?_, by rw [e1]; exact c3, fun q hq => ?_⟩, ?_, hl⟩
    · rw [e1]
      rw [h0] at c5
      exact Nat.le_trans hsz c5
    · rcases List.mem_append.mp hq with h9 | h9
      · exact hlo q h9
      · exact hL q h9
    · obtain ⟨z1, z2, z3, z4, z5, z6⟩ := hroom
      exact ⟨z1, z2, by omega, by omega, z5, z6⟩
  obtain ⟨t2, a1, a2⟩ := kk v' h' c2 hg p e R s m args below meth c T'.heap (locs ++ L) (cells + ca1) (slots + sa1) mc ms ls C' T' rfl X'
  refine ⟨t2, hst t2 ?_, a2⟩
  have e9 : (Option.map (em g) v').toList ++ rest.map (em g) = (v'.toList ++ rest).map (em g) := by
    rw [List.map_append]
    cases v' <;> rfl
  show Steps _ _ _ (T'.setTop (F0 m (pc + 3) ls ((Option.map (em g) v').toList ++ rest.map (em g)))) t2
  rw [e9]
  exact a1
/-- the words of a call, by the callee -/
theorem cbj {s : State} {R : Room} {args : Array Value} {own : String} {index n d1 ca1 sa1 : Nat} {M1 : MT} (hg : OkG g) (hW : (g_s g).WarmedH s.vm) (hM : MOK M1 n) (hl : Cond.methodLink own index M1.1 ∈ lw_tbl) (hf : d1 + 4 + 1 ≤ R.frames) (ho : 35 * (d1 + 1) + 150 ≤ R.locals) : CallB R s args own index M1.1 M1.2.1 M1.2.2.1 M1.2.2.2.1 (wsj M1) (rmj d1 ca1 sa1) ca1 sa1 n := by
  obtain ⟨m1, m2, m3, m4, m5, m6, m7⟩ := hM
  refine ⟨rfl, rfl, hf, by show 8 + (M1.2.2.1 + 11) + (35 * d1 + 150) ≤ R.locals; omega, ?_, List.mem_cons_self, wd hg hW m1 (Or.inl rfl) args, wd hg hW m2 (Or.inl rfl) args, m4, fun sig h9 => ?_, wd hg hW hl (Or.inl rfl) args⟩
  · intro w hw a' U hWU
    rw [List.mem_singleton.mp hw]
    exact word_at hWU (Or.inl rfl) (wd hg hW m1 (Or.inl rfl) args)
  · rw [h9] at m5
    exact (Option.some.inj m5).symm
theorem cnj {s : State} {R : Room} {args : Array Value} {own host : String} {index n d1 ca1 sa1 : Nat} {M1 : MT} (hg : OkG g) (hW : (g_s g).WarmedH s.vm) (hM : MOK M1 n) (hl : Cond.methodLinkNest own index M1.1 host ∈ lw_tbl) (hf : d1 + 4 + 1 ≤ R.frames) (ho : 35 * (d1 + 1) + 150 ≤ R.locals) : va_CN R s args own index M1.1 host M1.2.1 M1.2.2.1 M1.2.2.2.1 (wsj M1) (rmj d1 ca1 sa1) ca1 sa1 n := by
  obtain ⟨m1, m2, m3, m4, m5, m6, m7⟩ := hM
  refine ⟨⟨rfl, rfl, hf, by show 8 + (M1.2.2.1 + 11) + (35 * d1 + 150) ≤ R.locals; omega, ?_, List.mem_cons_self⟩, wd hg hW m1 (Or.inl rfl) args, wd hg hW m2 (Or.inl rfl) args, m4, fun sig h9 => ?_, va_Nw.use rfl (va_Nw.warmM hW (va_Nw.of rfl (hg.2.1 _ hl)))⟩
  · intro w hw a' U hWU
    rw [List.mem_singleton.mp hw]
    exact word_at hWU (Or.inl rfl) (wd hg hW m1 (Or.inl rfl) args)
  · rw [h9] at m5
    exact (Option.some.inj m5).symm
theorem prj {p : Program} {R : Room} {s : State} {m : MethodId} {meth : Method} {c : Code} {H : Heap} {locs : List Loc} {cells slots mc ms : Nat} {ls : Array Slot} (C : JC g d ca sa M lv h p R s m meth c H locs cells slots mc ms ls) (av : List Value) : ∀ U : State, U.heap = H → s.WarmedH U.vm → Pcj g av h (av.map (em g)).toArray U := by
  obtain ⟨b1, ⟨hW, hz, ho⟩, ⟨hoH, hsz, hR, hlo⟩, hroom, hl⟩ := C
  intro U hU hWU
  exact ⟨rfl, State.WarmedH.trans hW hWU, by rw [hU]; omega, by rw [hU]; exact hoH, by rw [hU]; exact hR⟩
theorem catj (g : GT) (rest : List Value) : ((rest.map (em g)).map fun v => v.category).sum = (rest.map fun v => v.category).sum := by
  rw [List.map_map]
  congr 1
  apply List.map_congr_left
  intro v _
  exact em_cat g v
theorem recv_j {p : Program} {R : Room} {s : State} {m : MethodId} {meth : Method} {c : Code} {H : Heap} {locs : List Loc} {cells slots mc ms : Nat} {ls : Array Slot} {a ci : Nat} {fs : List Value} {C0 : String} {T : u_T} {N : Nat} (hg : OkG g) (C : JC g d ca sa M lv h p R s m meth c H locs cells slots mc ms ls) (ha : h.2 a = some (.inr (ci, fs))) (hc : vwCl[ci]? = some (C0, T, N)) : ∃ cellB : Cell, H[ad g a]? = some cellB ∧ cellB.vm.isStatics = false ∧ s.vm.findClass C0 = some cellB.cls := by
  obtain ⟨-, -, r, h1, cell, g1, g2, g3, -⟩ := C.2.2.1.2.2.1.2.2 a _ ha
  exact ⟨cell, g1, by rw [g3]; rfl, by rw [g2]; exact ((kd hg C.2.1.1).1 ci _ hc).2.1⟩
/-- an own method called by its name, on an object of its own kind; it throws nothing -/
theorem J_callV {M1 : MT} {index n a ci ca1 sa1 ca2 sa2 : Nat} {fs As : List Value} {Q1 : RT → MH → Prop} {T : u_T} {N : Nat} (hd : decode M.2.1 pc = .ok (.invokevirtual index, 3)) (hM : MOK M1 n) (hl : Cond.methodLink M.1.cls index M1.1 ∈ lw_tbl) (hi : Cond.instanceMethod M1.1 ∈ lw_tbl) (hs : Cond.selects M1.1.cls M1.1 M1.1 ∈ lw_tbl)
    (hc : vwCl[ci]? = some (M1.1.cls, T, N)) (ha : h.2 a = some (.inr (ci, fs))) (hn : As.length = n) (hlen : (lg_sl (.ref a :: As)).length ≤ M1.2.2.1) (hst : (st.map fun v => v.category).sum ≤ 8) (hnx : ∀ E h', ¬ Q1 (.inr E) h') (hj : J g d ca1 sa1 M1 0 (lv_args 0 (.ref a :: As)) [] h Q1) (h1 : ca1 + ca2 ≤ ca) (h2 : sa1 + sa2 ≤ sa)
    (kk : ∀ v h', Q1 (.inl v) h' → J g (d + 1) ca2 sa2 M (pc + 3) lv (v.toList ++ st) h' Q) : J g (d + 1) ca sa M pc lv (As.reverse ++ .ref a :: st) h Q := by
  intro hg p e R s m args below meth c H locs cells slots mc ms ls C
  have hW := C.2.1.1
  have hr := va_runV (As := As.map (em g)) (b := ad g a) (rest := st.map (em g)) (g := F0 m pc ls ((As.reverse ++ .ref a :: st).map (em g))) (cells := cells) (slots := slots) (locs := locs) (H := H) (below := below) (e := e) (l := g.1) (Ts := []) (nL := M.2.2.1) (cc := M.2.1) (p := p) (m := m) (c := c) (s := s) (args := args) (own := M.1.cls) (meth := meth) (R := R) ⟨C.1.1, C.1.2.1, C.1.2.2.1, C.1.2.2.2.2.2.2.1, fun w hw => absurd hw List.not_mem_nil⟩ (J_met hg hM hlen hnx hj) (C := M1.1.cls) (n := n) (index := index) ⟨cbj hg hW hM hl (by have := C.2.2.2.1.1; omega) (by have := C.2.2.2.1.2.1; omega), wd hg hW hi (Or.inl rfl) args, wd hg hW hs (Or.inl rfl) args⟩ ⟨Pcj_blind _, recv_j hg C ha hc, prj C (.ref a :: As)⟩ rfl (by rw [List.length_map]; exact hn) C.2.2.2.2.1 (by rw [List.map_append, List.map_reverse]; rfl) (by rw [catj]; show 2 * 0 + _ ≤ 8; omega) hd (by have := C.2.2.2.1; omega)
  exact J_run hg C hr h1 h2 kk
/-- a static own method of the same file's kind -/
theorem J_callS {M1 : MT} {index n ca1 sa1 ca2 sa2 : Nat} {As : List Value} {Q1 : RT → MH → Prop} (hd : decode M.2.1 pc = .ok (.invokestatic index, 3)) (hM : MOK M1 n) (hl : Cond.methodLink M.1.cls index M1.1 ∈ lw_tbl) (hs : Cond.static M1.1 ∈ lw_tbl)
    (hn : As.length = n) (hlen : (lg_sl As).length ≤ M1.2.2.1) (hst : (st.map fun v => v.category).sum ≤ 8) (hnx : ∀ E h', ¬ Q1 (.inr E) h') (hj : J g d ca1 sa1 M1 0 (lv_args 0 As) [] h Q1) (h1 : ca1 + ca2 ≤ ca) (h2 : sa1 + sa2 ≤ sa)
    (kk : ∀ v h', Q1 (.inl v) h' → J g (d + 1) ca2 sa2 M (pc + 3) lv (v.toList ++ st) h' Q) : J g (d + 1) ca sa M pc lv (As.reverse ++ st) h Q := by
  intro hg p e R s m args below meth c H locs cells slots mc ms ls C
  have hW := C.2.1.1
  have hr := va_runS (As := As.map (em g)) (rest := st.map (em g)) (g := F0 m pc ls ((As.reverse ++ st).map (em g))) (cells := cells) (slots := slots) (locs := locs) (H := H) (below := below) (e := e) (l := g.1) (Ts := []) (nL := M.2.2.1) (cc := M.2.1) (p := p) (m := m) (c := c) (s := s) (args := args) (own := M.1.cls) (meth := meth) (R := R) ⟨C.1.1, C.1.2.1, C.1.2.2.1, C.1.2.2.2.2.2.2.1, fun w hw => absurd hw List.not_mem_nil⟩ (J_met hg hM hlen hnx hj) (n := n) (index := index) ⟨cbj hg hW hM hl (by have := C.2.2.2.1.1; omega) (by have := C.2.2.2.1.2.1; omega), wd hg hW hs (Or.inl rfl) args⟩ ⟨Pcj_blind _, prj C As⟩ rfl (by rw [List.length_map]; exact hn) C.2.2.2.2.1 (by rw [List.map_append, List.map_reverse]) (by rw [catj]; show 2 * 0 + _ ≤ 8; omega) hd (by have := C.2.2.2.1; omega)
  exact J_run hg C hr h1 h2 kk
/-- a private static method of a nest mate -/
theorem J_callSN {M1 : MT} {host : String} {index n ca1 sa1 ca2 sa2 : Nat} {As : List Value} {Q1 : RT → MH → Prop} (hd : decode M.2.1 pc = .ok (.invokestatic index, 3)) (hM : MOK M1 n) (hl : Cond.methodLinkNest M.1.cls index M1.1 host ∈ lw_tbl) (hs : Cond.static M1.1 ∈ lw_tbl)
    (hn : As.length = n) (hlen : (lg_sl As).length ≤ M1.2.2.1) (hst : (st.map fun v => v.category).sum ≤ 8) (hnx : ∀ E h', ¬ Q1 (.inr E) h') (hj : J g d ca1 sa1 M1 0 (lv_args 0 As) [] h Q1) (h1 : ca1 + ca2 ≤ ca) (h2 : sa1 + sa2 ≤ sa)
    (kk : ∀ v h', Q1 (.inl v) h' → J g (d + 1) ca2 sa2 M (pc + 3) lv (v.toList ++ st) h' Q) : J g (d + 1) ca sa M pc lv (As.reverse ++ st) h Q := by
  intro hg p e R s m args below meth c H locs cells slots mc ms ls C
  have hW := C.2.1.1
  have hr := va_runSN (As := As.map (em g)) (rest := st.map (em g)) (g := F0 m pc ls ((As.reverse ++ st).map (em g))) (cells := cells) (slots := slots) (locs := locs) (H := H) (below := below) (e := e) (l := g.1) (Ts := []) (nL := M.2.2.1) (cc := M.2.1) (p := p) (m := m) (c := c) (s := s) (args := args) (own := M.1.cls) (meth := meth) (R := R) ⟨C.1.1, C.1.2.1, C.1.2.2.1, C.1.2.2.2.2.2.2.1, fun w hw => absurd hw List.not_mem_nil⟩ (J_met hg hM hlen hnx hj) (n := n) (index := index) (host := host) ⟨cnj hg hW hM hl (by have := C.2.2.2.1.1; omega) (by have := C.2.2.2.1.2.1; omega), wd hg hW hs (Or.inl rfl) args, trivial⟩ ⟨Pcj_blind _, prj C As⟩ rfl (by rw [List.length_map]; exact hn) C.2.2.2.2.1 (by rw [List.map_append, List.map_reverse]) (by rw [catj]; show 2 * 0 + _ ≤ 8; omega) hd (by have := C.2.2.2.1; omega)
  exact J_run hg C hr h1 h2 kk
/-- a constructor -/
theorem J_callI {M1 : MT} {index n a ca1 sa1 ca2 sa2 : Nat} {As : List Value} {Q1 : RT → MH → Prop} (hd : decode M.2.1 pc = .ok (.invokespecial index, 3)) (hM : MOK M1 n) (hl : Cond.methodLink M.1.cls index M1.1 ∈ lw_tbl) (hi : Cond.instanceMethod M1.1 ∈ lw_tbl) (hy : M1.1.name = "<init>") (hrt : M1.2.2.2.1 = none)
    (hn : As.length = n) (hlen : (lg_sl (.ref a :: As)).length ≤ M1.2.2.1) (hst : (st.map fun v => v.category).sum ≤ 8) (hnx : ∀ E h', ¬ Q1 (.inr E) h') (hj : J g d ca1 sa1 M1 0 (lv_args 0 (.ref a :: As)) [] h Q1) (h1 : ca1 + ca2 ≤ ca) (h2 : sa1 + sa2 ≤ sa)
    (kk : ∀ v h', Q1 (.inl v) h' → J g (d + 1) ca2 sa2 M (pc + 3) lv (v.toList ++ st) h' Q) : J g (d + 1) ca sa M pc lv (As.reverse ++ .ref a :: st) h Q := by
  intro hg p e R s m args below meth c H locs cells slots mc ms ls C
  have hW := C.2.1.1
  have hcb := cbj (R := R) (args := args) (ca1 := ca1) (sa1 := sa1) (d1 := d) hg hW hM hl (by have := C.2.2.2.1.1; omega) (by have := C.2.2.2.1.2.1; omega)
  rw [hrt] at hcb
  have hr := va_runI (As := As.map (em g)) (b := ad g a) (rest := st.map (em g)) (g := F0 m pc ls ((As.reverse ++ .ref a :: st).map (em g))) (cells := cells) (slots := slots) (locs := locs) (H := H) (below := below) (e := e) (l := g.1) (Ts := []) (nL := M.2.2.1) (cc := M.2.1) (p := p) (m := m) (c := c) (s := s) (args := args) (own := M.1.cls) (meth := meth) (R := R) ⟨C.1.1, C.1.2.1, C.1.2.2.1, C.1.2.2.2.2.2.2.1, fun w hw => absurd hw List.not_mem_nil⟩ (J_met hg hM hlen hnx hj) (n := n) (index := index) ⟨hcb, hy, wd hg hW hi (Or.inl rfl) args⟩ ⟨Pcj_blind _, prj C (.ref a :: As)⟩ rfl (by rw [List.length_map]; exact hn) C.2.2.2.2.1 (by rw [List.map_append, List.map_reverse]; rfl) (by rw [catj]; show 2 * 0 + _ ≤ 8; omega) hd (by have := C.2.2.2.1; omega)
  exact J_run hg C hr h1 h2 kk
/-- a private constructor of a nest mate -/
theorem J_callIN {M1 : MT} {host : String} {index n a ca1 sa1 ca2 sa2 : Nat} {As : List Value} {Q1 : RT → MH → Prop} (hd : decode M.2.1 pc = .ok (.invokespecial index, 3)) (hM : MOK M1 n) (hl : Cond.methodLinkNest M.1.cls index M1.1 host ∈ lw_tbl) (hi : Cond.instanceMethod M1.1 ∈ lw_tbl) (hy : M1.1.name = "<init>") (hrt : M1.2.2.2.1 = none)
    (hn : As.length = n) (hlen : (lg_sl (.ref a :: As)).length ≤ M1.2.2.1) (hst : (st.map fun v => v.category).sum ≤ 8) (hnx : ∀ E h', ¬ Q1 (.inr E) h') (hj : J g d ca1 sa1 M1 0 (lv_args 0 (.ref a :: As)) [] h Q1) (h1 : ca1 + ca2 ≤ ca) (h2 : sa1 + sa2 ≤ sa)
    (kk : ∀ v h', Q1 (.inl v) h' → J g (d + 1) ca2 sa2 M (pc + 3) lv (v.toList ++ st) h' Q) : J g (d + 1) ca sa M pc lv (As.reverse ++ .ref a :: st) h Q := by
  intro hg p e R s m args below meth c H locs cells slots mc ms ls C
  have hW := C.2.1.1
  have hcb := cnj (R := R) (args := args) (ca1 := ca1) (sa1 := sa1) (d1 := d) hg hW hM hl (by have := C.2.2.2.1.1; omega) (by have := C.2.2.2.1.2.1; omega)
  rw [hrt] at hcb
  have hr := va_runIN (As := As.map (em g)) (b := ad g a) (rest := st.map (em g)) (g := F0 m pc ls ((As.reverse ++ .ref a :: st).map (em g))) (cells := cells) (slots := slots) (locs := locs) (H := H) (below := below) (e := e) (l := g.1) (Ts := []) (nL := M.2.2.1) (cc := M.2.1) (p := p) (m := m) (c := c) (s := s) (args := args) (own := M.1.cls) (meth := meth) (R := R) ⟨C.1.1, C.1.2.1, C.1.2.2.1, C.1.2.2.2.2.2.2.1, fun w hw => absurd hw List.not_mem_nil⟩ (J_met hg hM hlen hnx hj) (n := n) (index := index) (host := host) ⟨hcb, hy, wd hg hW hi (Or.inl rfl) args⟩ ⟨Pcj_blind _, prj C (.ref a :: As)⟩ rfl (by rw [List.length_map]; exact hn) C.2.2.2.2.1 (by rw [List.map_append, List.map_reverse]; rfl) (by rw [catj]; show 2 * 0 + _ ≤ 8; omega) hd (by have := C.2.2.2.1; omega)
  exact J_run hg C hr h1 h2 kk
end JE
