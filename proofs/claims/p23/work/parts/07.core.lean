/-! The judgement of this proof: J says of a method's body, from an instruction on, over a SMALL heap (cells by their own numbers: 0 the script, 1 and on the cells made since the law's start), that it comes to its end with Q. -/
abbrev MT : Type := MethodName × ByteArray × Nat × Option FieldType × List (Nat × Nat × Nat × Nat)
abbrev MC : Type := (Nat × vp_A) ⊕ (Nat × List Value)
abbrev MH : Type := Nat × (Nat → Option MC)
abbrev RT : Type := Option Value ⊕ String
/-- launch, start, its arguments, the script's cell, length, values, the tables' numbers, the array kinds' numbers -/
abbrev GT : Type := Launch × State × Array Value × Nat × Nat × (Nat → Int32) × va_G × (Nat → ClassId)
def g_s (g : GT) : State := g.2.1
def g_b (g : GT) : Nat := g.2.2.2.1
def g_L (g : GT) : Nat := g.2.2.2.2.1
def g_x (g : GT) : Nat → Int32 := g.2.2.2.2.2.1
def g_D (g : GT) : va_G := g.2.2.2.2.2.2.1
def g_c (g : GT) : Nat → ClassId := g.2.2.2.2.2.2.2
def g_n (g : GT) : Nat := (g_s g).heap.size
def ad (g : GT) (i : Nat) : Nat := if i = 0 then g_b g else g_n g + i - 1
def em (g : GT) (v : Value) : Value := match v with
  | .ref i => .ref (ad g i)
  | v => v
def emA (g : GT) (a : vp_A) : vp_A := match a with
  | (n, .inr (.inr (.inr (.inr f)))) => (n, .inr (.inr (.inr (.inr (fun j => (f j).map (ad g))))))
  | a => a
def emC (g : GT) (c : MC) : va_E := match c with
  | .inl (t, a) => .inl (g_c g t, emA g a)
  | .inr (ci, fs) => .inr (ci, fs.map (em g))
abbrev aI (n : Nat) (f : Nat → Int32) : MC := .inl (0, n, .inl f)
abbrev aJ (n : Nat) (f : Nat → Int64) : MC := .inl (1, n, .inr (.inl f))
abbrev aG (n : Nat) (f : Nat → Option Nat) : MC := .inl (2, n, .inr (.inr (.inr (.inr f))))
abbrev aT (n : Nat) (f : Nat → Option Nat) : MC := .inl (3, n, .inr (.inr (.inr (.inr f))))
abbrev oB (ci : Nat) (fs : List Value) : MC := .inr (ci, fs)
def hset (f : Nat → Option MC) (i : Nat) (c : MC) : Nat → Option MC := fun j => if j = i then some c else f j
theorem hset_s {f : Nat → Option MC} {i : Nat} {c : MC} : hset f i c i = some c := by simp [hset]
theorem hset_n {f : Nat → Option MC} {i j : Nat} {c : MC} (h : j ≠ i) : hset f i c j = f j := by simp [hset, h]
def aty : Nat → FieldType := fun t => match t with
  | 0 => .int
  | 1 => .int
  | 2 => .array .int
  | _ => .object "BeanGroves$Tree"
def Rel (g : GT) (h : MH) (H : Heap) : Prop :=
  1 ≤ h.1 ∧ H.size + 1 = g_n g + h.1 ∧ ∀ i c, h.2 i = some c → 1 ≤ i ∧ i < h.1 ∧ va_at (g_D g) vwCl (ad g i, emC g c) H
/-- what is known of the law's start -/
def OkG (g : GT) : Prop :=
  g.1.flags = flags0 ∧ (∀ w ∈ lw_tbl, w.before g.2.2.1 (g_s g) = true) ∧ va_K (g_D g) vwCl [] (g_s g) ∧
  (∀ t, t < 4 → ArrOfT (g_s g) (g_c g t) (aty t) ∧ (g_s g).vm.findClass ("[" ++ (aty t).toString) = some (g_c g t)) ∧
  va_X (g_b g) (g_L g) (g_x g) (g_s g) (g_s g).heap ∧ g_b g < g_n g ∧ g_L g ≤ 260 ∧ True
def JC (g : GT) (d ca sa : Nat) (M : MT) (lv : List (Nat × Value)) (h : MH) (p : Program) (R : Room) (s : State) (m : MethodId) (meth : Method) (c : Code) (H : Heap) (locs : List Loc) (cells slots mc ms : Nat) (ls : Array Slot) : Prop :=
  (p.tables.exec = Jvm.exec ∧ c.code = M.2.1 ∧ c.maxLocals = M.2.2.1 ∧ meth.sig.returnType = M.2.2.2.1 ∧ meth.locks = false ∧ meth.name = M.1.name ∧ s.vm.findClass M.1.cls = some m.cls ∧ c.exceptionTable.toList.map (fun x => (x.startPc, x.endPc, x.handlerPc, x.catchType)) = M.2.2.2.2) ∧
  ((g_s g).WarmedH s.vm ∧ g_n g ≤ s.heap.size ∧ ∀ q, q < g_n g → s.heap[q]? = (g_s g).heap[q]?) ∧
  ((∀ q, q < g_n g → H[q]? = (g_s g).heap[q]?) ∧ s.heap.size ≤ H.size ∧ Rel g h H ∧ ∀ q ∈ locs, g_n g ≤ q.base) ∧
  (d + 4 ≤ R.frames ∧ 35 * d + 150 ≤ R.locals ∧ cells + ca ≤ mc ∧ slots + sa ≤ ms ∧ mc ≤ R.cells ∧ ms ≤ R.slots) ∧
  lv_has ls M.2.2.1 (lv.map (fun q => (q.1, em g q.2)))
def Qo (g : GT) (Q : RT → MH → Prop) : Array Value → State → Outcome → State → Prop := fun _ st o t =>
  (∃ (v : Option Value) (h : MH), o = .returned (v.map (em g)) ∧ Q (.inl v) h ∧ Rel g h t.heap ∧ ∀ q, q < g_n g → t.heap[q]? = (g_s g).heap[q]?) ∧ st.heap.size ≤ t.heap.size
def Xo (g : GT) (Q : RT → MH → Prop) : String → State → State → Prop := fun E st t =>
  (∃ h : MH, Q (.inr E) h ∧ Rel g h t.heap ∧ ∀ q, q < g_n g → t.heap[q]? = (g_s g).heap[q]?) ∧ st.heap.size ≤ t.heap.size
def J (g : GT) (d ca sa : Nat) (M : MT) (pc : Nat) (lv : List (Nat × Value)) (st : List Value) (h : MH) (Q : RT → MH → Prop) : Prop :=
  OkG g → ∀ (p : Program) (e : Env) (R : Room) (s : State) (m : MethodId) (args : Array Value) (below : List Frame) (meth : Method) (c : Code) (H : Heap) (locs : List Loc) (cells slots mc ms : Nat) (ls : Array Slot),
    JC g d ca sa M lv h p R s m meth c H locs cells slots mc ms ls →
    W p g.1 e R s m args below meth c H locs cells slots (vx_MQ below (Qo g Q) (Xo g Q) args s mc ms (fun q => g_n g ≤ q)) (F0 m pc ls (st.map (em g)))
theorem em_cat (g : GT) (v : Value) : (em g v).category = v.category := by cases v <;> rfl
theorem em_lv {g : GT} {ls : Array Slot} {n i : Nat} {v : Value} {lv : List (Nat × Value)} (h : lv_has ls n (lv.map (fun q => (q.1, em g q.2)))) (hk : lv.lookup i = some v) : ls[i]? = some (.val (em g v)) := by
  refine h.2.2 (i, em g v) (List.mem_map.mpr ⟨(i, v), ?_, rfl⟩)
  clear h
  induction lv with
  | nil => simp at hk
  | cons a l ih =>
    obtain ⟨a1, a2⟩ := a
    rw [List.lookup_cons] at hk
    cases hb : i == a1 with
    | true =>
      rw [hb] at hk
      cases hk
      have : i = a1 := by simpa using hb
      subst this
      exact List.mem_cons_self
    | false =>
      rw [hb] at hk
      exact List.mem_cons_of_mem _ (ih hk)
def ls1 (i : Nat) (v : Value) (lv : List (Nat × Value)) : List (Nat × Value) := (i, v) :: lv.filter (fun q => !(q.1 == i) && !(q.1 + 1 == i && q.2.category == 2))
def ls2 (i : Nat) (v : Value) (lv : List (Nat × Value)) : List (Nat × Value) := (i, v) :: lv.filter (fun q => !(q.1 == i) && (!(q.1 == i + 1) && !(q.1 + 1 == i && q.2.category == 2)))
theorem em_ls1 (g : GT) (i : Nat) (v : Value) (lv : List (Nat × Value)) : (i, em g v) :: (lv.map (fun q => (q.1, em g q.2))).filter (fun q => !(q.1 == i) && !(q.1 + 1 == i && q.2.category == 2)) = (ls1 i v lv).map (fun q => (q.1, em g q.2)) := by
  unfold ls1
  rw [List.map_cons, List.filter_map]
  congr 2
  apply List.filter_congr
  intro a _
  simp only [Function.comp_apply, em_cat]
theorem em_ls2 (g : GT) (i : Nat) (v : Value) (lv : List (Nat × Value)) : (i, em g v) :: (lv.map (fun q => (q.1, em g q.2))).filter (fun q => !(q.1 == i) && (!(q.1 == i + 1) && !(q.1 + 1 == i && q.2.category == 2))) = (ls2 i v lv).map (fun q => (q.1, em g q.2)) := by
  unfold ls2
  rw [List.map_cons, List.filter_map]
  congr 2
  apply List.filter_congr
  intro a _
  simp only [Function.comp_apply, em_cat]
theorem JC.lv {g : GT} {d ca sa : Nat} {M : MT} {lv lv' : List (Nat × Value)} {h : MH} {p : Program} {R : Room} {s : State} {m : MethodId} {meth : Method} {c : Code} {H : Heap} {locs : List Loc} {cells slots mc ms : Nat} {ls ls' : Array Slot} (C : JC g d ca sa M lv h p R s m meth c H locs cells slots mc ms ls) (hl : lv_has ls' M.2.2.1 (lv'.map (fun q => (q.1, em g q.2)))) : JC g d ca sa M lv' h p R s m meth c H locs cells slots mc ms ls' := ⟨C.1, C.2.1, C.2.2.1, C.2.2.2.1, hl⟩
section JR
variable {g : GT} {d ca sa : Nat} {M : MT} {pc : Nat} {lv lv' : List (Nat × Value)} {st : List Value} {h : MH} {Q Q' : RT → MH → Prop}
theorem J_mono (hq : ∀ r h, Q r h → Q' r h) (k : J g d ca sa M pc lv st h Q) : J g d ca sa M pc lv st h Q' := by
  intro hg p e R s m args below meth c H locs cells slots mc ms ls C T hT X
  obtain ⟨t, a1, o, b1, b2, b3⟩ := k hg p e R s m args below meth c H locs cells slots mc ms ls C T hT X
  refine ⟨t, a1, o, b1, b2, ?_⟩
  rcases b3 with ⟨⟨⟨v, h', c1, c2, c3⟩, c4⟩, b4⟩ | ⟨q, c0, E, ce, L, ⟨⟨h', c2, c3⟩, c4⟩, c5⟩
  · exact Or.inl ⟨⟨⟨v, h', c1, hq _ _ c2, c3⟩, c4⟩, b4⟩
  · exact Or.inr ⟨q, c0, E, ce, L, ⟨⟨h', hq _ _ c2, c3⟩, c4⟩, c5⟩
theorem J_bud {ca' sa' : Nat} (h1 : ca' ≤ ca) (h2 : sa' ≤ sa) (k : J g d ca' sa' M pc lv st h Q) : J g d ca sa M pc lv st h Q := by
  intro hg p e R s m args below meth c H locs cells slots mc ms ls C
  refine k hg p e R s m args below meth c H locs cells slots mc ms ls ⟨C.1, C.2.1, C.2.2.1, ?_, C.2.2.2.2⟩
  obtain ⟨a1, a2, a3, a4, a5, a6⟩ := C.2.2.2.1
  exact ⟨a1, a2, by omega, by omega, a5, a6⟩
theorem J_eq {pc' : Nat} {st' : List Value} (h1 : pc = pc') (h2 : lv = lv') (h3 : st = st') (k : J g d ca sa M pc' lv' st' h Q) : J g d ca sa M pc lv st h Q := by subst h1; subst h2; subst h3; exact k

theorem J_iconst {n : Int} {v : Int32} (hd : decode M.2.1 pc = .ok (.iconst n, 1)) (hv : Int32.ofInt n = v) (k : J g d ca sa M (pc + 1) lv (.int v :: st) h Q) : J g d ca sa M pc lv (st) h Q := by
  intro hg p e R s m args below meth c H locs cells slots mc ms ls C
  exact lv_iconst C.1.1 C.1.2.1 hd hv (k hg p e R s m args below meth c H locs cells slots mc ms ls C)
theorem J_bipush {n : Int} {v : Int32} (hd : decode M.2.1 pc = .ok (.bipush n, 2)) (hv : (Int8.ofInt n).toInt32 = v) (k : J g d ca sa M (pc + 2) lv (.int v :: st) h Q) : J g d ca sa M pc lv (st) h Q := by
  intro hg p e R s m args below meth c H locs cells slots mc ms ls C
  exact lv_bipush C.1.1 C.1.2.1 hd hv (k hg p e R s m args below meth c H locs cells slots mc ms ls C)
theorem J_sipush {n : Int} {v : Int32} (hd : decode M.2.1 pc = .ok (.sipush n, 3)) (hv : (Int16.ofInt n).toInt32 = v) (k : J g d ca sa M (pc + 3) lv (.int v :: st) h Q) : J g d ca sa M pc lv (st) h Q := by
  intro hg p e R s m args below meth c H locs cells slots mc ms ls C
  exact lv_sipush C.1.1 C.1.2.1 hd hv (k hg p e R s m args below meth c H locs cells slots mc ms ls C)
theorem J_lconst {n : Fin 2} {v : Int64} (hd : decode M.2.1 pc = .ok (.lconst n, 1)) (hv : Int64.ofNat (n : Nat) = v) (k : J g d ca sa M (pc + 1) lv (.long v :: st) h Q) : J g d ca sa M pc lv (st) h Q := by
  intro hg p e R s m args below meth c H locs cells slots mc ms ls C
  exact lv_lconst C.1.1 C.1.2.1 hd hv (k hg p e R s m args below meth c H locs cells slots mc ms ls C)
theorem J_dconst0  (hd : decode M.2.1 pc = .ok (.dconst 0, 1)) (k : J g d ca sa M (pc + 1) lv (.double FP.dconst0 :: st) h Q) : J g d ca sa M pc lv (st) h Q := by
  intro hg p e R s m args below meth c H locs cells slots mc ms ls C
  exact lv_dconst0 C.1.1 C.1.2.1 hd (k hg p e R s m args below meth c H locs cells slots mc ms ls C)
theorem J_iload_n {k0 : Fin 4} {i : Nat} {x : Int32} (hd : decode M.2.1 pc = .ok (.iload_n k0, 1)) (hi : (k0 : Nat) = i) (hl : lv.lookup i = some (.int x)) (k : J g d ca sa M (pc + 1) lv (.int x :: st) h Q) : J g d ca sa M pc lv (st) h Q := by
  intro hg p e R s m args below meth c H locs cells slots mc ms ls C
  exact lv_iload_n C.1.1 C.1.2.1 hd hi (em_lv C.2.2.2.2 hl) (k hg p e R s m args below meth c H locs cells slots mc ms ls C)
theorem J_iload {i : Nat} {x : Int32} (hd : decode M.2.1 pc = .ok (.iload i, 2)) (hl : lv.lookup i = some (.int x)) (k : J g d ca sa M (pc + 2) lv (.int x :: st) h Q) : J g d ca sa M pc lv (st) h Q := by
  intro hg p e R s m args below meth c H locs cells slots mc ms ls C
  exact lv_iload C.1.1 C.1.2.1 hd (em_lv C.2.2.2.2 hl) (k hg p e R s m args below meth c H locs cells slots mc ms ls C)
theorem J_lload_n {k0 : Fin 4} {i : Nat} {x : Int64} (hd : decode M.2.1 pc = .ok (.lload_n k0, 1)) (hi : (k0 : Nat) = i) (hl : lv.lookup i = some (.long x)) (k : J g d ca sa M (pc + 1) lv (.long x :: st) h Q) : J g d ca sa M pc lv (st) h Q := by
  intro hg p e R s m args below meth c H locs cells slots mc ms ls C
  exact lv_lload_n C.1.1 C.1.2.1 hd hi (em_lv C.2.2.2.2 hl) (k hg p e R s m args below meth c H locs cells slots mc ms ls C)
theorem J_lload {i : Nat} {x : Int64} (hd : decode M.2.1 pc = .ok (.lload i, 2)) (hl : lv.lookup i = some (.long x)) (k : J g d ca sa M (pc + 2) lv (.long x :: st) h Q) : J g d ca sa M pc lv (st) h Q := by
  intro hg p e R s m args below meth c H locs cells slots mc ms ls C
  exact lv_lload C.1.1 C.1.2.1 hd (em_lv C.2.2.2.2 hl) (k hg p e R s m args below meth c H locs cells slots mc ms ls C)
theorem J_dload_n {k0 : Fin 4} {i : Nat} {x : UInt64} (hd : decode M.2.1 pc = .ok (.dload_n k0, 1)) (hi : (k0 : Nat) = i) (hl : lv.lookup i = some (.double x)) (k : J g d ca sa M (pc + 1) lv (.double x :: st) h Q) : J g d ca sa M pc lv (st) h Q := by
  intro hg p e R s m args below meth c H locs cells slots mc ms ls C
  exact lv_dload_n C.1.1 C.1.2.1 hd hi (em_lv C.2.2.2.2 hl) (k hg p e R s m args below meth c H locs cells slots mc ms ls C)
theorem J_dload {i : Nat} {x : UInt64} (hd : decode M.2.1 pc = .ok (.dload i, 2)) (hl : lv.lookup i = some (.double x)) (k : J g d ca sa M (pc + 2) lv (.double x :: st) h Q) : J g d ca sa M pc lv (st) h Q := by
  intro hg p e R s m args below meth c H locs cells slots mc ms ls C
  exact lv_dload C.1.1 C.1.2.1 hd (em_lv C.2.2.2.2 hl) (k hg p e R s m args below meth c H locs cells slots mc ms ls C)
theorem J_aload_n {k0 : Fin 4} {i x : Nat} (hd : decode M.2.1 pc = .ok (.aload_n k0, 1)) (hi : (k0 : Nat) = i) (hl : lv.lookup i = some (.ref x)) (k : J g d ca sa M (pc + 1) lv (.ref x :: st) h Q) : J g d ca sa M pc lv (st) h Q := by
  intro hg p e R s m args below meth c H locs cells slots mc ms ls C
  exact lv_aload_n C.1.1 C.1.2.1 hd hi (em_lv C.2.2.2.2 hl) (k hg p e R s m args below meth c H locs cells slots mc ms ls C)
theorem J_aload {i x : Nat} (hd : decode M.2.1 pc = .ok (.aload i, 2)) (hl : lv.lookup i = some (.ref x)) (k : J g d ca sa M (pc + 2) lv (.ref x :: st) h Q) : J g d ca sa M pc lv (st) h Q := by
  intro hg p e R s m args below meth c H locs cells slots mc ms ls C
  exact lv_aload C.1.1 C.1.2.1 hd (em_lv C.2.2.2.2 hl) (k hg p e R s m args below meth c H locs cells slots mc ms ls C)
theorem J_istore_n {k0 : Fin 4} {i : Nat} {x : Int32} (hd : decode M.2.1 pc = .ok (.istore_n k0, 1)) (hi : (k0 : Nat) = i) (hn : i < M.2.2.1) (hl : ls1 i (.int x) lv = lv') (k : J g d ca sa M (pc + 1) lv' st h Q) : J g d ca sa M pc lv (.int x :: st) h Q := by
  intro hg p e R s m args below meth c H locs cells slots mc ms ls C
  subst hl
  exact lv_istore_n C.1.1 C.1.2.1 hd hi C.2.2.2.2 hn (em_ls1 g i (.int x) lv) (fun ls' hl' => k hg p e R s m args below meth c H locs cells slots mc ms ls' (C.lv hl'))
theorem J_istore {i : Nat} {x : Int32} (hd : decode M.2.1 pc = .ok (.istore i, 2)) (hn : i < M.2.2.1) (hl : ls1 i (.int x) lv = lv') (k : J g d ca sa M (pc + 2) lv' st h Q) : J g d ca sa M pc lv (.int x :: st) h Q := by
  intro hg p e R s m args below meth c H locs cells slots mc ms ls C
  subst hl
  exact lv_istore C.1.1 C.1.2.1 hd C.2.2.2.2 hn (em_ls1 g i (.int x) lv) (fun ls' hl' => k hg p e R s m args below meth c H locs cells slots mc ms ls' (C.lv hl'))
theorem J_lstore_n {k0 : Fin 4} {i : Nat} {x : Int64} (hd : decode M.2.1 pc = .ok (.lstore_n k0, 1)) (hi : (k0 : Nat) = i) (hn : i + 1 < M.2.2.1) (hl : ls2 i (.long x) lv = lv') (k : J g d ca sa M (pc + 1) lv' st h Q) : J g d ca sa M pc lv (.long x :: st) h Q := by
  intro hg p e R s m args below meth c H locs cells slots mc ms ls C
  subst hl
  exact lv_lstore_n C.1.1 C.1.2.1 hd hi C.2.2.2.2 hn (em_ls2 g i (.long x) lv) (fun ls' hl' => k hg p e R s m args below meth c H locs cells slots mc ms ls' (C.lv hl'))
theorem J_lstore {i : Nat} {x : Int64} (hd : decode M.2.1 pc = .ok (.lstore i, 2)) (hn : i + 1 < M.2.2.1) (hl : ls2 i (.long x) lv = lv') (k : J g d ca sa M (pc + 2) lv' st h Q) : J g d ca sa M pc lv (.long x :: st) h Q := by
  intro hg p e R s m args below meth c H locs cells slots mc ms ls C
  subst hl
  exact lv_lstore C.1.1 C.1.2.1 hd C.2.2.2.2 hn (em_ls2 g i (.long x) lv) (fun ls' hl' => k hg p e R s m args below meth c H locs cells slots mc ms ls' (C.lv hl'))
theorem J_dstore_n {k0 : Fin 4} {i : Nat} {x : UInt64} (hd : decode M.2.1 pc = .ok (.dstore_n k0, 1)) (hi : (k0 : Nat) = i) (hn : i + 1 < M.2.2.1) (hl : ls2 i (.double x) lv = lv') (k : J g d ca sa M (pc + 1) lv' st h Q) : J g d ca sa M pc lv (.double x :: st) h Q := by
  intro hg p e R s m args below meth c H locs cells slots mc ms ls C
  subst hl
  exact lv_dstore_n C.1.1 C.1.2.1 hd hi C.2.2.2.2 hn (em_ls2 g i (.double x) lv) (fun ls' hl' => k hg p e R s m args below meth c H locs cells slots mc ms ls' (C.lv hl'))
theorem J_dstore {i : Nat} {x : UInt64} (hd : decode M.2.1 pc = .ok (.dstore i, 2)) (hn : i + 1 < M.2.2.1) (hl : ls2 i (.double x) lv = lv') (k : J g d ca sa M (pc + 2) lv' st h Q) : J g d ca sa M pc lv (.double x :: st) h Q := by
  intro hg p e R s m args below meth c H locs cells slots mc ms ls C
  subst hl
  exact lv_dstore C.1.1 C.1.2.1 hd C.2.2.2.2 hn (em_ls2 g i (.double x) lv) (fun ls' hl' => k hg p e R s m args below meth c H locs cells slots mc ms ls' (C.lv hl'))
theorem J_astore_n {k0 : Fin 4} {i : Nat} {x : Nat} (hd : decode M.2.1 pc = .ok (.astore_n k0, 1)) (hi : (k0 : Nat) = i) (hn : i < M.2.2.1) (hl : ls1 i (.ref x) lv = lv') (k : J g d ca sa M (pc + 1) lv' st h Q) : J g d ca sa M pc lv (.ref x :: st) h Q := by
  intro hg p e R s m args below meth c H locs cells slots mc ms ls C
  subst hl
  exact lv_astore_n C.1.1 C.1.2.1 hd hi C.2.2.2.2 hn (em_ls1 g i (.ref x) lv) (fun ls' hl' => k hg p e R s m args below meth c H locs cells slots mc ms ls' (C.lv hl'))
theorem J_astore {i : Nat} {x : Nat} (hd : decode M.2.1 pc = .ok (.astore i, 2)) (hn : i < M.2.2.1) (hl : ls1 i (.ref x) lv = lv') (k : J g d ca sa M (pc + 2) lv' st h Q) : J g d ca sa M pc lv (.ref x :: st) h Q := by
  intro hg p e R s m args below meth c H locs cells slots mc ms ls C
  subst hl
  exact lv_astore C.1.1 C.1.2.1 hd C.2.2.2.2 hn (em_ls1 g i (.ref x) lv) (fun ls' hl' => k hg p e R s m args below meth c H locs cells slots mc ms ls' (C.lv hl'))
theorem J_iinc {i : Nat} {n : Int} {x v : Int32} (hd : decode M.2.1 pc = .ok (.iinc i n, 3)) (hk : lv.lookup i = some (.int x)) (hv : x + Int32.ofInt n = v) (hn : i < M.2.2.1) (hl : ls1 i (.int v) lv = lv') (k : J g d ca sa M (pc + 3) lv' st h Q) : J g d ca sa M pc lv st h Q := by
  intro hg p e R s m args below meth c H locs cells slots mc ms ls C
  subst hl
  subst hv
  obtain ⟨ls', e', h'⟩ := lv_store1 (v := .int (x + Int32.ofInt n)) C.2.2.2.2 hn rfl
  have hg9 := em_lv C.2.2.2.2 hk
  have hg9 : ls[i]? = some (.val (.int x)) := hg9
  have k9 := k hg p e R s m args below meth c H locs cells slots mc ms ls' (C.lv (by rw [← em_ls1]; exact h'))
  intro T hT X
  obtain ⟨t, a, b⟩ := k9 T hT X
  refine ⟨t, ?_, b⟩
  have hx := C.1.1
  have hb := C.1.2.1
  jvm_step X.here [X.here.top, ↓top_set X.here.top, hx, hb, hd, hg9, e']
  exact a
theorem J_iadd {x y : Int32} (hd : decode M.2.1 pc = .ok (.iadd, 1)) (k : J g d ca sa M (pc + 1) lv (.int (x + y) :: st) h Q) : J g d ca sa M pc lv (.int y :: .int x :: st) h Q := by
  intro hg p e R s m args below meth c H locs cells slots mc ms ls C
  exact lv_iadd C.1.1 C.1.2.1 hd (k hg p e R s m args below meth c H locs cells slots mc ms ls C)
theorem J_isub {x y : Int32} (hd : decode M.2.1 pc = .ok (.isub, 1)) (k : J g d ca sa M (pc + 1) lv (.int (x - y) :: st) h Q) : J g d ca sa M pc lv (.int y :: .int x :: st) h Q := by
  intro hg p e R s m args below meth c H locs cells slots mc ms ls C
  exact lv_isub C.1.1 C.1.2.1 hd (k hg p e R s m args below meth c H locs cells slots mc ms ls C)
theorem J_imul {x y : Int32} (hd : decode M.2.1 pc = .ok (.imul, 1)) (k : J g d ca sa M (pc + 1) lv (.int (x * y) :: st) h Q) : J g d ca sa M pc lv (.int y :: .int x :: st) h Q := by
  intro hg p e R s m args below meth c H locs cells slots mc ms ls C
  exact lv_imul C.1.1 C.1.2.1 hd (k hg p e R s m args below meth c H locs cells slots mc ms ls C)
theorem J_iand {x y : Int32} (hd : decode M.2.1 pc = .ok (.iand, 1)) (k : J g d ca sa M (pc + 1) lv (.int (x &&& y) :: st) h Q) : J g d ca sa M pc lv (.int y :: .int x :: st) h Q := by
  intro hg p e R s m args below meth c H locs cells slots mc ms ls C
  exact lv_iand C.1.1 C.1.2.1 hd (k hg p e R s m args below meth c H locs cells slots mc ms ls C)
theorem J_ior {x y : Int32} (hd : decode M.2.1 pc = .ok (.ior, 1)) (k : J g d ca sa M (pc + 1) lv (.int (x ||| y) :: st) h Q) : J g d ca sa M pc lv (.int y :: .int x :: st) h Q := by
  intro hg p e R s m args below meth c H locs cells slots mc ms ls C
  exact lv_ior C.1.1 C.1.2.1 hd (k hg p e R s m args below meth c H locs cells slots mc ms ls C)
theorem J_ixor {x y : Int32} (hd : decode M.2.1 pc = .ok (.ixor, 1)) (k : J g d ca sa M (pc + 1) lv (.int (x ^^^ y) :: st) h Q) : J g d ca sa M pc lv (.int y :: .int x :: st) h Q := by
  intro hg p e R s m args below meth c H locs cells slots mc ms ls C
  exact lv_ixor C.1.1 C.1.2.1 hd (k hg p e R s m args below meth c H locs cells slots mc ms ls C)
theorem J_ishl {x y : Int32} (hd : decode M.2.1 pc = .ok (.ishl, 1)) (k : J g d ca sa M (pc + 1) lv (.int (x <<< (y &&& 31)) :: st) h Q) : J g d ca sa M pc lv (.int y :: .int x :: st) h Q := by
  intro hg p e R s m args below meth c H locs cells slots mc ms ls C
  exact lv_ishl C.1.1 C.1.2.1 hd (k hg p e R s m args below meth c H locs cells slots mc ms ls C)
theorem J_ishr {x y : Int32} (hd : decode M.2.1 pc = .ok (.ishr, 1)) (k : J g d ca sa M (pc + 1) lv (.int (x >>> (y &&& 31)) :: st) h Q) : J g d ca sa M pc lv (.int y :: .int x :: st) h Q := by
  intro hg p e R s m args below meth c H locs cells slots mc ms ls C
  exact lv_ishr C.1.1 C.1.2.1 hd (k hg p e R s m args below meth c H locs cells slots mc ms ls C)
theorem J_idiv {x y : Int32} (hd : decode M.2.1 pc = .ok (.idiv, 1)) (hne : ¬ y = 0) (k : J g d ca sa M (pc + 1) lv (.int (x / y) :: st) h Q) : J g d ca sa M pc lv (.int y :: .int x :: st) h Q := by
  intro hg p e R s m args below meth c H locs cells slots mc ms ls C
  exact lv_idiv C.1.1 C.1.2.1 hd hne (k hg p e R s m args below meth c H locs cells slots mc ms ls C)
theorem J_irem {x y : Int32} (hd : decode M.2.1 pc = .ok (.irem, 1)) (hne : ¬ y = 0) (k : J g d ca sa M (pc + 1) lv (.int (x - x / y * y) :: st) h Q) : J g d ca sa M pc lv (.int y :: .int x :: st) h Q := by
  intro hg p e R s m args below meth c H locs cells slots mc ms ls C
  exact lv_irem C.1.1 C.1.2.1 hd hne (k hg p e R s m args below meth c H locs cells slots mc ms ls C)
theorem J_ladd {x y : Int64} (hd : decode M.2.1 pc = .ok (.ladd, 1)) (k : J g d ca sa M (pc + 1) lv (.long (x + y) :: st) h Q) : J g d ca sa M pc lv (.long y :: .long x :: st) h Q := by
  intro hg p e R s m args below meth c H locs cells slots mc ms ls C
  exact lv_ladd C.1.1 C.1.2.1 hd (k hg p e R s m args below meth c H locs cells slots mc ms ls C)
theorem J_lsub {x y : Int64} (hd : decode M.2.1 pc = .ok (.lsub, 1)) (k : J g d ca sa M (pc + 1) lv (.long (x - y) :: st) h Q) : J g d ca sa M pc lv (.long y :: .long x :: st) h Q := by
  intro hg p e R s m args below meth c H locs cells slots mc ms ls C
  exact lv_lsub C.1.1 C.1.2.1 hd (k hg p e R s m args below meth c H locs cells slots mc ms ls C)
theorem J_lmul {x y : Int64} (hd : decode M.2.1 pc = .ok (.lmul, 1)) (k : J g d ca sa M (pc + 1) lv (.long (x * y) :: st) h Q) : J g d ca sa M pc lv (.long y :: .long x :: st) h Q := by
  intro hg p e R s m args below meth c H locs cells slots mc ms ls C
  exact lv_lmul C.1.1 C.1.2.1 hd (k hg p e R s m args below meth c H locs cells slots mc ms ls C)
theorem J_ldiv {x y : Int64} (hd : decode M.2.1 pc = .ok (.ldiv, 1)) (hne : ¬ y = 0) (k : J g d ca sa M (pc + 1) lv (.long (x / y) :: st) h Q) : J g d ca sa M pc lv (.long y :: .long x :: st) h Q := by
  intro hg p e R s m args below meth c H locs cells slots mc ms ls C
  exact lv_ldiv C.1.1 C.1.2.1 hd hne (k hg p e R s m args below meth c H locs cells slots mc ms ls C)
theorem J_lrem {x y : Int64} (hd : decode M.2.1 pc = .ok (.lrem, 1)) (hne : ¬ y = 0) (k : J g d ca sa M (pc + 1) lv (.long (x - x / y * y) :: st) h Q) : J g d ca sa M pc lv (.long y :: .long x :: st) h Q := by
  intro hg p e R s m args below meth c H locs cells slots mc ms ls C
  exact lv_lrem C.1.1 C.1.2.1 hd hne (k hg p e R s m args below meth c H locs cells slots mc ms ls C)
theorem J_iushr {x y : Int32} (hd : decode M.2.1 pc = .ok (.iushr, 1)) (k : J g d ca sa M (pc + 1) lv (.int ((x.toUInt32 >>> (y.toUInt32 &&& Int32.toUInt32 31)).toInt32) :: st) h Q) : J g d ca sa M pc lv (.int y :: .int x :: st) h Q := by
  intro hg p e R s m args below meth c H locs cells slots mc ms ls C
  exact lv_iushr C.1.1 C.1.2.1 hd rfl (k hg p e R s m args below meth c H locs cells slots mc ms ls C)
theorem J_i2l {x : Int32} (hd : decode M.2.1 pc = .ok (.i2l, 1)) (k : J g d ca sa M (pc + 1) lv (.long x.toInt64 :: st) h Q) : J g d ca sa M pc lv (.int x :: st) h Q := by
  intro hg p e R s m args below meth c H locs cells slots mc ms ls C
  exact lv_i2l C.1.1 C.1.2.1 hd rfl (k hg p e R s m args below meth c H locs cells slots mc ms ls C)
theorem J_l2i {x : Int64} (hd : decode M.2.1 pc = .ok (.l2i, 1)) (k : J g d ca sa M (pc + 1) lv (.int x.toInt32 :: st) h Q) : J g d ca sa M pc lv (.long x :: st) h Q := by
  intro hg p e R s m args below meth c H locs cells slots mc ms ls C
  exact lv_l2i C.1.1 C.1.2.1 hd rfl (k hg p e R s m args below meth c H locs cells slots mc ms ls C)
theorem J_i2d {x : Int32} (hd : decode M.2.1 pc = .ok (.i2d, 1)) (k : J g d ca sa M (pc + 1) lv (.double (FP.i2d x) :: st) h Q) : J g d ca sa M pc lv (.int x :: st) h Q := by
  intro hg p e R s m args below meth c H locs cells slots mc ms ls C
  exact lv_i2d C.1.1 C.1.2.1 hd (k hg p e R s m args below meth c H locs cells slots mc ms ls C)
theorem J_ddiv {x y : UInt64} (hd : decode M.2.1 pc = .ok (.ddiv, 1)) (hne : vf_n64 (FP.ddiv x y)) (k : J g d ca sa M (pc + 1) lv (.double (FP.ddiv x y) :: st) h Q) : J g d ca sa M pc lv (.double y :: .double x :: st) h Q := by
  intro hg p e R s m args below meth c H locs cells slots mc ms ls C
  exact lv_ddiv C.1.1 C.1.2.1 hd hne (k hg p e R s m args below meth c H locs cells slots mc ms ls C)
theorem J_dcmp {x y : UInt64} {op : CmpOp} (hd : decode M.2.1 pc = .ok (.dcmp op, 1)) (k : J g d ca sa M (pc + 1) lv (.int (Op.cmpValue (FP.dcmp x y) op) :: st) h Q) : J g d ca sa M pc lv (.double y :: .double x :: st) h Q := by
  intro hg p e R s m args below meth c H locs cells slots mc ms ls C
  exact lv_dcmp C.1.1 C.1.2.1 hd (k hg p e R s m args below meth c H locs cells slots mc ms ls C)
theorem J_lcmp {x y : Int64} (hd : decode M.2.1 pc = .ok (.lcmp, 1)) (k : J g d ca sa M (pc + 1) lv (.int (lg_cmp x y) :: st) h Q) : J g d ca sa M pc lv (.long y :: .long x :: st) h Q := by
  intro hg p e R s m args below meth c H locs cells slots mc ms ls C
  exact W.lcmp C.1.1 C.1.2.1 hd (k hg p e R s m args below meth c H locs cells slots mc ms ls C)
theorem J_dup {v : Value} (hd : decode M.2.1 pc = .ok (.dup, 1)) (hv : v.category = 1) (k : J g d ca sa M (pc + 1) lv (v :: v :: st) h Q) : J g d ca sa M pc lv (v :: st) h Q := by
  intro hg p e R s m args below meth c H locs cells slots mc ms ls C
  exact lv_dup C.1.1 C.1.2.1 hd (by rw [em_cat]; exact hv) (k hg p e R s m args below meth c H locs cells slots mc ms ls C)
theorem J_dup2 {v u : Value} (hd : decode M.2.1 pc = .ok (.dup2, 1)) (hv : v.category = 1) (hu : u.category = 1) (k : J g d ca sa M (pc + 1) lv (v :: u :: v :: u :: st) h Q) : J g d ca sa M pc lv (v :: u :: st) h Q := by
  intro hg p e R s m args below meth c H locs cells slots mc ms ls C
  exact lv_dup2_11 C.1.1 C.1.2.1 hd (by rw [em_cat]; exact hv) (by rw [em_cat]; exact hu) (k hg p e R s m args below meth c H locs cells slots mc ms ls C)
theorem J_if_eq {x : Int32} {off : Int} {tgt : Nat} (hd : decode M.2.1 pc = .ok (.ifCond .eq off, 3)) (ht : (pc : Int) + off = (tgt : Int)) (kt : x = 0 → J g d ca sa M tgt lv st h Q) (kf : ¬ x = 0 → J g d ca sa M (pc + 3) lv st h Q) : J g d ca sa M pc lv (.int x :: st) h Q := by
  intro hg p e R s m args below meth c H locs cells slots mc ms ls C
  exact lv_if_eq C.1.1 C.1.2.1 hd ht (fun q => kt q hg p e R s m args below meth c H locs cells slots mc ms ls C) (fun q => kf q hg p e R s m args below meth c H locs cells slots mc ms ls C)
theorem J_if_ne {x : Int32} {off : Int} {tgt : Nat} (hd : decode M.2.1 pc = .ok (.ifCond .ne off, 3)) (ht : (pc : Int) + off = (tgt : Int)) (kt : ¬ x = 0 → J g d ca sa M tgt lv st h Q) (kf : x = 0 → J g d ca sa M (pc + 3) lv st h Q) : J g d ca sa M pc lv (.int x :: st) h Q := by
  intro hg p e R s m args below meth c H locs cells slots mc ms ls C
  exact lv_if_ne C.1.1 C.1.2.1 hd ht (fun q => kt q hg p e R s m args below meth c H locs cells slots mc ms ls C) (fun q => kf q hg p e R s m args below meth c H locs cells slots mc ms ls C)
theorem J_if_lt {x : Int32} {off : Int} {tgt : Nat} (hd : decode M.2.1 pc = .ok (.ifCond .lt off, 3)) (ht : (pc : Int) + off = (tgt : Int)) (kt : x < 0 → J g d ca sa M tgt lv st h Q) (kf : ¬ x < 0 → J g d ca sa M (pc + 3) lv st h Q) : J g d ca sa M pc lv (.int x :: st) h Q := by
  intro hg p e R s m args below meth c H locs cells slots mc ms ls C
  exact lv_if_lt C.1.1 C.1.2.1 hd ht (fun q => kt q hg p e R s m args below meth c H locs cells slots mc ms ls C) (fun q => kf q hg p e R s m args below meth c H locs cells slots mc ms ls C)
theorem J_if_ge {x : Int32} {off : Int} {tgt : Nat} (hd : decode M.2.1 pc = .ok (.ifCond .ge off, 3)) (ht : (pc : Int) + off = (tgt : Int)) (kt : 0 ≤ x → J g d ca sa M tgt lv st h Q) (kf : ¬ 0 ≤ x → J g d ca sa M (pc + 3) lv st h Q) : J g d ca sa M pc lv (.int x :: st) h Q := by
  intro hg p e R s m args below meth c H locs cells slots mc ms ls C
  exact lv_if_ge C.1.1 C.1.2.1 hd ht (fun q => kt q hg p e R s m args below meth c H locs cells slots mc ms ls C) (fun q => kf q hg p e R s m args below meth c H locs cells slots mc ms ls C)
theorem J_if_gt {x : Int32} {off : Int} {tgt : Nat} (hd : decode M.2.1 pc = .ok (.ifCond .gt off, 3)) (ht : (pc : Int) + off = (tgt : Int)) (kt : 0 < x → J g d ca sa M tgt lv st h Q) (kf : ¬ 0 < x → J g d ca sa M (pc + 3) lv st h Q) : J g d ca sa M pc lv (.int x :: st) h Q := by
  intro hg p e R s m args below meth c H locs cells slots mc ms ls C
  exact lv_if_gt C.1.1 C.1.2.1 hd ht (fun q => kt q hg p e R s m args below meth c H locs cells slots mc ms ls C) (fun q => kf q hg p e R s m args below meth c H locs cells slots mc ms ls C)
theorem J_if_le {x : Int32} {off : Int} {tgt : Nat} (hd : decode M.2.1 pc = .ok (.ifCond .le off, 3)) (ht : (pc : Int) + off = (tgt : Int)) (kt : x ≤ 0 → J g d ca sa M tgt lv st h Q) (kf : ¬ x ≤ 0 → J g d ca sa M (pc + 3) lv st h Q) : J g d ca sa M pc lv (.int x :: st) h Q := by
  intro hg p e R s m args below meth c H locs cells slots mc ms ls C
  exact lv_if_le C.1.1 C.1.2.1 hd ht (fun q => kt q hg p e R s m args below meth c H locs cells slots mc ms ls C) (fun q => kf q hg p e R s m args below meth c H locs cells slots mc ms ls C)
theorem J_icmp_eq {x y : Int32} {off : Int} {tgt : Nat} (hd : decode M.2.1 pc = .ok (.if_icmp .eq off, 3)) (ht : (pc : Int) + off = (tgt : Int)) (kt : x = y → J g d ca sa M tgt lv st h Q) (kf : ¬ x = y → J g d ca sa M (pc + 3) lv st h Q) : J g d ca sa M pc lv (.int y :: .int x :: st) h Q := by
  intro hg p e R s m args below meth c H locs cells slots mc ms ls C
  exact lv_icmp_eq C.1.1 C.1.2.1 hd ht (fun q => kt q hg p e R s m args below meth c H locs cells slots mc ms ls C) (fun q => kf q hg p e R s m args below meth c H locs cells slots mc ms ls C)
theorem J_icmp_ne {x y : Int32} {off : Int} {tgt : Nat} (hd : decode M.2.1 pc = .ok (.if_icmp .ne off, 3)) (ht : (pc : Int) + off = (tgt : Int)) (kt : ¬ x = y → J g d ca sa M tgt lv st h Q) (kf : x = y → J g d ca sa M (pc + 3) lv st h Q) : J g d ca sa M pc lv (.int y :: .int x :: st) h Q := by
  intro hg p e R s m args below meth c H locs cells slots mc ms ls C
  exact lv_icmp_ne C.1.1 C.1.2.1 hd ht (fun q => kt q hg p e R s m args below meth c H locs cells slots mc ms ls C) (fun q => kf q hg p e R s m args below meth c H locs cells slots mc ms ls C)
theorem J_icmp_lt {x y : Int32} {off : Int} {tgt : Nat} (hd : decode M.2.1 pc = .ok (.if_icmp .lt off, 3)) (ht : (pc : Int) + off = (tgt : Int)) (kt : x < y → J g d ca sa M tgt lv st h Q) (kf : ¬ x < y → J g d ca sa M (pc + 3) lv st h Q) : J g d ca sa M pc lv (.int y :: .int x :: st) h Q := by
  intro hg p e R s m args below meth c H locs cells slots mc ms ls C
  exact lv_icmp_lt C.1.1 C.1.2.1 hd ht (fun q => kt q hg p e R s m args below meth c H locs cells slots mc ms ls C) (fun q => kf q hg p e R s m args below meth c H locs cells slots mc ms ls C)
theorem J_icmp_ge {x y : Int32} {off : Int} {tgt : Nat} (hd : decode M.2.1 pc = .ok (.if_icmp .ge off, 3)) (ht : (pc : Int) + off = (tgt : Int)) (kt : y ≤ x → J g d ca sa M tgt lv st h Q) (kf : ¬ y ≤ x → J g d ca sa M (pc + 3) lv st h Q) : J g d ca sa M pc lv (.int y :: .int x :: st) h Q := by
  intro hg p e R s m args below meth c H locs cells slots mc ms ls C
  exact lv_icmp_ge C.1.1 C.1.2.1 hd ht (fun q => kt q hg p e R s m args below meth c H locs cells slots mc ms ls C) (fun q => kf q hg p e R s m args below meth c H locs cells slots mc ms ls C)
theorem J_icmp_gt {x y : Int32} {off : Int} {tgt : Nat} (hd : decode M.2.1 pc = .ok (.if_icmp .gt off, 3)) (ht : (pc : Int) + off = (tgt : Int)) (kt : y < x → J g d ca sa M tgt lv st h Q) (kf : ¬ y < x → J g d ca sa M (pc + 3) lv st h Q) : J g d ca sa M pc lv (.int y :: .int x :: st) h Q := by
  intro hg p e R s m args below meth c H locs cells slots mc ms ls C
  exact lv_icmp_gt C.1.1 C.1.2.1 hd ht (fun q => kt q hg p e R s m args below meth c H locs cells slots mc ms ls C) (fun q => kf q hg p e R s m args below meth c H locs cells slots mc ms ls C)
theorem J_icmp_le {x y : Int32} {off : Int} {tgt : Nat} (hd : decode M.2.1 pc = .ok (.if_icmp .le off, 3)) (ht : (pc : Int) + off = (tgt : Int)) (kt : x ≤ y → J g d ca sa M tgt lv st h Q) (kf : ¬ x ≤ y → J g d ca sa M (pc + 3) lv st h Q) : J g d ca sa M pc lv (.int y :: .int x :: st) h Q := by
  intro hg p e R s m args below meth c H locs cells slots mc ms ls C
  exact lv_icmp_le C.1.1 C.1.2.1 hd ht (fun q => kt q hg p e R s m args below meth c H locs cells slots mc ms ls C) (fun q => kf q hg p e R s m args below meth c H locs cells slots mc ms ls C)
theorem J_goto {off : Int} {tgt : Nat} (hd : decode M.2.1 pc = .ok (.goto off, 3)) (ht : (pc : Int) + off = (tgt : Int)) (k : J g d ca sa M tgt lv st h Q) : J g d ca sa M pc lv st h Q := by
  intro hg p e R s m args below meth c H locs cells slots mc ms ls C
  exact lv_goto C.1.1 C.1.2.1 hd ht (k hg p e R s m args below meth c H locs cells slots mc ms ls C)
theorem J_tableIn {dflt lo hi : Int} {offs : Array Int} {len : Nat} {x : Int32} {off : Int} {tgt : Nat} (hd : decode M.2.1 pc = .ok (.tableswitch dflt lo hi offs, len)) (h1 : ¬ x.toInt < lo) (h2 : ¬ hi < x.toInt) (ho : offs[(x.toInt - lo).toNat]? = some off) (ht : (pc : Int) + off = (tgt : Int)) (k : J g d ca sa M tgt lv st h Q) : J g d ca sa M pc lv (.int x :: st) h Q := by
  intro hg p e R s m args below meth c H locs cells slots mc ms ls C
  exact lv_tableIn C.1.1 C.1.2.1 hd h1 h2 ho ht (k hg p e R s m args below meth c H locs cells slots mc ms ls C)
theorem J_tableOut {dflt lo hi : Int} {offs : Array Int} {len : Nat} {x : Int32} {tgt : Nat} (hd : decode M.2.1 pc = .ok (.tableswitch dflt lo hi offs, len)) (h1 : x.toInt < lo ∨ hi < x.toInt) (ht : (pc : Int) + dflt = (tgt : Int)) (k : J g d ca sa M tgt lv st h Q) : J g d ca sa M pc lv (.int x :: st) h Q := by
  intro hg p e R s m args below meth c H locs cells slots mc ms ls C
  exact lv_tableOut C.1.1 C.1.2.1 hd h1 ht (k hg p e R s m args below meth c H locs cells slots mc ms ls C)
theorem J_lookup {dflt : Int} {ps : Array (Int × Int)} {len : Nat} {x : Int32} {off : Int} {tgt : Nat} (hd : decode M.2.1 pc = .ok (.lookupswitch dflt ps, len)) (hp : (ps.toList.zip (ps.toList.drop 1)).all (fun (a, next) => a.1 < next.1) = true) (ho : Op.lookupswitch.offset ps.toList dflt x.toInt = off) (ht : (pc : Int) + off = (tgt : Int)) (k : J g d ca sa M tgt lv st h Q) : J g d ca sa M pc lv (.int x :: st) h Q := by
  intro hg p e R s m args below meth c H locs cells slots mc ms ls C
  exact lv_lookup C.1.1 C.1.2.1 hd hp ho ht (k hg p e R s m args below meth c H locs cells slots mc ms ls C)
end JR
