-- rules for what makes cells, for stores of references, for copies, for the script
def NW (own : String) (index ci N : Nat) (fs : List Value) : Prop := ∃ (C : String) (T : u_T) (ty : Nat → FieldType), vwCl[ci]? = some (C, T, N) ∧ Cond.classLink own index C ∈ lw_tbl ∧ Cond.instantiable C N ∈ lw_tbl ∧ Cond.initialized C ∈ lw_tbl ∧ (∀ w ∈ u_ws C T N, w ∈ lw_tbl) ∧ (∀ k, k < N → parseFieldDescriptor (T k).2.2.1 = some (ty k)) ∧ (∀ j, j < N → defaultValue (ty j) = vp_V fs j) ∧ ∀ g, fs.map (em g) = fs
section JA
variable {g : GT} {d ca sa : Nat} {M : MT} {pc : Nat} {lv lv' : List (Nat × Value)} {st : List Value} {h : MH} {Q Q' : RT → MH → Prop}
/-- behind the making of a cell -/
theorem JC.add {p : Program} {R : Room} {s : State} {m : MethodId} {meth : Method} {c : Code} {H H' : Heap} {locs : List Loc} {cells slots mc ms n ca' sa' : Nat} {ls : Array Slot} {c1 : MC} (C : JC g d ca sa M lv h p R s m meth c H locs cells slots mc ms ls) (h1 : ca' + 1 ≤ ca) (h2 : sa' + n ≤ sa) (hz : H'.size = H.size + 1) (hoq : ∀ q, q < H.size → H'[q]? = H[q]?) (hat : va_at (g_D g) vwCl (H.size, emC g c1) H') : JC g d ca' sa' M lv (h.1 + 1, hset h.2 h.1 c1) p R s m meth c H' locs (cells + 1) (slots + n) mc ms ls := by
  obtain ⟨b1, b2, ⟨hoH, hsz, hR, hlo⟩, hroom, hl⟩ := C
  refine ⟨b1, b2, ⟨fun q hq => ?_, by omega, Rel.add hR hz hoq hat, hlo⟩, ?_, hl⟩
  · rw [hoq q (by have := hR.1; have := hR.2.1; omega)]
    exact hoH q hq
  · obtain ⟨z1, z2, z3, z4, z5, z6⟩ := hroom
    exact ⟨z1, z2, by omega, by omega, z5, z6⟩
theorem J_new {index ci N ca' sa' : Nat} {fs : List Value} (hd : decode M.2.1 pc = .ok (.new index, 3)) (hw : NW M.1.cls index ci N fs) (h1 : ca' + 1 ≤ ca) (h2 : sa' + N ≤ sa) (kk : J g d ca' sa' M (pc + 3) lv (.ref h.1 :: st) (h.1 + 1, hset h.2 h.1 (.inr (ci, fs))) Q) : J g d ca sa M pc lv st h Q := by
  intro hg p e R s m args below meth c H locs cells slots mc ms ls C
  obtain ⟨Cn, T, ty, hc, w1, w2, w3, hin, hty, hfs, hem⟩ := hw
  have hW := C.2.1.1
  have hKn := (kd hg hW).1 ci _ hc
  have hrm := C.2.2.2.1
  have hnx := C.2.2.1.2.2.1.next
  refine W.newcK C.1.1 C.1.2.1 C.1.2.2.2.2.2.2.1 (wd hg hW w1 (Or.inl rfl) args) (wd hg hW w2 (Or.inl rfl) args) (wd hg hW w3 (Or.inl rfl) args) rfl hd (by omega) (by omega) hKn.2.1 rfl fun H1 kC hkC e1 z1 o1 => ?_
  have hat : va_at (g_D g) vwCl (H.size, emC g (.inr (ci, fs))) H1 := by
    refine ⟨_, hc, ?_⟩
    show t_OB _ _ _ _ _ (vp_V (fs.map (em g)))
    rw [hem g]
    exact (u_born (args := args) (s := s) ty (fun w hw' => wd hg hW (hin w hw') (Or.inl (lay_good hw')) args) (fun w h => h) hKn hkC e1 hty).to hfs
  have k9 := kk hg p e R s m args below meth c H1 locs (cells + 1) (slots + N) mc ms ls (C.add h1 h2 z1 o1 hat)
  rw [← hnx]
  exact k9
theorem J_newI {n ca' sa' : Nat} {x : Int32} (hd : decode M.2.1 pc = .ok (.newarray .int, 2)) (hx : x = nI n) (hn : n < 100000) (h1 : ca' + 1 ≤ ca) (h2 : sa' + n ≤ sa) (kk : J g d ca' sa' M (pc + 2) lv (.ref h.1 :: st) (h.1 + 1, hset h.2 h.1 (aI n (fun _ => 0))) Q) : J g d ca sa M pc lv (.int x :: st) h Q := by
  intro hg p e R s m args below meth c H locs cells slots mc ms ls C
  subst hx
  have hW := C.2.1.1
  have hrm := C.2.2.2.1
  have hnx := C.2.2.1.2.2.1.next
  refine va_newaK C.1.1 C.1.2.1 (atype := .int) (wd hg hW q2_218 (Or.inr ⟨_, rfl⟩) args) rfl hd rfl (nI_pos (by omega)) (nI_clamp (by omega)) (by show n * 4 ≤ _; omega) (by omega) (by omega) rfl fun H1 cA e1 z1 o1 hAr hNm => ?_
  have hcy : cA = g_c g 0 := by
    have h9 : s.vm.findClass ("[" ++ (aty 0).toString) = some (g_c g 0) := by rw [hW.alike.findClass]; exact (hg.2.2.2.1 0 (by omega)).2
    exact Option.some.inj (hNm.symm.trans h9)
  subst hcy
  have k9 := kk hg p e R s m args below meth c H1 locs (cells + 1) (slots + n) mc ms ls (C.add (c1 := aI n (fun _ => 0)) h1 h2 z1 o1 e1)
  rw [← hnx]
  exact k9
theorem push_at {H : Heap} {cA : ClassId} {n : Nat} : (H.push ({ cls := cA, slots := Array.replicate n .null, vm := .none } : Cell))[H.size]? = some (arrV cA n (fun _ => .null)) := by rw [Array.getElem?_push_size, ← arrV_new]
theorem push_old {H : Heap} {x : Cell} (q : Nat) (hq : q < H.size) : (H.push x)[q]? = H[q]? := by rw [Array.getElem?_push, if_neg (Nat.ne_of_lt hq)]
theorem J_newT {index n ca' sa' : Nat} {x : Int32} (hd : decode M.2.1 pc = .ok (.anewarray index, 3)) (hw : Cond.classLink M.1.cls index "BeanGroves$Tree" ∈ lw_tbl) (hx : x = nI n) (hn : n < 100000) (h1 : ca' + 1 ≤ ca) (h2 : sa' + n ≤ sa) (kk : J g d ca' sa' M (pc + 3) lv (.ref h.1 :: st) (h.1 + 1, hset h.2 h.1 (aT n (fun _ => none))) Q) : J g d ca sa M pc lv (.int x :: st) h Q := by
  intro hg p e R s m args below meth c H locs cells slots mc ms ls C
  subst hx
  have hW := C.2.1.1
  have hrm := C.2.2.2.1
  have hnx := C.2.2.1.2.2.1.next
  have hcl : (nI n).toNatClampNeg = n := nI_clamp (by omega)
  refine W.anew C.1.1 C.1.2.1 C.1.2.2.2.2.2.2.1 (wd hg hW hw (Or.inl rfl) args) (va_AO.use (va_AO.moved hW.alike (va_AO.of (hg.2.1 _ q2_220)))) rfl hd rfl (nI_pos (by omega)) (by rw [hcl]; omega) (by omega) (by rw [hcl]; omega) fun cA kA comp f1 f2 f3 f4 => ?_
  have hcy : cA = g_c g 3 := by
    have h9 : s.vm.findClass ("[" ++ (aty 3).toString) = some (g_c g 3) := by rw [hW.alike.findClass]; exact (hg.2.2.2.1 3 (by omega)).2
    exact Option.some.inj (f1.symm.trans h9)
  subst hcy
  rw [hcl]
  have k9 := kk hg p e R s m args below meth c _ locs (cells + 1) (slots + n) mc ms ls (C.add (c1 := aT n (fun _ => none)) h1 h2 (by rw [Array.size_push]) push_old push_at)
  rw [← hnx]
  exact k9
theorem over_alike {t : FieldType} {a a' : Array Value} {u U : State} (hvm : u.vm.Alike U.vm) (h : (Cond.arrayOver (.array t)).before a u = true) : (Cond.arrayOver (.array t)).before a' U = true := by
  obtain ⟨comp, c, k, h1, h2, h3, h4, h5⟩ := arrayOverA_spec h
  obtain ⟨k', hk', he⟩ := hvm.2.2 _ _ h3
  have hkind : k'.kind = .array comp (.array t) := by rw [he]; exact h4
  have f1 : U.vm.findClass (FieldType.array t).toString = some comp := by rw [hvm.findClass]; exact h1
  have f2 : U.vm.findClass ("[" ++ (FieldType.array t).toString) = some c := by rw [hvm.findClass]; exact h5
  have hi : (U.vm.classes.findIdx? fun x => match x.kind with | .array component _ => component == comp | _ => false) = some c := by
    rw [hvm.findIdx?_eq _ (fun _ => rfl)]; exact h2
  simp only [Cond.before, Cond.holds, Cond.value, f1, Option.bind_some, beq_iff_eq]
  rw [Option.bind_eq_some_iff]
  refine ⟨c, hi, ?_⟩
  simp [hk', hkind, f2]
theorem J_newG {index n ca' sa' : Nat} {x : Int32} (hd : decode M.2.1 pc = .ok (.anewarray index, 3)) (hw : Cond.classLink M.1.cls index "[I" ∈ lw_tbl) (hx : x = nI n) (hn : n < 100000) (h1 : ca' + 1 ≤ ca) (h2 : sa' + n ≤ sa) (kk : J g d ca' sa' M (pc + 3) lv (.ref h.1 :: st) (h.1 + 1, hset h.2 h.1 (aG n (fun _ => none))) Q) : J g d ca sa M pc lv (.int x :: st) h Q := by
  intro hg p e R s m args below meth c H locs cells slots mc ms ls C
  subst hx
  have hW := C.2.1.1
  have hrm := C.2.2.2.1
  have hnx := C.2.2.1.2.2.1.next
  have hcl : (nI n).toNatClampNeg = n := nI_clamp (by omega)
  refine W.anewA (t := .int) C.1.1 C.1.2.1 C.1.2.2.2.2.2.2.1 (wd hg hW hw (Or.inl rfl) args) (over_alike hW.alike (hg.2.1 _ q2_198)) rfl hd rfl (nI_pos (by omega)) (by rw [hcl]; omega) (by omega) (by rw [hcl]; omega) fun cA kA comp f1 f2 f3 f4 => ?_
  have hcy : cA = g_c g 2 := by
    have h9 : s.vm.findClass ("[" ++ (aty 2).toString) = some (g_c g 2) := by rw [hW.alike.findClass]; exact (hg.2.2.2.1 2 (by omega)).2
    exact Option.some.inj (f1.symm.trans h9)
  subst hcy
  rw [hcl]
  have k9 := kk hg p e R s m args below meth c _ locs (cells + 1) (slots + n) mc ms ls (C.add (c1 := aG n (fun _ => none)) h1 h2 (by rw [Array.size_push]) push_old push_at)
  rw [← hnx]
  exact k9
theorem em_up {g : GT} {f : Nat → Option Nat} {n j b : Nat} {cA : ClassId} : (vp_cell cA (n, .inr (.inr (.inr (.inr (fun i => (f i).map (ad g))))))).setSlot j (.ref (ad g b)) = vp_cell cA (n, .inr (.inr (.inr (.inr (fun i => ((va_up f j (some b)) i).map (ad g)))))) := by
  rw [vp_cell_q, vp_cell_q, arrV_store]
  congr 1
  funext q
  by_cases hq : q = j
  · subst hq
    simp [updV, va_up, va_rf]
  · simp [updV, va_up, hq]
theorem J_astT {a n j b : Nat} {f : Nat → Option Nat} {fs : List Value} {i : Int32} (hd : decode M.2.1 pc = .ok (.aastore, 1)) (ha : h.2 a = some (aT n f)) (hb : h.2 b = some (.inr (1, fs))) (hi : i = nI j) (hj : j < n) (hn : n < 2 ^ 31) (kk : J g d ca sa M (pc + 1) lv st (h.1, hset h.2 a (aT n (va_up f j (some b)))) Q) : J g d ca sa M pc lv (.ref b :: .int i :: .ref a :: st) h Q := by
  intro hg p e R s m args below meth c H locs cells slots mc ms ls C
  subst hi
  have hjc : (nI j).toNatClampNeg = j := nI_clamp (by omega)
  obtain ⟨-, -, hat⟩ := C.2.2.1.2.2.1.2.2 a _ ha
  obtain ⟨-, -, r, hr1, cellV, g1, g2, g3, -⟩ := C.2.2.1.2.2.1.2.2 b _ hb
  have hW := C.2.1.1
  have hcls := ((kd hg hW).1 1 _ (rfl : vwCl[1]? = some (RX1, TX1, 9))).2
  obtain ⟨-, k0, hk0, cm0, hkk0⟩ := ar_ok hg hW (t := 3) (by omega) n (fun j => va_rf ((f j).map (ad g)))
  obtain ⟨kC, hkC, -⟩ := hcls.2
  have hover := va_AO.use (A := args) (va_AO.moved hW.alike (va_AO.of (hg.2.1 _ q2_220)))
  obtain ⟨comp, cA, kA, o1, o2, o3, o4, o5⟩ := Cond.arrayOver_spec hover
  have hcy : cA = g_c g 3 := by
    have h9 : s.vm.findClass ("[" ++ (aty 3).toString) = some (g_c g 3) := by rw [hW.alike.findClass]; exact (hg.2.2.2.1 3 (by omega)).2
    exact Option.some.inj (o5.symm.trans h9)
  subst hcy
  have hcomp : comp = (g_D g).1 1 := Option.some.inj (o1.symm.trans hcls.1)
  subst hcomp
  refine W.aast C.1.1 C.1.2.1 hat (fun q h => by cases h) (fun h => by cases h) o3 o4 rfl hkC ⟨nI_pos (by omega), ?_⟩ g1 (fun q h => by rw [g3] at h; cases h) (by rw [g2]; exact hkC) (by rw [g2]; exact va_assign hcls) rfl rfl hd fun H1 e z oq => ?_
  · show (nI j).toNatClampNeg < (arrV (g_c g 3) n (fun j => va_rf ((f j).map (ad g)))).slots.size
    rw [arrV_size, hjc]
    exact hj
  · refine kk hg p _ R s m args below meth c H1 _ cells slots mc ms ls (C.put ha z oq ?_)
    show H1[ad g a]? = some _
    rw [e, hjc]
    exact congrArg some em_up
theorem J_astG {a n j b k : Nat} {f : Nat → Option Nat} {f2 : Nat → Int32} {i : Int32} (hd : decode M.2.1 pc = .ok (.aastore, 1)) (ha : h.2 a = some (aG n f)) (hb : h.2 b = some (aI k f2)) (hi : i = nI j) (hj : j < n) (hn : n < 2 ^ 31) (kk : J g d ca sa M (pc + 1) lv st (h.1, hset h.2 a (aG n (va_up f j (some b)))) Q) : J g d ca sa M pc lv (.ref b :: .int i :: .ref a :: st) h Q := by
  intro hg p e R s m args below meth c H locs cells slots mc ms ls C
  subst hi
  have hjc : (nI j).toNatClampNeg = j := nI_clamp (by omega)
  obtain ⟨-, -, hat⟩ := C.2.2.1.2.2.1.2.2 a _ ha
  obtain ⟨-, -, hatb⟩ := C.2.2.1.2.2.1.2.2 b _ hb
  have hW := C.2.1.1
  have hover : (Cond.arrayOver (.array .int)).before args s = true := over_alike hW.alike (hg.2.1 _ q2_198)
  obtain ⟨comp, cA, kA, o1, o2, o3, o4, o5⟩ := arrayOverA_spec hover
  have hcy : cA = g_c g 2 := by
    have h9 : s.vm.findClass ("[" ++ (aty 2).toString) = some (g_c g 2) := by rw [hW.alike.findClass]; exact (hg.2.2.2.1 2 (by omega)).2
    exact Option.some.inj (o5.symm.trans h9)
  subst hcy
  have h9 : s.vm.findClass ("[" ++ (aty 0).toString) = some (g_c g 0) := by rw [hW.alike.findClass]; exact (hg.2.2.2.1 0 (by omega)).2
  have hcomp : comp = g_c g 0 := Option.some.inj (o1.symm.trans h9)
  subst hcomp
  obtain ⟨-, k0, hk0, cm0, hkk0⟩ := ar_ok hg hW (t := 0) (by omega) n (fun j => .int (f2 j))
  refine W.aast C.1.1 C.1.2.1 hat (fun q h => by cases h) (fun h => by cases h) o3 o4 rfl hk0 ⟨nI_pos (by omega), ?_⟩ hatb (fun q h => by cases h) hk0 ?_ rfl rfl hd fun H1 e z oq => ?_
  · show (nI j).toNatClampNeg < (arrV (g_c g 2) n (fun j => va_rf ((f j).map (ad g)))).slots.size
    rw [arrV_size, hjc]
    exact hj
  · show s.vm.assignable (g_c g 0) (g_c g 0) = true
    show ((g_c g 0 == g_c g 0) || _) = true
    rw [beq_self_eq_true, Bool.true_or]
  · refine kk hg p _ R s m args below meth c H1 _ cells slots mc ms ls (C.put ha z oq ?_)
    show H1[ad g a]? = some _
    rw [e, hjc]
    exact congrArg some em_up
/-- the script -/
theorem J_slen (hd : decode M.2.1 pc = .ok (.arraylength, 1)) (kk : J g d ca sa M (pc + 1) lv (.int (nI (g_L g)) :: st) h Q) : J g d ca sa M pc lv (.ref 0 :: st) h Q := by
  intro hg p e R s m args below meth c H locs cells slots mc ms ls C
  obtain ⟨scr, h1, h2, h3, h4, h5⟩ := hg.2.2.2.2.1
  refine W.alen (n := nI (g_L g)) C.1.1 C.1.2.1 (a := ad g 0) (cell := scr) (by rw [show ad g 0 = g_b g from if_pos rfl, C.2.2.1.1 _ hg.2.2.2.2.2.1]; exact h1) (State.isArrayOf_alike C.2.1.1.alike h2) (by rw [h4]; rfl) rfl rfl hd (kk hg p e R s m args below meth c H locs cells slots mc ms ls C)
theorem J_sld {j : Nat} {i : Int32} (hd : decode M.2.1 pc = .ok (.iaload, 1)) (hi : i = nI j) (hj : OkG g → j < g_L g) (kk : J g d ca sa M (pc + 1) lv (.int (g_x g j) :: st) h Q) : J g d ca sa M pc lv (.int i :: .ref 0 :: st) h Q := by
  intro hg p e R s m args below meth c H locs cells slots mc ms ls C
  have hj := hj hg
  subst hi
  have hL := hg.2.2.2.2.2.2.1
  have hjc : (nI j).toNatClampNeg = j := nI_clamp (by omega)
  obtain ⟨scr, h1, h2, h3, h4, h5⟩ := hg.2.2.2.2.1
  refine W.iald (v := .int (g_x g j)) C.1.1 C.1.2.1 (a := ad g 0) (cell := scr) (by rw [show ad g 0 = g_b g from if_pos rfl, C.2.2.1.1 _ hg.2.2.2.2.2.1]; exact h1) (State.isArrayOf_alike C.2.1.1.alike h2) h3 (by rw [h4]; exact nI_vin hj (by omega)) (by rw [hjc]; exact h5 j hj) rfl rfl hd (kk hg p e R s m args below meth c H locs cells slots mc ms ls C)
end JA
