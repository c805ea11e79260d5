section
-- ===== PART A: goes FIRST, ahead of the names: the tables' words, and 'selects' of the private methods out of them =====
/-- a private method of a class that the tables say can be made, by its rows of tables_1 -/
def lw_okq (q : MethodName × Nat) : Prop := (q.1.cls ≠ "java/lang/invoke/MethodHandle" ∧ q.1.cls ≠ "java/lang/invoke/VarHandle") ∧ Cond.instantiable q.1.cls q.2 ∈ tables_1 ∧ Cond.privateMethod q.1 ∈ tables_1 ∧ Cond.instanceMethod q.1 ∈ tables_1
theorem lw_p0 : lw_okq (⟨"BeanGroves", "isBean", "(I)Z"⟩, 6) := ⟨⟨by decide +kernel, by decide +kernel⟩, List.mem_of_getElem? (i := 19) (by decide +kernel), List.mem_of_getElem? (i := 17) (by decide +kernel), List.mem_of_getElem? (i := 18) (by decide +kernel)⟩
theorem lw_p1 : lw_okq (⟨"java/lang/Throwable", "fillInStackTrace", "(I)Ljava/lang/Throwable;"⟩, 6) := ⟨⟨by decide +kernel, by decide +kernel⟩, List.mem_of_getElem? (i := 66) (by decide +kernel), List.mem_of_getElem? (i := 64) (by decide +kernel), List.mem_of_getElem? (i := 65) (by decide +kernel)⟩
theorem lw_p2 : lw_okq (⟨"BeanGroves$Tree", "putLeaf", "(LBeanGroves$Beans;III)V"⟩, 9) := ⟨⟨by decide +kernel, by decide +kernel⟩, List.mem_of_getElem? (i := 175) (by decide +kernel), List.mem_of_getElem? (i := 173) (by decide +kernel), List.mem_of_getElem? (i := 174) (by decide +kernel)⟩
theorem lw_p3 : lw_okq (⟨"BeanGroves$Beans", "squares", "(I)I"⟩, 6) := ⟨⟨by decide +kernel, by decide +kernel⟩, List.mem_of_getElem? (i := 210) (by decide +kernel), List.mem_of_getElem? (i := 208) (by decide +kernel), List.mem_of_getElem? (i := 209) (by decide +kernel)⟩
theorem lw_p4 : lw_okq (⟨"BeanGroves$Tree", "fork", "(LBeanGroves$Beans;II)V"⟩, 9) := ⟨⟨by decide +kernel, by decide +kernel⟩, List.mem_of_getElem? (i := 175) (by decide +kernel), List.mem_of_getElem? (i := 217) (by decide +kernel), List.mem_of_getElem? (i := 218) (by decide +kernel)⟩
theorem lw_p5 : lw_okq (⟨"BeanGroves$Tree", "copyNode", "(II)V"⟩, 9) := ⟨⟨by decide +kernel, by decide +kernel⟩, List.mem_of_getElem? (i := 175) (by decide +kernel), List.mem_of_getElem? (i := 221) (by decide +kernel), List.mem_of_getElem? (i := 222) (by decide +kernel)⟩
theorem lw_p6 : lw_okq (⟨"BeanGroves", "isTree", "(I)Z"⟩, 6) := ⟨⟨by decide +kernel, by decide +kernel⟩, List.mem_of_getElem? (i := 19) (by decide +kernel), List.mem_of_getElem? (i := 234) (by decide +kernel), List.mem_of_getElem? (i := 235) (by decide +kernel)⟩
theorem lw_p7 : lw_okq (⟨"BeanGroves$Tree", "send", "(LBeanGroves$Beans;I)V"⟩, 9) := ⟨⟨by decide +kernel, by decide +kernel⟩, List.mem_of_getElem? (i := 175) (by decide +kernel), List.mem_of_getElem? (i := 251) (by decide +kernel), List.mem_of_getElem? (i := 252) (by decide +kernel)⟩
theorem lw_p8 : lw_okq (⟨"BeanGroves$Tree", "dropNodesBelowLeaves", "()V"⟩, 9) := ⟨⟨by decide +kernel, by decide +kernel⟩, List.mem_of_getElem? (i := 175) (by decide +kernel), List.mem_of_getElem? (i := 260) (by decide +kernel), List.mem_of_getElem? (i := 261) (by decide +kernel)⟩
theorem lw_p9 : lw_okq (⟨"BeanGroves", "votedRight", "(I)I"⟩, 6) := ⟨⟨by decide +kernel, by decide +kernel⟩, List.mem_of_getElem? (i := 19) (by decide +kernel), List.mem_of_getElem? (i := 354) (by decide +kernel), List.mem_of_getElem? (i := 355) (by decide +kernel)⟩
theorem lw_p10 : lw_okq (⟨"BeanGroves", "votedFor", "(III)I"⟩, 6) := ⟨⟨by decide +kernel, by decide +kernel⟩, List.mem_of_getElem? (i := 19) (by decide +kernel), List.mem_of_getElem? (i := 359) (by decide +kernel), List.mem_of_getElem? (i := 360) (by decide +kernel)⟩
theorem lw_p11 : lw_okq (⟨"BeanGroves", "digestTree", "(JI)J"⟩, 6) := ⟨⟨by decide +kernel, by decide +kernel⟩, List.mem_of_getElem? (i := 19) (by decide +kernel), List.mem_of_getElem? (i := 411) (by decide +kernel), List.mem_of_getElem? (i := 412) (by decide +kernel)⟩
theorem lw_p12 : lw_okq (⟨"BeanGroves$Beans", "addMeasure", "(III)V"⟩, 6) := ⟨⟨by decide +kernel, by decide +kernel⟩, List.mem_of_getElem? (i := 210) (by decide +kernel), List.mem_of_getElem? (i := 536) (by decide +kernel), List.mem_of_getElem? (i := 537) (by decide +kernel)⟩
def lw_privs_1 : List (MethodName × Nat) := [(⟨"BeanGroves", "isBean", "(I)Z"⟩, 6), (⟨"java/lang/Throwable", "fillInStackTrace", "(I)Ljava/lang/Throwable;"⟩, 6), (⟨"BeanGroves$Tree", "putLeaf", "(LBeanGroves$Beans;III)V"⟩, 9), (⟨"BeanGroves$Beans", "squares", "(I)I"⟩, 6), (⟨"BeanGroves$Tree", "fork", "(LBeanGroves$Beans;II)V"⟩, 9), (⟨"BeanGroves$Tree", "copyNode", "(II)V"⟩, 9), (⟨"BeanGroves", "isTree", "(I)Z"⟩, 6), (⟨"BeanGroves$Tree", "send", "(LBeanGroves$Beans;I)V"⟩, 9), (⟨"BeanGroves$Tree", "dropNodesBelowLeaves", "()V"⟩, 9), (⟨"BeanGroves", "votedRight", "(I)I"⟩, 6), (⟨"BeanGroves", "votedFor", "(III)I"⟩, 6), (⟨"BeanGroves", "digestTree", "(JI)J"⟩, 6), (⟨"BeanGroves$Beans", "addMeasure", "(III)V"⟩, 6)]
theorem lw_r1 : ∀ q ∈ lw_privs_1, lw_okq q := List.forall_mem_cons.mpr ⟨lw_p0, List.forall_mem_cons.mpr ⟨lw_p1, List.forall_mem_cons.mpr ⟨lw_p2, List.forall_mem_cons.mpr ⟨lw_p3, List.forall_mem_cons.mpr ⟨lw_p4, List.forall_mem_cons.mpr ⟨lw_p5, List.forall_mem_cons.mpr ⟨lw_p6, List.forall_mem_cons.mpr ⟨lw_p7, List.forall_mem_cons.mpr ⟨lw_p8, List.forall_mem_cons.mpr ⟨lw_p9, List.forall_mem_cons.mpr ⟨lw_p10, List.forall_mem_cons.mpr ⟨lw_p11, List.forall_mem_cons.mpr ⟨lw_p12, fun _ h => absurd h List.not_mem_nil⟩⟩⟩⟩⟩⟩⟩⟩⟩⟩⟩⟩⟩
def lw_privs : List (MethodName × Nat) := lw_privs_1
def lw_tbl : List Cond := k2_sels lw_privs ++ tables_1
theorem lw_privs_ok : ∀ q ∈ lw_privs, lw_okq q := lw_r1
/-- the streams that the claim lets the run draw from -/
abbrev lw_cs : List Choice := [Jvm.Choice.named "NaN.bits"]
theorem lw_bits : nanBits ∈ lw_cs := by first | decide | exact List.mem_cons_self | simp [lw_cs, nanBits]
/-! ===== BEGIN words of one list among another's, by their places ===== -/
theorem goodIn_r {big : List Cond} (ws : List Cond) (ps : List Nat) (hp : ws = ps.filterMap (fun i => big[i]?)) (h : ws.all goodWord = true) : GoodIn big ws := by
  intro w hw
  have h1 := List.all_eq_true.mp h w hw
  rw [hp] at hw
  obtain ⟨i, -, hi⟩ := List.mem_filterMap.mp hw
  have hm : w ∈ big := by first | exact List.mem_of_getElem? hi | exact List.getElem?_mem hi
  exact ⟨hm, good_of_word h1⟩
theorem goodIn_app {big a b : List Cond} (ha : GoodIn big a) (hb : GoodIn big b) : GoodIn big (a ++ b) := fun w h => (List.mem_append.mp h).elim (ha w) (hb w)
theorem goodIn_ca {big a b : List Cond} {c : Cond} (ha : GoodIn big (c :: a)) (hb : GoodIn big b) : GoodIn big (c :: (a ++ b)) := fun w h => (List.mem_cons.mp h).elim (fun e => ha w (List.mem_cons.mpr (Or.inl e))) (fun h => (List.mem_append.mp h).elim (fun h => ha w (List.mem_cons.mpr (Or.inr h))) (hb w))
theorem goodIn_sub {big ws : List Cond} (hm : ∀ w ∈ ws, w ∈ big) (h : ws.all goodWord = true) : GoodIn big ws := fun w hw => ⟨hm w hw, good_of_word (List.all_eq_true.mp h w hw)⟩
/-! ===== END ===== -/


/-! ===== BEGIN exceptions that leave a method, and their catching by the caller (launches without stack traces) ===== -/
section VXA
/-! The laws vx_back, vx_callV, vx_callS, vx_callSW, vx_throw0, vx_throwS follow proofs of the library, with one case more: JvmDerived/Free/Laws.lean (Back.of_free), Shelf42/LK1.lean (callV, callS), Shelf/KitTraced.lean (throwNew0V, throwNewS). -/
/-- where a method has thrown q: the class by its name, the cell, what was written, the world -/
def vx_T (XC : String → State → State → Prop) (st : State) (q : Addr) (t : State) (mc ms : Nat) (free : Addr → Prop) : Prop :=
  ∃ (E : String) (ce : Cell) (L : List Loc), XC E st t ∧ t.heap[q]? = some ce ∧ ce.vm = .none ∧ st.vm.findClass E = some ce.cls ∧ st.WarmedH t.vm ∧ st.sameButNew ({ t with vm := st.vm } : State) L mc ms ∧ ∀ z ∈ L, free z.base
def vx_Q (Qc : Array Value → State → Outcome → State → Prop) (XC : String → State → State → Prop) (mc ms : Nat) (free : Addr → Prop) : Array Value → State → Outcome → State → Prop := fun a st o t =>
  (Qc a st o t ∧ ∃ L, FrameEnd st o t L mc ms ∧ ∀ q ∈ L, free q.base) ∨ ∃ q, o = .threw q ∧ vx_T XC st q t mc ms free
/-- a callee that returns or throws -/
def vx_Met (l : Launch) (y : MethodName) (ws : List Cond) (rm : Room) (Pc : Array Value → State → Prop) (Qc : Array Value → State → Outcome → State → Prop) (XC : String → State → State → Prop) (mc ms : Nat) (free : Addr → Prop) : Prop :=
  MetFree l y (headSpec ws rm) Pc (fun _ _ _ _ _ => True) (vx_Q Qc XC mc ms free)
def vx_Post (XC : String → State → State → Prop) (mc ms : Nat) (free : Addr → Prop) : Pt → Array Value → Addr → Pt → Prop := fun A a q B =>
  ∃ (g : JFrame) (mk : MethodId) (t : State) (L : List Loc) (E : String) (ce : Cell), B.U.heap = t.heap ∧ B.U.vm = t.vm ∧ XC E (A.U.calling g mk a) t ∧ t.heap[q]? = some ce ∧ ce.vm = .none ∧ A.U.vm.findClass E = some ce.cls ∧ B.locs = A.locs ++ L ∧ (∀ z ∈ L, free z.base) ∧ B.cells = A.cells + mc ∧ B.slots = A.slots + ms
def vx_Back (l : Launch) (R : Room) (p : Program) (e : Env) (below : List Frame) (s : State) (sargs : Array Value) (y : MethodName) (len W9 : Nat)
    (Pre : Pt → Array Value → Prop) (Post : Pt → Array Value → Option Value → Pt → Prop) (PostX : Pt → Array Value → Addr → Pt → Prop) : Prop :=
  ∀ (m : MethodId) (meth : Method) (c : Code) (A : Pt) (g : JFrame) (ig : Instr) (mk : MethodId) (a : Array Value),
    Stand p l e R s m sargs below meth c A.U A.locs A.cells A.slots → g.method = m → g.locals.size = c.maxLocals → decode c.code g.pc = .ok (ig, len) →
    2 * g.monitorRoom + (g.stack.map fun v => v.category).sum ≤ W9 → A.U.methodNamed? y = some mk → Pre A a →
    (∃ (v : Option Value) (B : Pt), Stand p l e R s m sargs below meth c B.U B.locs B.cells B.slots ∧ Post A a v B ∧
      Steps p.tables e below (doInvoke e (A.U.setTop g) [] mk a).1 (B.U.setTop { g with pc := g.pc + len, stack := v.toList ++ g.stack })) ∨
    (∃ (q : Addr) (B : Pt), Stand p l e R s m sargs below meth c B.U B.locs B.cells B.slots ∧ PostX A a q B ∧
      Steps p.tables e below (doInvoke e (A.U.setTop g) [] mk a).1 ((B.U.setTop g).pushFrame (.throwing q)))
section Payer
variable {l : Launch} {R : Room} {p : Program} {e : Env} {below : List Frame} {s : State} {sargs : Array Value} {y : MethodName} {len W9 : Nat}
theorem vx_back {ws : List Cond} {rm : Room} {Pc : Array Value → State → Prop} {Qc : Array Value → State → Outcome → State → Prop} {XC : String → State → State → Prop} {mc ms : Nat} {free : Addr → Prop} {bytes : ByteArray} {maxL : Nat} {ret : Option FieldType}
    (hM : vx_Met l y ws rm Pc Qc XC mc ms free) (hblind : FrameBlind Pc) (hrc : rm.cells = mc) (hrs : rm.slots = ms)
    (hframes : rm.frames + 1 ≤ R.frames) (hlocals : W9 + (maxL + 11) + rm.locals ≤ R.locals)
    (hws : ∀ w ∈ ws, ∀ a' U, s.WarmedH U.vm → w.before a' U = true) (hcode : Cond.code y bytes maxL ret ∈ ws) (hinit : ∀ a' U, s.WarmedH U.vm → (Cond.initialized y.cls).before a' U = true) :
    vx_Back l R p e below s sargs y len W9 (PreOf R mc ms Pc) (PostOf Qc mc ms free) (vx_Post XC mc ms free) := by
  intro m meth c A g ig mk a X hg hsize hdg hW hn hp
  have h1 : (headSpec ws rm).pre.before a A.U = true := atoms_intro fun w hw => hws w hw _ _ X.warmed
  have h2 : (Cond.code y bytes maxL ret).before a A.U = true := hws _ hcode _ _ X.warmed
  have h3 : (Cond.initialized y.cls).before a A.U = true := hinit _ _ X.warmed
  have h4 : A.cells + (headSpec ws rm).room.cells ≤ R.cells := by rw [show (headSpec ws rm).room.cells = mc from hrc]; exact hp.1
  have h5 : A.slots + (headSpec ws rm).room.slots ≤ R.slots := by rw [show (headSpec ws rm).room.slots = ms from hrs]; exact hp.2.1
  have hPc : Pc a (A.U.calling g mk a) := hblind _ _ _ _ hp.2.2
  obtain ⟨U, Ls, c0, s0⟩ := A
  dsimp only [Pt.U, Pt.locs, Pt.cells, Pt.slots] at h1 h2 h3 h4 h5 X hn hPc ⊢
  obtain ⟨methY, cY, hmY, hcY, -, hlY, -, -, -, -⟩ := Cond.code_spec hn h2
  obtain ⟨kY, hkY, -⟩ := className_of_methodNamed hn
  have hinitY : kY.init = .initialized := Cond.initialized_spec (findClass_of_methodNamed hn) hkY h3
  have h : At U g.method c below := by rw [hg]; exact X.here
  have hlocals9 : W9 + (maxL + 11) + (headSpec ws rm).room.locals ≤ R.locals := hlocals
  have happ : (headSpec ws rm).appliesLoose y e.platform (U.calling g mk a) = true :=
    Spec.appliesLoose_calling (g := g) h hdg hn hkY hinitY
      (X.room_calling (g := g) (R' := (headSpec ws rm).room) hsize hmY hcY hframes (by rw [hlY]; omega) h4 h5) h1
  obtain ⟨mid, hmid⟩ := h.above
  have hfr : (U.setTop g).frames = (.java g :: mid) ++ below := by rw [State.frames_setTop' g h.top, hmid]; rfl
  obtain ⟨o, s₂, hsteps, -, hend, hq⟩ := Steps.callFree hM p X.admits X.cas X.clock (acts := []) hfr happ hPc trivial
  have hq' : vx_Q Qc XC mc ms free a (U.calling g mk a) o s₂ := hq
  rw [State.frames_setTop' g h.top] at hend
  obtain ⟨g₀, hg0⟩ := Option.isSome_iff_exists.mp h.top
  obtain ⟨r, hr⟩ := State.topJava?_eq_some.mp hg0
  have hr' : (({ U with heap := s₂.heap, slotsUsed := s₂.slotsUsed } : State).setVm s₂.vm).frames = .java g₀ :: r := hr
  rcases hq' with ⟨hqc, L, hfe, hL⟩ | ⟨q, rfl, E, ce, L, hx, hce, hcv, hcl, hW₂, hsm, hL⟩
  · obtain ⟨⟨v, rfl⟩, hW₂, e2, q2, q3, q4, q5, q6⟩ := id hfe
    have e3 : s₂ = ({ (U.calling g mk a).setFrames s₂.frames with heap := s₂.heap, slotsUsed := s₂.slotsUsed } : State).setVm s₂.vm := by
      have : s₂ = ({ s₂ with vm := (U.calling g mk a).vm } : State).setVm s₂.vm := rfl
      rw [e2] at this
      exact this
    obtain ⟨c₂, i₂, len₂, hc₂, hd₂, hf₂⟩ := hend
    have hW' : U.WarmedH s₂.vm := hW₂
    have hcc : c₂ = c := by
      have h1 : s₂.code? g.method = U.code? g.method := by
        rw [State.code?_eq, State.code?_eq, hW'.alike.method?]
      exact Option.some.inj (hc₂.symm.trans (h1.trans h.code))
    subst hcc
    have hlen : len₂ = len := by rw [hdg] at hd₂; cases hd₂; rfl
    subst hlen
    have hs₂ : s₂ = (({ U with heap := s₂.heap, slotsUsed := s₂.slotsUsed } : State).setVm s₂.vm).setTop { g with pc := g.pc + len₂, stack := v.toList ++ g.stack } := by
      refine e3.trans ?_
      rw [hf₂, State.calling_eq h.top, State.setFrames_setFrames, State.setTop_of_frames _ hr', hr]
      rfl
    have hsame : U.sameButNew ({ U with heap := s₂.heap, slotsUsed := s₂.slotsUsed } : State) L mc ms := by
      refine ⟨?_, q2, q3, q4, q5, q6⟩
      obtain ⟨t, ht, -⟩ := State.frames_cons hr
      show ({ U with heap := s₂.heap, slotsUsed := s₂.slotsUsed } : State) = { U.setFrames U.frames with heap := s₂.heap, slotsUsed := s₂.slotsUsed }
      rw [State.setFrames_self ht]
    subst hg
    refine Or.inl ⟨v, ⟨(({ U with heap := s₂.heap, slotsUsed := s₂.slotsUsed } : State).setVm s₂.vm), Ls ++ L, c0 + mc, s0 + ms⟩,
      ⟨X.admits, X.cas, X.clock, X.frames, X.room, X.hears, X.method, X.code, (X.here.setHeapUsed s₂.heap s₂.slotsUsed).setVm hW'.alike, X.tail, State.WarmedH.trans X.warmed hW', X.limits, X.bytes, X.same.trans (hsame.setVm s.vm)⟩,
      ⟨g, mk, s₂, L, rfl, rfl, hqc, rfl, hL, rfl, rfl⟩, ?_⟩
    show Steps p.tables e below _ ((({ U with heap := s₂.heap, slotsUsed := s₂.slotsUsed } : State).setVm s₂.vm).setTop { g with pc := g.pc + len₂, stack := v.toList ++ g.stack })
    rw [← hs₂]
    exact hsteps
  · obtain ⟨e2, q2, q3, q4, q5, q6⟩ := id hsm
    have e3 : s₂ = ({ (U.calling g mk a).setFrames s₂.frames with heap := s₂.heap, slotsUsed := s₂.slotsUsed } : State).setVm s₂.vm := by
      have : s₂ = ({ s₂ with vm := (U.calling g mk a).vm } : State).setVm s₂.vm := rfl
      rw [e2] at this
      exact this
    have hf₂ : s₂.frames = .throwing q :: .java g :: U.frames.tail := hend
    have hW' : U.WarmedH s₂.vm := hW₂
    have hs₂ : s₂ = ((({ U with heap := s₂.heap, slotsUsed := s₂.slotsUsed } : State).setVm s₂.vm).setTop g).pushFrame (.throwing q) := by
      refine e3.trans ?_
      rw [hf₂, State.calling_eq h.top, State.setFrames_setFrames, State.pushFrame, State.frames_setTop _ hr', State.setTop_of_frames _ hr', State.setFrames_setFrames, hr]
      rfl
    have hsame : U.sameButNew ({ U with heap := s₂.heap, slotsUsed := s₂.slotsUsed } : State) L mc ms := by
      refine ⟨?_, q2, q3, q4, q5, q6⟩
      obtain ⟨t, ht, -⟩ := State.frames_cons hr
      show ({ U with heap := s₂.heap, slotsUsed := s₂.slotsUsed } : State) = { U.setFrames U.frames with heap := s₂.heap, slotsUsed := s₂.slotsUsed }
      rw [State.setFrames_self ht]
    subst hg
    refine Or.inr ⟨q, ⟨(({ U with heap := s₂.heap, slotsUsed := s₂.slotsUsed } : State).setVm s₂.vm), Ls ++ L, c0 + mc, s0 + ms⟩,
      ⟨X.admits, X.cas, X.clock, X.frames, X.room, X.hears, X.method, X.code, (X.here.setHeapUsed s₂.heap s₂.slotsUsed).setVm hW'.alike, X.tail, State.WarmedH.trans X.warmed hW', X.limits, X.bytes, X.same.trans (hsame.setVm s.vm)⟩,
      ⟨g, mk, s₂, L, E, ce, rfl, rfl, hx, hce, hcv, hcl, rfl, hL, rfl, rfl⟩, ?_⟩
    show Steps p.tables e below _ (((({ U with heap := s₂.heap, slotsUsed := s₂.slotsUsed } : State).setVm s₂.vm).setTop g).pushFrame (.throwing q))
    rw [← hs₂]
    exact hsteps
end Payer
section Calls
variable {p : Program} {l : Launch} {e : Env} {R : Room} {s : State} {m : MethodId} {args : Array Value} {below : List Frame} {meth : Method} {c : Code} {T : State} {locs : List Loc} {cells slots : Nat}
theorem vx_callV (X : Stand p l e R s m args below meth c T locs cells slots) (hexec : p.tables.exec = Jvm.exec) {own C : String} {index : Nat} {y : MethodName} {bytes : ByteArray} {maxL : Nat} {ret : Option FieldType}
    (hown : s.vm.findClass own = some m.cls) (hlink : (Cond.methodLink own index y).before args s = true) (hinst : (Cond.instanceMethod y).before args s = true) (hsel : (Cond.selects C y y).before args s = true)
    (hcode : (Cond.code y bytes maxL ret).before args s = true) (hy : y.cls ≠ "java/lang/invoke/MethodHandle" ∧ y.cls ≠ "java/lang/invoke/VarHandle")
    {W9 : Nat} {Pre : Pt → Array Value → Prop} {Post : Pt → Array Value → Option Value → Pt → Prop} {PostX : Pt → Array Value → Addr → Pt → Prop} (hK : vx_Back l R p e below s args y 3 W9 Pre Post PostX)
    {b : Addr} {cellB : Cell} (hcell : T.heap[b]? = some cellB) (hobj : cellB.vm.isStatics = false) (hcls : s.vm.findClass C = some cellB.cls)
    {g : JFrame} (hg : g.method = m) (hsize : g.locals.size = c.maxLocals) {argsL rest : List Value} (hlen : ∀ sig, parseMethodDescriptor y.desc = some sig → argsL.length = sig.parameters.length)
    (hstack : g.stack = argsL.reverse ++ .ref b :: rest) (hW : 2 * g.monitorRoom + (rest.map fun v => v.category).sum ≤ W9) (hdg : decode c.code g.pc = .ok (.invokevirtual index, 3))
    (hpre : ∀ vm₁, s.WarmedH vm₁ → Pre ⟨T.setVm vm₁, locs, cells, slots⟩ (Value.ref b :: argsL).toArray) :
    (∃ (v : Option Value) (vm₁ : Vm) (B : Pt), s.WarmedH vm₁ ∧ Stand p l e R s m args below meth c B.U B.locs B.cells B.slots ∧ Post ⟨T.setVm vm₁, locs, cells, slots⟩ (Value.ref b :: argsL).toArray v B ∧
      ∀ target, Steps p.tables e below (B.U.setTop { g with pc := g.pc + 3, stack := v.toList ++ rest }) target → Steps p.tables e below (T.setTop g) target) ∨
    (∃ (q : Addr) (vm₁ : Vm) (B : Pt), s.WarmedH vm₁ ∧ Stand p l e R s m args below meth c B.U B.locs B.cells B.slots ∧ PostX ⟨T.setVm vm₁, locs, cells, slots⟩ (Value.ref b :: argsL).toArray q B ∧
      Steps p.tables e below (T.setTop g) ((B.U.setTop { g with stack := rest }).pushFrame (.throwing q))) := by
  obtain ⟨mk, methM, hnamed, hmethM, hstM, habM⟩ := Cond.instanceMethod_spec hinst
  obtain ⟨methM', cM, hmethM', -, -, -, -, -, -, hsigM⟩ := Cond.code_spec hnamed hcode
  cases hmethM.symm.trans hmethM'
  obtain ⟨c2, r2, m2, q1, q2, q3, q4, kP, hkP, hkPi⟩ := Cond.selects_spec hsel
  cases hcls.symm.trans q1
  cases (State.methodFound?_of_named hnamed hy).symm.trans q2
  cases hnamed.symm.trans q3
  have hselP : selectMethod e.platform s.vm cellB.cls mk = .method mk := by rw [Launch.admits_selectMethod X.admits]; exact q4
  obtain ⟨vm₁, X₁, hstep₁⟩ := X.invokevirtual hexec hown hlink hnamed hmethM hstM hkP hkPi hy (a := b) (cell := cellB) hcell
    (fun z h => by rw [h] at hobj; cases hobj) hselP hmethM habM hkP hkPi (g := g) hg (argsL := argsL) (rest := rest) (hlen _ hsigM) hstack hdg
  rcases hK m meth c ⟨T.setVm vm₁, locs, cells, slots⟩ { g with stack := rest } (.invokevirtual index) mk (Value.ref b :: argsL).toArray X₁ hg hsize hdg hW (X₁.named hnamed) (hpre vm₁ X₁.warmed) with ⟨v, B, X', hpost, hsteps⟩ | ⟨q, B, X', hpost, hsteps⟩
  · exact Or.inl ⟨v, vm₁, B, X₁.warmed, X', hpost, fun target h => hstep₁ _ fun acts => by rw [doInvoke_state]; exact hsteps.trans h⟩
  · exact Or.inr ⟨q, vm₁, B, X₁.warmed, X', hpost, hstep₁ _ fun acts => by rw [doInvoke_state]; exact hsteps⟩
theorem vx_callS (X : Stand p l e R s m args below meth c T locs cells slots) (hexec : p.tables.exec = Jvm.exec) {own : String} {index : Nat} {y : MethodName} {bytes : ByteArray} {maxL : Nat} {ret : Option FieldType}
    (hown : s.vm.findClass own = some m.cls) (hlink : (Cond.methodLink own index y).before args s = true) (hstat : (Cond.static y).before args s = true) (hinit : (Cond.initialized y.cls).before args s = true)
    (hcode : (Cond.code y bytes maxL ret).before args s = true) (hy : y.cls ≠ "java/lang/invoke/MethodHandle" ∧ y.cls ≠ "java/lang/invoke/VarHandle")
    {W9 : Nat} {Pre : Pt → Array Value → Prop} {Post : Pt → Array Value → Option Value → Pt → Prop} {PostX : Pt → Array Value → Addr → Pt → Prop} (hK : vx_Back l R p e below s args y 3 W9 Pre Post PostX)
    {g : JFrame} (hg : g.method = m) (hsize : g.locals.size = c.maxLocals) {argsL rest : List Value} (hlen : ∀ sig, parseMethodDescriptor y.desc = some sig → argsL.length = sig.parameters.length)
    (hstack : g.stack = argsL.reverse ++ rest) (hW : 2 * g.monitorRoom + (rest.map fun v => v.category).sum ≤ W9) (hdg : decode c.code g.pc = .ok (.invokestatic index, 3))
    (hpre : ∀ vm₁, s.WarmedH vm₁ → Pre ⟨T.setVm vm₁, locs, cells, slots⟩ argsL.toArray) :
    (∃ (v : Option Value) (vm₁ : Vm) (B : Pt), s.WarmedH vm₁ ∧ Stand p l e R s m args below meth c B.U B.locs B.cells B.slots ∧ Post ⟨T.setVm vm₁, locs, cells, slots⟩ argsL.toArray v B ∧
      ∀ target, Steps p.tables e below (B.U.setTop { g with pc := g.pc + 3, stack := v.toList ++ rest }) target → Steps p.tables e below (T.setTop g) target) ∨
    (∃ (q : Addr) (vm₁ : Vm) (B : Pt), s.WarmedH vm₁ ∧ Stand p l e R s m args below meth c B.U B.locs B.cells B.slots ∧ PostX ⟨T.setVm vm₁, locs, cells, slots⟩ argsL.toArray q B ∧
      Steps p.tables e below (T.setTop g) ((B.U.setTop { g with stack := rest }).pushFrame (.throwing q))) := by
  obtain ⟨mk, hnamed⟩ := Cond.code_named hcode
  obtain ⟨methM, cM, hmethM, -, -, -, -, -, -, hsigM⟩ := Cond.code_spec hnamed hcode
  have hstatic : methM.isStatic = true := Cond.static_spec hnamed hmethM hstat
  obtain ⟨kP, hkP, -⟩ := className_of_methodNamed hnamed
  have hinitP : kP.init = .initialized := Cond.initialized_spec (findClass_of_methodNamed hnamed) hkP hinit
  obtain ⟨vm₁, X₁, hstep₁⟩ := X.invokestatic hexec hown hlink hnamed hmethM hstatic hkP hinitP hy (g := g) hg (argsL := argsL) (rest := rest) (hlen _ hsigM) hstack hdg
  rcases hK m meth c ⟨T.setVm vm₁, locs, cells, slots⟩ { g with stack := rest } (.invokestatic index) mk argsL.toArray X₁ hg hsize hdg hW (X₁.named hnamed) (hpre vm₁ X₁.warmed) with ⟨v, B, X', hpost, hsteps⟩ | ⟨q, B, X', hpost, hsteps⟩
  · exact Or.inl ⟨v, vm₁, B, X₁.warmed, X', hpost, fun target h => hstep₁ _ fun acts => by rw [doInvoke_state]; exact hsteps.trans h⟩
  · exact Or.inr ⟨q, vm₁, B, X₁.warmed, X', hpost, hstep₁ _ fun acts => by rw [doInvoke_state]; exact hsteps⟩
end Calls
theorem vx_cls {s : State} {T : State} {vm₁ : Vm} {E : String} {k : ClassId} (hW : s.WarmedH vm₁) (h : (T.setVm vm₁).vm.findClass E = some k) : s.vm.findClass E = some k := by
  have h1 : vm₁.findClass E = some k := h
  rw [hW.alike.findClass] at h1
  exact h1
/-- the method's frame g, with q thrown over it -/
def vx_W (p : Program) (l : Launch) (e : Env) (R : Room) (s : State) (m : MethodId) (args : Array Value) (below : List Frame) (meth : Method) (c : Code) (H : Heap) (locs : List Loc) (cells slots : Nat) (Q : State → Prop) (g : JFrame) (q : Addr) : Prop :=
  ∀ T : State, T.heap = H → Stand p l e R s m args below meth c T locs cells slots → ∃ t, Steps p.tables e below ((T.setTop g).pushFrame (.throwing q)) t ∧ Q t
def vx_Run (p : Program) (l : Launch) (e : Env) (R : Room) (s : State) (m : MethodId) (args : Array Value) (below : List Frame) (meth : Method) (c : Code) (H : Heap) (locs : List Loc) (cells slots mc ms : Nat) (g : JFrame) (rest : List Value) (Qa : State → Outcome → State → Prop) (XC : String → State → State → Prop) (free : Addr → Prop) : Prop :=
  ∀ T : State, T.heap = H → Stand p l e R s m args below meth c T locs cells slots →
    (∃ (v : Option Value) (st₀ t T' : State) (L : List Loc), st₀.heap = H ∧ Stand p l e R s m args below meth c T' (locs ++ L) (cells + mc) (slots + ms) ∧ (∀ q ∈ L, free q.base) ∧ T'.heap = t.heap ∧ T'.vm = t.vm ∧ Qa st₀ (.returned v) t ∧
      Goes p e below T g T' { g with pc := g.pc + 3, stack := v.toList ++ rest }) ∨
    (∃ (q : Addr) (st₀ t T' : State) (L : List Loc) (E : String) (ce : Cell), st₀.heap = H ∧ Stand p l e R s m args below meth c T' (locs ++ L) (cells + mc) (slots + ms) ∧ (∀ z ∈ L, free z.base) ∧ T'.heap = t.heap ∧ T'.vm = t.vm ∧ XC E st₀ t ∧ t.heap[q]? = some ce ∧ ce.vm = .none ∧ s.vm.findClass E = some ce.cls ∧
      Steps p.tables e below (T.setTop g) ((T'.setTop { g with stack := rest }).pushFrame (.throwing q)))
def vx_X {S : Type} (px : S → Prop) (B : String → S → State → Prop) (A : Nat → Prop) : String → State → State → Prop := fun E st t => ∃ u : S, px u ∧ B E u t ∧ va_F A st t
section Runs
variable {p : Program} {l : Launch} {e : Env} {R : Room} {s : State} {m : MethodId} {args : Array Value} {below : List Frame} {meth : Method} {c : Code} {H : Heap} {locs : List Loc} {cells slots : Nat}
variable {y : MethodName} {bytes cc : ByteArray} {maxL nL mc ms n index : Nat} {ret : Option FieldType} {ws : List Cond} {rm : Room} {Pc : Array Value → State → Prop} {Qc : Array Value → State → Outcome → State → Prop} {XC : String → State → State → Prop} {free : Addr → Prop} {Ts : List Cond} {own C : String} {b : Addr} {As rest : List Value} {g : JFrame}
theorem vx_callBack (cb : CallB R s args own index y bytes maxL ret ws rm mc ms n) (hM : vx_Met l y ws rm Pc Qc XC mc ms free) (hbl : FrameBlind Pc) : vx_Back l R p e below s args y 3 8 (PreOf R mc ms Pc) (PostOf Qc mc ms free) (vx_Post XC mc ms free) := by
  obtain ⟨hrc, hrs, hfr, hlo, hws, hcw, -, hini, -⟩ := cb
  exact vx_back (bytes := bytes) (maxL := maxL) (ret := ret) hM hbl hrc hrs hfr hlo hws hcw (fun a' U hW => word_at hW (Or.inl (by first | rfl | simp [Cond.onTables, Cond.keeps, Cond.steady])) hini)
theorem vx_runV (S : CallFix p m c cc nL s args Ts own) (hM : vx_Met l y ws rm Pc Qc XC mc ms free) (cw : CallW R s args own C index y bytes maxL ret ws rm mc ms n) (hp : PreV s H C b Pc As)
    (hg : g.method = m) (hn : As.length = n) (hsize : g.locals.size = nL) (hstack : g.stack = As.reverse ++ .ref b :: rest) (hW : 2 * g.monitorRoom + (rest.map fun v => v.category).sum ≤ 8) (hdg : decode cc g.pc = .ok (.invokevirtual index, 3)) (hf : cells + mc ≤ R.cells ∧ slots + ms ≤ R.slots) :
    vx_Run p l e R s m args below meth c H locs cells slots mc ms g rest (Qc (Value.ref b :: As).toArray) XC free := by
  have hK : vx_Back l R p e below s args y 3 8 (PreOf R mc ms Pc) (PostOf Qc mc ms free) (vx_Post XC mc ms free) := vx_callBack cw.1 hM hp.1
  obtain ⟨⟨-, -, -, -, -, -, hcode, -, hy, hlen, hl⟩, hin, hse⟩ := cw
  obtain ⟨hx, hb, hml, ho, -⟩ := S
  obtain ⟨-, ⟨cellB, hcB, hoB, hclB⟩, hPc⟩ := hp
  intro T hT X
  rcases vx_callV X hx (C := C) (bytes := bytes) (maxL := maxL) (ret := ret) ho hl hin hse hcode hy hK (by rw [hT]; exact hcB) hoB hclB hg (hsize.trans hml.symm) (argsL := As) (rest := rest) (fun sig h => hn.trans (hlen sig h)) hstack hW (by rw [hb]; exact hdg)
    (fun vm₁ hW₁ => ⟨hf.1, hf.2, hPc (T.setVm vm₁) hT hW₁⟩) with ⟨v, vm₁, ⟨U', l2, c2, s2⟩, hW₁, X', ⟨g', mk, t, L, e1, e2, hq, h1, hL, h2, h3⟩, st⟩ | ⟨q, vm₁, ⟨U', l2, c2, s2⟩, hW₁, X', ⟨g', mk, t, L, E, ce, e1, e2, hq, hce, hcv, hcl, h1, hL, h2, h3⟩, st⟩
  · dsimp only [Pt.U, Pt.locs, Pt.cells, Pt.slots] at X' e1 e2 h1 h2 h3 st
    subst h1; subst h2; subst h3
    exact Or.inl ⟨v, (T.setVm vm₁).calling g' mk (Value.ref b :: As).toArray, t, U', L, hT, X', hL, e1, e2, hq, st⟩
  · dsimp only [Pt.U, Pt.locs, Pt.cells, Pt.slots] at X' e1 e2 h1 h2 h3 st hcl
    subst h1; subst h2; subst h3
    exact Or.inr ⟨q, (T.setVm vm₁).calling g' mk (Value.ref b :: As).toArray, t, U', L, E, ce, hT, X', hL, e1, e2, hq, hce, hcv, vx_cls hW₁ hcl, st⟩
theorem vx_runS (S : CallFix p m c cc nL s args Ts own) (hM : vx_Met l y ws rm Pc Qc XC mc ms free) (cw : CallB R s args own index y bytes maxL ret ws rm mc ms n ∧ (Cond.static y).before args s = true) (hp : PreS s H Pc As)
    (hg : g.method = m) (hn : As.length = n) (hsize : g.locals.size = nL) (hstack : g.stack = As.reverse ++ rest) (hW : 2 * g.monitorRoom + (rest.map fun v => v.category).sum ≤ 8) (hdg : decode cc g.pc = .ok (.invokestatic index, 3)) (hf : cells + mc ≤ R.cells ∧ slots + ms ≤ R.slots) :
    vx_Run p l e R s m args below meth c H locs cells slots mc ms g rest (Qc As.toArray) XC free := by
  have hK : vx_Back l R p e below s args y 3 8 (PreOf R mc ms Pc) (PostOf Qc mc ms free) (vx_Post XC mc ms free) := vx_callBack cw.1 hM hp.1
  obtain ⟨⟨-, -, -, -, -, -, hcode, hini, hy, hlen, hl⟩, hstt⟩ := cw
  obtain ⟨hx, hb, hml, ho, -⟩ := S
  intro T hT X
  rcases vx_callS X hx (bytes := bytes) (maxL := maxL) (ret := ret) ho hl hstt hini hcode hy hK hg (hsize.trans hml.symm) (argsL := As) (rest := rest) (fun sig h => hn.trans (hlen sig h)) hstack hW (by rw [hb]; exact hdg)
    (fun vm₁ hW₁ => ⟨hf.1, hf.2, hp.2 (T.setVm vm₁) hT hW₁⟩) with ⟨v, vm₁, ⟨U', l2, c2, s2⟩, hW₁, X', ⟨g', mk, t, L, e1, e2, hq, h1, hL, h2, h3⟩, st⟩ | ⟨q, vm₁, ⟨U', l2, c2, s2⟩, hW₁, X', ⟨g', mk, t, L, E, ce, e1, e2, hq, hce, hcv, hcl, h1, hL, h2, h3⟩, st⟩
  · dsimp only [Pt.U, Pt.locs, Pt.cells, Pt.slots] at X' e1 e2 h1 h2 h3 st
    subst h1; subst h2; subst h3
    exact Or.inl ⟨v, (T.setVm vm₁).calling g' mk As.toArray, t, U', L, hT, X', hL, e1, e2, hq, st⟩
  · dsimp only [Pt.U, Pt.locs, Pt.cells, Pt.slots] at X' e1 e2 h1 h2 h3 st hcl
    subst h1; subst h2; subst h3
    exact Or.inr ⟨q, (T.setVm vm₁).calling g' mk As.toArray, t, U', L, E, ce, hT, X', hL, e1, e2, hq, hce, hcv, vx_cls hW₁ hcl, st⟩
end Runs
section Rows
variable {p : Program} {l : Launch} {e : Env} {R : Room} {s : State} {m : MethodId} {args : Array Value} {below : List Frame} {meth : Method} {c : Code} {H : Heap} {locs : List Loc} {cells slots : Nat} {Q : State → Prop}
variable {mc ms : Nat} {free : Addr → Prop} {A0 A1 : Nat → Prop} {H0 : Heap} {a : Array Value} {pc : Nat} {ls : Array Slot} {st0 rest : List Value}
theorem vx_keep {st₀ t T' : State} {L : List Loc} (h0 : st₀.heap = H) (e1 : T'.heap = t.heap) (hS : va_S A0 H0 H locs) (hA : ∀ q, q < H.size → A1 q → A0 q) (hf : ∀ q, free q → A0 q) (hL : ∀ q ∈ L, free q.base) (hF : va_F A1 st₀ t) :
    H.size ≤ T'.heap.size ∧ (∀ q : Nat, q < H.size → ¬ A1 q → T'.heap[q]? = H[q]?) ∧ va_S A0 H0 T'.heap (locs ++ L) := by
  obtain ⟨hz, hk⟩ := hF
  rw [h0] at hz hk
  exact ⟨by rw [e1]; exact hz, fun q h1 h2 => by rw [e1]; exact hk q h1 h2,
    ⟨Nat.le_trans hS.1 (by rw [e1]; exact hz), fun q h1 h2 => by rw [e1, hk q (Nat.lt_of_lt_of_le h1 hS.1) (fun z => h2 (hA q (Nat.lt_of_lt_of_le h1 hS.1) z))]; exact hS.2.1 q h1 h2, fun q hq => by
      rcases List.mem_append.mp hq with h | h
      · exact hS.2.2 q h
      · exact hf _ (hL q h)⟩⟩
theorem vx_calli {S SX : Type} {post : Int32 → S → Prop} {px : SX → Prop} {B : S → State → Prop} {BX : String → SX → State → Prop} {AX : Nat → Prop} (hr : vx_Run p l e R s m args below meth c H locs cells slots mc ms (F0 m pc ls st0) rest (va_Qi post B A1 a) (vx_X px BX AX) free) (hS : va_S A0 H0 H locs) (hA : ∀ q, q < H.size → A1 q → A0 q) (hf : ∀ q, free q → A0 q) (hAX : ∀ q, q < H.size → AX q → A0 q)
    (kx : ∀ (E : String) (ce : Cell) (q9 : Addr) (u : SX) (t : State) (H1 : Heap) (locs1 : List Loc), t.heap = H1 → s.vm.Alike t.vm → px u → BX E u t → H.size ≤ H1.size → (∀ q : Nat, q < H.size → ¬ AX q → H1[q]? = H[q]?) → va_S A0 H0 H1 locs1 → H1[q9]? = some ce → ce.vm = .none → s.vm.findClass E = some ce.cls → vx_W p l e R s m args below meth c H1 locs1 (cells + mc) (slots + ms) Q (F0 m pc ls rest) q9)
    (kk : ∀ (r : Int32) (u : S) (t : State) (H1 : Heap) (locs1 : List Loc), t.heap = H1 → s.vm.Alike t.vm → post r u → B u t → H.size ≤ H1.size → (∀ q : Nat, q < H.size → ¬ A1 q → H1[q]? = H[q]?) → va_S A0 H0 H1 locs1 → W p l e R s m args below meth c H1 locs1 (cells + mc) (slots + ms) Q (F0 m (pc + 3) ls (.int r :: rest))) : W p l e R s m args below meth c H locs cells slots Q (F0 m pc ls st0) := by
  intro T hT X
  rcases hr T hT X with ⟨v, st₀, t, T', L, h0, X', hL, e1, e2, ⟨⟨r, u, hv, hp, hb⟩, hF⟩, st⟩ | ⟨q, st₀, t, T', L, E, ce, h0, X', hL, e1, e2, ⟨u, hp, hb, hF⟩, hce, hcv, hcl, st⟩
  · cases hv
    obtain ⟨k1, k2, k3⟩ := vx_keep h0 e1 hS hA hf hL hF
    obtain ⟨t2, a1, b1⟩ := kk r u t T'.heap (locs ++ L) e1.symm (by rw [← e2]; exact X'.warmed.alike) hp hb k1 k2 k3 T' rfl X'
    exact ⟨t2, st t2 a1, b1⟩
  · obtain ⟨k1, k2, k3⟩ := vx_keep h0 e1 hS hAX hf hL hF
    obtain ⟨t2, a1, b1⟩ := kx E ce q u t T'.heap (locs ++ L) e1.symm (by rw [← e2]; exact X'.warmed.alike) hp hb k1 k2 k3 (by rw [e1]; exact hce) hcv hcl T' rfl X'
    exact ⟨t2, st.trans a1, b1⟩
theorem vx_calll {S SX : Type} {post : Int64 → S → Prop} {px : SX → Prop} {B : S → State → Prop} {BX : String → SX → State → Prop} {AX : Nat → Prop} (hr : vx_Run p l e R s m args below meth c H locs cells slots mc ms (F0 m pc ls st0) rest (va_Ql post B A1 a) (vx_X px BX AX) free) (hS : va_S A0 H0 H locs) (hA : ∀ q, q < H.size → A1 q → A0 q) (hf : ∀ q, free q → A0 q) (hAX : ∀ q, q < H.size → AX q → A0 q)
    (kx : ∀ (E : String) (ce : Cell) (q9 : Addr) (u : SX) (t : State) (H1 : Heap) (locs1 : List Loc), t.heap = H1 → s.vm.Alike t.vm → px u → BX E u t → H.size ≤ H1.size → (∀ q : Nat, q < H.size → ¬ AX q → H1[q]? = H[q]?) → va_S A0 H0 H1 locs1 → H1[q9]? = some ce → ce.vm = .none → s.vm.findClass E = some ce.cls → vx_W p l e R s m args below meth c H1 locs1 (cells + mc) (slots + ms) Q (F0 m pc ls rest) q9)
    (kk : ∀ (r : Int64) (u : S) (t : State) (H1 : Heap) (locs1 : List Loc), t.heap = H1 → s.vm.Alike t.vm → post r u → B u t → H.size ≤ H1.size → (∀ q : Nat, q < H.size → ¬ A1 q → H1[q]? = H[q]?) → va_S A0 H0 H1 locs1 → W p l e R s m args below meth c H1 locs1 (cells + mc) (slots + ms) Q (F0 m (pc + 3) ls (.long r :: rest))) : W p l e R s m args below meth c H locs cells slots Q (F0 m pc ls st0) := by
  intro T hT X
  rcases hr T hT X with ⟨v, st₀, t, T', L, h0, X', hL, e1, e2, ⟨⟨r, u, hv, hp, hb⟩, hF⟩, st⟩ | ⟨q, st₀, t, T', L, E, ce, h0, X', hL, e1, e2, ⟨u, hp, hb, hF⟩, hce, hcv, hcl, st⟩
  · cases hv
    obtain ⟨k1, k2, k3⟩ := vx_keep h0 e1 hS hA hf hL hF
    obtain ⟨t2, a1, b1⟩ := kk r u t T'.heap (locs ++ L) e1.symm (by rw [← e2]; exact X'.warmed.alike) hp hb k1 k2 k3 T' rfl X'
    exact ⟨t2, st t2 a1, b1⟩
  · obtain ⟨k1, k2, k3⟩ := vx_keep h0 e1 hS hAX hf hL hF
    obtain ⟨t2, a1, b1⟩ := kx E ce q u t T'.heap (locs ++ L) e1.symm (by rw [← e2]; exact X'.warmed.alike) hp hb k1 k2 k3 (by rw [e1]; exact hce) hcv hcl T' rfl X'
    exact ⟨t2, st.trans a1, b1⟩
theorem vx_callf {S SX : Type} {post : UInt32 → S → Prop} {px : SX → Prop} {B : S → State → Prop} {BX : String → SX → State → Prop} {AX : Nat → Prop} (hr : vx_Run p l e R s m args below meth c H locs cells slots mc ms (F0 m pc ls st0) rest (va_Qf post B A1 a) (vx_X px BX AX) free) (hS : va_S A0 H0 H locs) (hA : ∀ q, q < H.size → A1 q → A0 q) (hf : ∀ q, free q → A0 q) (hAX : ∀ q, q < H.size → AX q → A0 q)
    (kx : ∀ (E : String) (ce : Cell) (q9 : Addr) (u : SX) (t : State) (H1 : Heap) (locs1 : List Loc), t.heap = H1 → s.vm.Alike t.vm → px u → BX E u t → H.size ≤ H1.size → (∀ q : Nat, q < H.size → ¬ AX q → H1[q]? = H[q]?) → va_S A0 H0 H1 locs1 → H1[q9]? = some ce → ce.vm = .none → s.vm.findClass E = some ce.cls → vx_W p l e R s m args below meth c H1 locs1 (cells + mc) (slots + ms) Q (F0 m pc ls rest) q9)
    (kk : ∀ (r : UInt32) (u : S) (t : State) (H1 : Heap) (locs1 : List Loc), t.heap = H1 → s.vm.Alike t.vm → post r u → B u t → H.size ≤ H1.size → (∀ q : Nat, q < H.size → ¬ A1 q → H1[q]? = H[q]?) → va_S A0 H0 H1 locs1 → W p l e R s m args below meth c H1 locs1 (cells + mc) (slots + ms) Q (F0 m (pc + 3) ls (.float r :: rest))) : W p l e R s m args below meth c H locs cells slots Q (F0 m pc ls st0) := by
  intro T hT X
  rcases hr T hT X with ⟨v, st₀, t, T', L, h0, X', hL, e1, e2, ⟨⟨r, u, hv, hp, hb⟩, hF⟩, st⟩ | ⟨q, st₀, t, T', L, E, ce, h0, X', hL, e1, e2, ⟨u, hp, hb, hF⟩, hce, hcv, hcl, st⟩
  · cases hv
    obtain ⟨k1, k2, k3⟩ := vx_keep h0 e1 hS hA hf hL hF
    obtain ⟨t2, a1, b1⟩ := kk r u t T'.heap (locs ++ L) e1.symm (by rw [← e2]; exact X'.warmed.alike) hp hb k1 k2 k3 T' rfl X'
    exact ⟨t2, st t2 a1, b1⟩
  · obtain ⟨k1, k2, k3⟩ := vx_keep h0 e1 hS hAX hf hL hF
    obtain ⟨t2, a1, b1⟩ := kx E ce q u t T'.heap (locs ++ L) e1.symm (by rw [← e2]; exact X'.warmed.alike) hp hb k1 k2 k3 (by rw [e1]; exact hce) hcv hcl T' rfl X'
    exact ⟨t2, st.trans a1, b1⟩
theorem vx_calld {S SX : Type} {post : UInt64 → S → Prop} {px : SX → Prop} {B : S → State → Prop} {BX : String → SX → State → Prop} {AX : Nat → Prop} (hr : vx_Run p l e R s m args below meth c H locs cells slots mc ms (F0 m pc ls st0) rest (va_Qd post B A1 a) (vx_X px BX AX) free) (hS : va_S A0 H0 H locs) (hA : ∀ q, q < H.size → A1 q → A0 q) (hf : ∀ q, free q → A0 q) (hAX : ∀ q, q < H.size → AX q → A0 q)
    (kx : ∀ (E : String) (ce : Cell) (q9 : Addr) (u : SX) (t : State) (H1 : Heap) (locs1 : List Loc), t.heap = H1 → s.vm.Alike t.vm → px u → BX E u t → H.size ≤ H1.size → (∀ q : Nat, q < H.size → ¬ AX q → H1[q]? = H[q]?) → va_S A0 H0 H1 locs1 → H1[q9]? = some ce → ce.vm = .none → s.vm.findClass E = some ce.cls → vx_W p l e R s m args below meth c H1 locs1 (cells + mc) (slots + ms) Q (F0 m pc ls rest) q9)
    (kk : ∀ (r : UInt64) (u : S) (t : State) (H1 : Heap) (locs1 : List Loc), t.heap = H1 → s.vm.Alike t.vm → post r u → B u t → H.size ≤ H1.size → (∀ q : Nat, q < H.size → ¬ A1 q → H1[q]? = H[q]?) → va_S A0 H0 H1 locs1 → W p l e R s m args below meth c H1 locs1 (cells + mc) (slots + ms) Q (F0 m (pc + 3) ls (.double r :: rest))) : W p l e R s m args below meth c H locs cells slots Q (F0 m pc ls st0) := by
  intro T hT X
  rcases hr T hT X with ⟨v, st₀, t, T', L, h0, X', hL, e1, e2, ⟨⟨r, u, hv, hp, hb⟩, hF⟩, st⟩ | ⟨q, st₀, t, T', L, E, ce, h0, X', hL, e1, e2, ⟨u, hp, hb, hF⟩, hce, hcv, hcl, st⟩
  · cases hv
    obtain ⟨k1, k2, k3⟩ := vx_keep h0 e1 hS hA hf hL hF
    obtain ⟨t2, a1, b1⟩ := kk r u t T'.heap (locs ++ L) e1.symm (by rw [← e2]; exact X'.warmed.alike) hp hb k1 k2 k3 T' rfl X'
    exact ⟨t2, st t2 a1, b1⟩
  · obtain ⟨k1, k2, k3⟩ := vx_keep h0 e1 hS hAX hf hL hF
    obtain ⟨t2, a1, b1⟩ := kx E ce q u t T'.heap (locs ++ L) e1.symm (by rw [← e2]; exact X'.warmed.alike) hp hb k1 k2 k3 (by rw [e1]; exact hce) hcv hcl T' rfl X'
    exact ⟨t2, st.trans a1, b1⟩
theorem vx_callv {S SX : Type} {post : S → Prop} {px : SX → Prop} {B : S → State → Prop} {BX : String → SX → State → Prop} {AX : Nat → Prop} (hr : vx_Run p l e R s m args below meth c H locs cells slots mc ms (F0 m pc ls st0) rest (va_Qv post B A1 a) (vx_X px BX AX) free) (hS : va_S A0 H0 H locs) (hA : ∀ q, q < H.size → A1 q → A0 q) (hf : ∀ q, free q → A0 q) (hAX : ∀ q, q < H.size → AX q → A0 q)
    (kx : ∀ (E : String) (ce : Cell) (q9 : Addr) (u : SX) (t : State) (H1 : Heap) (locs1 : List Loc), t.heap = H1 → s.vm.Alike t.vm → px u → BX E u t → H.size ≤ H1.size → (∀ q : Nat, q < H.size → ¬ AX q → H1[q]? = H[q]?) → va_S A0 H0 H1 locs1 → H1[q9]? = some ce → ce.vm = .none → s.vm.findClass E = some ce.cls → vx_W p l e R s m args below meth c H1 locs1 (cells + mc) (slots + ms) Q (F0 m pc ls rest) q9)
    (kk : ∀ (u : S) (t : State) (H1 : Heap) (locs1 : List Loc), t.heap = H1 → s.vm.Alike t.vm → post u → B u t → H.size ≤ H1.size → (∀ q : Nat, q < H.size → ¬ A1 q → H1[q]? = H[q]?) → va_S A0 H0 H1 locs1 → W p l e R s m args below meth c H1 locs1 (cells + mc) (slots + ms) Q (F0 m (pc + 3) ls (rest))) : W p l e R s m args below meth c H locs cells slots Q (F0 m pc ls st0) := by
  intro T hT X
  rcases hr T hT X with ⟨v, st₀, t, T', L, h0, X', hL, e1, e2, ⟨⟨u, hv, hp, hb⟩, hF⟩, st⟩ | ⟨q, st₀, t, T', L, E, ce, h0, X', hL, e1, e2, ⟨u, hp, hb, hF⟩, hce, hcv, hcl, st⟩
  · cases hv
    obtain ⟨k1, k2, k3⟩ := vx_keep h0 e1 hS hA hf hL hF
    obtain ⟨t2, a1, b1⟩ := kk u t T'.heap (locs ++ L) e1.symm (by rw [← e2]; exact X'.warmed.alike) hp hb k1 k2 k3 T' rfl X'
    exact ⟨t2, st t2 a1, b1⟩
  · obtain ⟨k1, k2, k3⟩ := vx_keep h0 e1 hS hAX hf hL hF
    obtain ⟨t2, a1, b1⟩ := kx E ce q u t T'.heap (locs ++ L) e1.symm (by rw [← e2]; exact X'.warmed.alike) hp hb k1 k2 k3 (by rw [e1]; exact hce) hcv hcl T' rfl X'
    exact ⟨t2, st.trans a1, b1⟩
/-- caught by the row x of this method's table; the rows ahead don't take it -/
theorem vx_catch {own name : String} {E : String} {ce : Cell} {q : Addr} (hown : s.vm.findClass own = some m.cls) (pre : List ExceptionTableEntry) (x : ExceptionTableEntry) (suf : List ExceptionTableEntry) (hsplit : c.exceptionTable.toList = pre ++ x :: suf)
    (hpass : ∀ z ∈ pre, covers z pc = false ∨ (z.catchType ≠ 0 ∧ ∃ nm : String, (Cond.classLink own z.catchType nm).before args s = true ∧ va_Nc E nm s)) (hx : covers x pc = true) (h0 : x.catchType ≠ 0)
    (hlink : (Cond.classLink own x.catchType name).before args s = true) (hcast : (Cond.castable E name).before args s = true) (hcell : H[q]? = some ce) (hv : ce.vm = .none) (hcl : s.vm.findClass E = some ce.cls)
    (kk : W p l e R s m args below meth c H locs cells slots Q (F0 m x.handlerPc ls [.ref q])) : vx_W p l e R s m args below meth c H locs cells slots Q (F0 m pc ls rest) q := by
  intro T hT X
  have hpl : e.platform.magicAccessors = ({} : Platform).magicAccessors := by rw [X.admits.platform]
  obtain ⟨c3, c4, hc3, hc4, hasg⟩ := Cond.castable_spec hcast
  cases Option.some.inj (hc3.symm.trans hcl)
  obtain ⟨c5, hc5, hcl5⟩ := Cond.classLink_spec hown hlink e.platform hpl
  cases Option.some.inj (hc4.symm.trans hc5)
  obtain ⟨vm', X', st⟩ := X.thenCaughtThrough q (g := F0 m pc ls rest) rfl (Steps.refl _) (by rw [hT]; exact hcell) (by rw [hv]; rfl) (by obtain ⟨k9, h9, -⟩ := Vm.findClass_spec hcl; exact ⟨k9, h9⟩) pre x suf hsplit
    (fun z hz => by
      rcases hpass z hz with h | ⟨hz0, nm, hl1, hn1⟩
      · exact Or.inl h
      · obtain ⟨c6, hc6, hcl6⟩ := Cond.classLink_spec hown hl1 e.platform hpl
        obtain ⟨a8, b8, h1, h2, h3⟩ := hn1
        cases Option.some.inj (h1.symm.trans hcl)
        cases Option.some.inj (h2.symm.trans hc6)
        exact Or.inr ⟨hz0, _, hcl6, h3⟩) hx (Or.inr ⟨h0, c4, hcl5, hasg⟩)
  obtain ⟨t, a1, b1⟩ := kk (T.setVm vm') hT X'
  exact ⟨t, st.trans a1, b1⟩
end Rows
section Ends
variable {p : Program} {l : Launch} {e : Env} {R : Room} {s : State} {m : MethodId} {args : Array Value} {below : List Frame} {meth : Method} {c : Code} {H : Heap} {locs : List Loc} {cells slots : Nat} {Q : State → Prop}
variable {mc ms : Nat} {free : Addr → Prop} {A0 A1 : Nat → Prop} {H0 : Heap} {a : Array Value} {ls : Array Slot} {st0 rest : List Value}
variable {Qc : Array Value → State → Outcome → State → Prop} {XC : String → State → State → Prop}
/-- what a body that may throw owes at its end -/
def vx_MQ (below : List Frame) (Qc : Array Value → State → Outcome → State → Prop) (XC : String → State → State → Prop) (a : Array Value) (s : State) (mc ms : Nat) (free : Addr → Prop) : State → Prop := fun t =>
  ∃ o, t.status = .running ∧ Ended t below o ∧ vx_Q Qc XC mc ms free a s o t
theorem vx_ret {g : JFrame} {mc ms : Nat} (k : W p l e R s m args below meth c H locs cells slots (MQ below Qc args s mc ms free) g) : W p l e R s m args below meth c H locs cells slots (vx_MQ below Qc XC args s mc ms free) g := by
  intro T hT X
  obtain ⟨t, a1, o, b1, b2, b3, b4⟩ := k T hT X
  exact ⟨t, a1, o, b1, b2, Or.inl ⟨b3, b4⟩⟩
/-- not caught here: it goes on to the caller -/
theorem vx_widen {g : JFrame} {q : Addr} {k n : Nat} (h1 : cells ≤ k) (h2 : slots ≤ n) (kk : vx_W p l e R s m args below meth c H locs k n Q g q) : vx_W p l e R s m args below meth c H locs cells slots Q g q := fun T hT X => kk T hT (stand_widen X h1 h2)
theorem vx_out {pc : Nat} {E : String} {ce : Cell} {q : Addr} {mc ms : Nat} (hout : ∀ x ∈ c.exceptionTable.toList, covers x pc = false) (hlocks : meth.locks = false) (hcell : H[q]? = some ce) (hv : ce.vm = .none) (hcl : s.vm.findClass E = some ce.cls)
    (hx : ∀ t : State, t.heap = H → s.vm.Alike t.vm → XC E s t) (hf : ∀ z ∈ locs, free z.base) (hc : cells ≤ mc) (hs : slots ≤ ms) :
    vx_W p l e R s m args below meth c H locs cells slots (vx_MQ below Qc XC args s mc ms free) (F0 m pc ls rest) q := by
  intro T hT X
  obtain ⟨st1, hrun, hend, hW, hsm⟩ := X.leaveThrown q (g := F0 m pc ls rest) rfl rfl rfl hout hlocks
  have hcell9 : (T.setFrames (.throwing q :: below)).heap[q]? = some ce := by
    show T.heap[q]? = some ce
    rw [hT]; exact hcell
  exact ⟨_, st1, .threw q, hrun, hend, Or.inr ⟨q, rfl, E, ce, locs, hx _ hT hW.alike, hcell9, hv, hcl, hW, hsm.mono hc hs, hf⟩⟩
theorem vx_frame {U : State} {k n : Nat} (h : s.sameButNew ({ U with vm := s.vm } : State) locs k n) : s.heap.size ≤ U.heap.size ∧ ∀ q : Nat, q < s.heap.size → (∀ z ∈ locs, z.base ≠ q) → U.heap[q]? = s.heap[q]? := by
  obtain ⟨-, h2, -, -, -, h6⟩ := h
  refine ⟨h2, fun q hq hz => ?_⟩
  obtain ⟨c9, e1, e2, e3, e4⟩ := h6 q _ (Array.getElem?_eq_getElem hq)
  have hs : c9.slots = (s.heap[q]).slots := Array.ext_getElem? fun i => e4 i fun hm => hz _ hm rfl
  have h9 : c9 = s.heap[q] := by
    rw [hs] at e2
    exact e2
  have e5 : U.heap[q]? = some c9 := e1
  rw [e5, h9, Array.getElem?_eq_getElem hq]
/-- the words of a throw but the four that speak of the heap -/
def vx_no (w : Cond) : Bool := decide (w ≠ .isRef (.static Bundle.tN "UNASSIGNED_STACK" Bundle.steD)) && decide (w ≠ .isRef (.static Bundle.tN "SUPPRESSED_SENTINEL" Bundle.listD)) && decide (w ≠ .laysStatic Bundle.tN "UNASSIGNED_STACK" Bundle.steD) && decide (w ≠ .laysStatic Bundle.tN "SUPPRESSED_SENTINEL" Bundle.listD)
def vx_at0 (own : String) (ic : Nat) (X : String) (names : List String) : List Cond := (Bundle.ownAtoms0 own ic X names).filter vx_no
def vx_atS (own : String) (ic : Nat) (X : String) (names : List String) : List Cond := (Bundle.ownAtoms own ic X names).filter vx_no
/-- a word that the tables alone decide, or a good one -/
def vx_ot (w : Cond) : Bool := w.onTables || goodWord w
theorem vx_ot_at {args a' : Array Value} {s U : State} {w : Cond} (hW : s.WarmedH U.vm) (hvm : s.vm = U.vm) (hg : vx_ot w = true) (h : w.before args s = true) : w.before a' U = true := by
  simp only [vx_ot, Bool.or_eq_true] at hg
  rcases hg with hg | hg
  · exact va_tabs hg hvm h
  · exact word_at hW (good_of_word hg) h
/-- a list's words: the good ones out of the method's own list, the others by premises of their own -/
theorem vx_hat {args : Array Value} {s : State} {L B : List Cond} (h1 : ∀ w ∈ L.filter goodWord, w.before args s = true) (h2 : ∀ w ∈ L.filter (fun w => !goodWord w), w ∈ B) (h3 : ∀ w ∈ B, w.before args s = true) : ∀ w ∈ L, w.before args s = true := by
  intro w hw
  by_cases g : goodWord w = true
  · exact h1 w (List.mem_filter.mpr ⟨hw, g⟩)
  · refine h3 w (h2 w (List.mem_filter.mpr ⟨hw, ?_⟩))
    show (!goodWord w) = true
    cases hgw : goodWord w
    · rfl
    · exact absurd hgw g
theorem vx_c {args : Array Value} {s : State} {w : Cond} {B : List Cond} (h : w.before args s = true) (t : ∀ w ∈ B, w.before args s = true) : ∀ w' ∈ w :: B, w'.before args s = true := fun w' h' => (List.mem_cons.mp h').elim (fun e => by rw [e]; exact h) (t w')
theorem vx_n {args : Array Value} {s : State} : ∀ w ∈ ([] : List Cond), w.before args s = true := fun _ h => nomatch h
theorem vx_own {args : Array Value} {s : State} {L : List Cond} (h1 : ∀ w ∈ L.filter vx_no, w.before args s = true)
    (hU : (Cond.isRef (.static Bundle.tN "UNASSIGNED_STACK" Bundle.steD)).before args s = true) (hN : (Cond.isRef (.static Bundle.tN "SUPPRESSED_SENTINEL" Bundle.listD)).before args s = true)
    (lU : (Cond.laysStatic Bundle.tN "UNASSIGNED_STACK" Bundle.steD).before args s = true) (lN : (Cond.laysStatic Bundle.tN "SUPPRESSED_SENTINEL" Bundle.listD).before args s = true) : ∀ w ∈ L, w.before args s = true := by
  intro w hw
  by_cases e1 : w = .isRef (.static Bundle.tN "UNASSIGNED_STACK" Bundle.steD)
  · rw [e1]; exact hU
  · by_cases e2 : w = .isRef (.static Bundle.tN "SUPPRESSED_SENTINEL" Bundle.listD)
    · rw [e2]; exact hN
    · by_cases e3 : w = .laysStatic Bundle.tN "UNASSIGNED_STACK" Bundle.steD
      · rw [e3]; exact lU
      · by_cases e4 : w = .laysStatic Bundle.tN "SUPPRESSED_SENTINEL" Bundle.listD
        · rw [e4]; exact lN
        · exact h1 w (List.mem_filter.mpr ⟨hw, by unfold vx_no; rw [decide_eq_true e1, decide_eq_true e2, decide_eq_true e3, decide_eq_true e4]; rfl⟩)
/-- where a static field lies, its class's statics cell in H -/
def vx_L (C n d : String) (A : Nat → Prop) (U : State) (H : Heap) : Prop := ∃ (c : ClassId) (k : Class) (i : Nat) (f : Field) (a : Nat) (cell : Cell), U.vm.findClass C = some c ∧ U.fieldFound? C n d = some (c, k, i, f) ∧ f.isStatic = true ∧ k.statics = some a ∧ H[a]? = some cell ∧ cell.vm.isStatics = true ∧ cell.cls = c ∧ f.slot < cell.slots.size ∧ k.staticTypes[f.slot]? = some f.type ∧ ¬ A a
theorem vx_L.moved {C n d : String} {A : Nat → Prop} {u U : State} {H : Heap} (hvm : u.vm.Alike U.vm) (h : vx_L C n d A u H) : vx_L C n d A U H := by
  obtain ⟨c, k, i, f, a, cell, h1, h2, h3, h4, h5, h6, h7, h8, h9, h10⟩ := h
  obtain ⟨k', hi', he⟩ := State.fieldFound?_setVm hvm h2
  exact ⟨c, k', i, f, a, cell, by rw [hvm.findClass]; exact h1, hi', h3, by rw [he]; exact h4, h5, h6, h7, h8, by rw [he]; exact h9, h10⟩
theorem vx_L.kept {C n d : String} {A : Nat → Prop} {U : State} {H H1 : Heap} (h : vx_L C n d A U H) (hq : ∀ a : Nat, a < H.size → ¬ A a → H1[a]? = H[a]?) : vx_L C n d A U H1 := by
  obtain ⟨c, k, i, f, a, cell, h1, h2, h3, h4, h5, h6, h7, h8, h9, h10⟩ := h
  exact ⟨c, k, i, f, a, cell, h1, h2, h3, h4, by rw [hq a (Array.getElem?_eq_some_iff.mp h5).1 h10]; exact h5, h6, h7, h8, h9, h10⟩
theorem vx_L.narrow {C n d : String} {A B : Nat → Prop} {U : State} {H : Heap} (h : vx_L C n d A U H) (hAB : ∀ q, B q → A q) : vx_L C n d B U H := by
  obtain ⟨c, k, i, f, a, cell, h1, h2, h3, h4, h5, h6, h7, h8, h9, h10⟩ := h
  exact ⟨c, k, i, f, a, cell, h1, h2, h3, h4, h5, h6, h7, h8, h9, fun z => h10 (hAB _ z)⟩
theorem vx_L.word {C n d : String} {A : Nat → Prop} {s : State} {args : Array Value} (h : vx_L C n d A s s.heap) : (Cond.laysStatic C n d).before args s = true := by
  obtain ⟨c, k, i, f, a, cell, h1, h2, h3, h4, h5, h6, h7, h8, h9, -⟩ := h
  show (Cond.laysStatic C n d).holds args s none s [] = true
  exact Cond.laysStatic_of h1 h2 h3 h4 h5 h6 h7 h8 h9
/-- .. and what it holds: null or some reference -/
def vx_Zq (C n d : String) (A : Nat → Prop) (U : State) (H : Heap) : Prop := va_Zq C n d A U H ∧ vx_L C n d A U H
theorem vx_Zq.moved {C n d : String} {A : Nat → Prop} {u U : State} {H : Heap} (hvm : u.vm.Alike U.vm) (h : vx_Zq C n d A u H) : vx_Zq C n d A U H := ⟨va_Zq.moved hvm h.1, vx_L.moved hvm h.2⟩
theorem vx_Zq.kept {C n d : String} {A : Nat → Prop} {U : State} {H H1 : Heap} (h : vx_Zq C n d A U H) (hq : ∀ a : Nat, a < H.size → ¬ A a → H1[a]? = H[a]?) : vx_Zq C n d A U H1 := ⟨va_Zq.kept h.1 hq, vx_L.kept h.2 hq⟩
theorem vx_Zq.narrow {C n d : String} {A B : Nat → Prop} {U : State} {H : Heap} (h : vx_Zq C n d A U H) (hAB : ∀ q, B q → A q) : vx_Zq C n d B U H := ⟨va_Zq.narrow h.1 hAB, vx_L.narrow h.2 hAB⟩
theorem vx_Zqof {args : Array Value} {s : State} {C n d : String} {A : Nat → Prop} (hl : (Cond.laysStatic C n d).before args s = true) (hini : (Cond.initialized C).before args s = true) (h : (Cond.isRef (.static C n d)).before args s = true) (hA : ∀ a : Nat, a < s.heap.size → ¬ A a) : vx_Zq C n d A s s.heap := by
  refine ⟨va_Zqof hl hini h hA, ?_⟩
  obtain ⟨c, k, i, f, a, cell, h1, h2, h3, h4, h5, h6, h7, h8, h9⟩ := Cond.laysStatic_spec hl
  exact ⟨c, k, i, f, a, cell, h1, h2, h3, h4, h5, h6, h7, h8, h9, hA a (Array.getElem?_eq_some_iff.mp h5).1⟩
theorem vx_isRef {C n d : String} {v : Value} {A : Nat → Prop} {s : State} {args : Array Value} (h : va_Z C n d v A s s.heap) (hv : v.isRef = true) : (Cond.isRef (.static C n d)).before args s = true := by
  obtain ⟨cf, kf, fi, f, a, cell, h1, h2, h3, h4, h5, h6, h7, -⟩ := h
  have he : (Term.static C n d).eval args s none [] s = some v := by
    simp [Term.eval, State.fieldNamed?, h1, h2, h4, h5, h6, h7]
  simp only [Cond.before, Cond.holds, Cond.value, he]
  cases v <;> simp_all [Value.isRef]
theorem vx_isRefq {C n d : String} {A : Nat → Prop} {s : State} {args : Array Value} (h : va_Zq C n d A s s.heap) : (Cond.isRef (.static C n d)).before args s = true := by
  rcases h with h | ⟨t, h⟩
  · exact vx_isRef h rfl
  · exact vx_isRef h rfl
/-- the same frame, seen from here: as if the method were called anew in this heap -/
theorem vx_rebase {T : State} (X : Stand p l e R s m args below meth c T locs cells slots) {R' : Room} (hf : R'.frames ≤ R.frames) (hl : R'.locals ≤ R.locals) (hc : cells + R'.cells ≤ R.cells) (hs : slots + R'.slots ≤ R.slots) :
    Stand p l e R' ((T.setVm s.vm).setFrames (.invoking m args :: below)) m args below meth c T [] 0 0 := by
  have htop : (T.setVm s.vm).topJava?.isSome := X.here.top
  have hF : ((T.setVm s.vm).setFrames (.invoking m args :: below)).frames = .invoking m args :: below := State.frames_setFrames _ (State.cur_lt_of_top htop)
  obtain ⟨g₀, hg0⟩ := Option.isSome_iff_exists.mp htop
  obtain ⟨r, hr⟩ := State.topJava?_eq_some.mp hg0
  have hl9 : e.platform.stackLimits (T.setVm s.vm).me = e.platform.stackLimits s.me := X.limits
  have hb9 : (T.setVm s.vm).me.stackBytes = s.me.stackBytes := X.bytes
  refine ⟨X.admits, X.cas, X.clock, hF, ?_, X.hears, X.method, X.code, X.here, X.tail, X.warmed, ?_, ?_, ?_⟩
  · have h := X.room
    have hU : ((T.setVm s.vm).setFrames (.invoking m args :: below)).localsInUse = s.localsInUse := by
      rw [State.localsInUse_invoking hF (meth := meth) (c := c) X.method X.code, State.localsInUse_invoking X.frames X.method X.code]
    simp only [State.hasRoom, Bool.and_eq_true, decide_eq_true_eq] at h ⊢
    obtain ⟨⟨⟨⟨h1, h2, h3, h4, h5, h6⟩, h7⟩, h8⟩, h9⟩ := h
    rw [X.frames, List.length_cons] at h2 h3
    have q1 := X.heapSize
    have q2 := X.used
    simp only [hF, hU, List.length_cons, State.stackLimits_setFrames, State.stackBytes_setFrames, hl9, hb9]
    refine ⟨⟨⟨⟨by omega, by omega, by omega, by omega, by omega, h6⟩, ?_⟩, ?_⟩, X.book⟩
    · show T.heap.size + R'.cells ≤ e.platform.maxCells
      omega
    · show T.slotsUsed + R'.slots ≤ e.platform.maxSlots
      omega
  · rw [State.stackLimits_setFrames]; rfl
  · rw [State.stackBytes_setFrames]; rfl
  · refine ⟨?_, Nat.le_refl _, Nat.le_refl _, ?_, ?_, fun a c9 h9 => ⟨c9, h9, rfl, rfl, fun _ _ => rfl⟩⟩
    · obtain ⟨t, ht, -⟩ := State.frames_cons hr
      show T.setVm s.vm = { ((T.setVm s.vm).setFrames (.invoking m args :: below)).setFrames (T.setVm s.vm).frames with heap := T.heap, slotsUsed := T.slotsUsed }
      rw [State.setFrames_setFrames, State.setFrames_self ht]
      rfl
    · show T.slotsUsed = T.slotsUsed + ((T.heap.toList.drop T.heap.size).map (·.slots.size)).sum
      rw [List.drop_eq_nil_of_le (Nat.le_of_eq Array.length_toList)]
      rfl
    · show ((T.heap.toList.drop T.heap.size).map (·.slots.size)).sum ≤ 0
      rw [List.drop_eq_nil_of_le (Nat.le_of_eq Array.length_toList)]
      exact Nat.le_refl _
/-- 'throw new E()': new; dup; invokespecial; athrow -/
theorem vx_throw0 {cc : ByteArray} {pc : Nat} (hexec : p.tables.exec = Jvm.exec) (hb : c.code = cc) (hl : l.stackTraces = false) {own cls : String} {names : List String} {ik ic mc ms : Nat} {A : Nat → Prop}
    (hown : s.vm.findClass own = some m.cls) (hcls : Bundle.fit cls = true) (hnames : ∀ n ∈ names, Bundle.fit n = true)
    (hk : (Cond.classLink own ik cls).before args s = true) (hini : (Cond.initialized cls).before args s = true) (hat : ∀ w ∈ vx_at0 own ic cls names, w.before args s = true)
    (hgood : ∀ w ∈ Cond.classLink own ik cls :: Cond.initialized cls :: vx_at0 own ic cls names, vx_ot w = true)
    (hU : vx_Zq Bundle.tN "UNASSIGNED_STACK" Bundle.steD A s s.heap) (hN : vx_Zq Bundle.tN "SUPPRESSED_SENTINEL" Bundle.listD A s s.heap) (hS : va_S A s.heap H locs) (hsize : ls.size = c.maxLocals)
    (d0 : decode cc pc = .ok (.new ik, 3)) (d3 : decode cc (pc + 3) = .ok (.dup, 1)) (d4 : decode cc (pc + 4) = .ok (.invokespecial ic, 3)) (d7 : decode cc (pc + 7) = .ok (.athrow, 1))
    (hout : ∀ x ∈ c.exceptionTable.toList, covers x (pc + 7) = false)
    (hRframes : names.length + 3 < R.frames) (hRlocals : (rest.map fun v => v.category).sum + (13 * (names.length + 1) + 42) ≤ R.locals) (hRcells : cells + 1 ≤ R.cells) (hRslots : slots + 6 ≤ R.slots) (hlocks : meth.locks = false)
    (hx : ∀ t : State, s.vm.Alike t.vm → H.size ≤ t.heap.size → (∀ q : Nat, q < H.size → t.heap[q]? = H[q]?) → XC cls s t)
    (hf : ∀ z ∈ locs, free z.base) (hc : cells + 1 ≤ mc) (hs : slots + 6 ≤ ms) :
    W p l e R s m args below meth c H locs cells slots (vx_MQ below Qc XC args s mc ms free) (F0 m pc ls rest) := by
  intro T hT X
  have htr : e.platform.stackTraces = false := (show e.platform.stackTraces = l.stackTraces by rw [X.admits.platform]).trans hl
  have Y := vx_rebase X (R' := { frames := R.frames, locals := R.locals, cells := 1, slots := 6 }) (Nat.le_refl _) (Nat.le_refl _) hRcells hRslots
  obtain ⟨s', hA⟩ : ∃ z, z = (T.setVm s.vm).setFrames (.invoking m args :: below) := ⟨_, rfl⟩
  rw [← hA] at Y
  have hvm : s'.vm = s.vm := by rw [hA]; rfl
  have hhp : s'.heap = H := by rw [hA]; exact hT
  have hW0 : s.WarmedH s'.vm := by rw [hvm]; exact State.WarmedH.refl s
  have hat' : ∀ w ∈ vx_at0 own ic cls names, w.before args s' = true := fun w hw => vx_ot_at hW0 hvm.symm (hgood w (List.mem_cons_of_mem _ (List.mem_cons_of_mem _ hw))) (hat w hw)
  have hk' : (Cond.classLink own ik cls).before args s' = true := vx_ot_at hW0 hvm.symm (hgood _ List.mem_cons_self) hk
  have hini' : (Cond.initialized cls).before args s' = true := vx_ot_at hW0 hvm.symm (hgood _ (List.mem_cons_of_mem _ List.mem_cons_self)) hini
  have hU' : vx_Zq Bundle.tN "UNASSIGNED_STACK" Bundle.steD A s' s'.heap := by rw [hhp]; exact vx_Zq.moved hW0.alike (hU.kept hS.2.1)
  have hN' : vx_Zq Bundle.tN "SUPPRESSED_SENTINEL" Bundle.listD A s' s'.heap := by rw [hhp]; exact vx_Zq.moved hW0.alike (hN.kept hS.2.1)
  have h : ∀ w ∈ Bundle.ownAtoms0 own ic cls names, w.before args s' = true := vx_own hat' (vx_isRefq hU'.1) (vx_isRefq hN'.1) hU'.2.word hN'.2.word
  have hown' : s'.vm.findClass own = some m.cls := by rw [hvm]; exact hown
  have hins : (Cond.instantiable cls 6).before args s' = true := h _ (by simp [Bundle.ownAtoms0])
  obtain ⟨vm₁, cX, kX, hfX, hkX, -, -, X₁, st1⟩ := Y.newCold hexec (own := own) (C := cls) (index := ik) (n := 6) hown' hk' hins hini'
    (g := F0 m pc ls rest) rfl (by rw [hb]; exact d0) (Nat.le_refl _) (Nat.le_refl _)
  generalize hT1 : (T.setVm vm₁).pushCell { cls := cX, slots := kX.instanceTypes.map defaultValue, vm := .none } = T1 at X₁ st1
  have hcat : (Value.ref T.heap.size).category = 1 := rfl
  have hcellA : T1.heap[T.heap.size]? = some (freshCell cX kX) := by rw [← hT1]; exact State.heap_pushCell_size _ _
  have d3' : decode c.code (pc + 3) = .ok (.dup, 1) := by rw [hb]; exact d3
  obtain ⟨U, hsteps, hrun, hend, hW, hsame, ce, hce, hO⟩ := X₁.ctorThrow0 hexec htr (own := own) (cls := cls) (names := names) (ic := ic) hown' hcls hnames h (fun x hx => nomatch hx) hfX hkX hcellA (by rw [hhp, hT]; exact Nat.le_refl _)
    (g := { method := m, pc := pc + 4, locals := ls, stack := .ref T.heap.size :: .ref T.heap.size :: rest, locked := none }) rfl hsize rfl rfl (rest := rest) rfl
    (by rw [hb]; exact d4) (by rw [hb]; exact d7) hout hRframes (by simp only [List.map_cons, List.sum_cons, hcat]; omega) hlocks
  obtain ⟨f1, f2⟩ := vx_frame hsame
  rw [hhp] at f1 f2
  have hWs : s.WarmedH U.vm := State.WarmedH.trans hW0 hW
  have hcl : s.vm.findClass cls = some ce.cls := by
    have h9 := hO.cls
    rw [hvm] at h9
    exact h9
  have hall : s.sameButNew ({ U with vm := s.vm } : State) locs mc ms := by
    subst hA
    obtain ⟨e1, e2⟩ := hsame
    rw [State.setFrames_setFrames] at e1
    have h2 : (T.setVm s.vm).sameButNew ({ U with vm := s.vm } : State) [] (0 + 1) (0 + 6) := ⟨e1, e2⟩
    have h3 := X.same.trans h2
    rw [List.append_nil] at h3
    exact h3.mono hc hs
  refine ⟨U, ?_, .threw T.heap.size, hrun, hend, Or.inr ⟨T.heap.size, rfl, cls, ce, locs, hx U hWs.alike f1 (fun q hq => f2 q hq (fun z hz => nomatch hz)), hce, hO.vm, hcl, hWs, hall, hf⟩⟩
  refine st1 _ ?_
  show Steps p.tables e below (T1.setTop { method := m, pc := pc + 3, locals := ls, stack := .ref T.heap.size :: rest, locked := none }) _
  jvm_step X₁.here [X₁.here.top, hexec, d3', Value.category]
  exact hsteps
/-- 'throw new E("text")': new; dup; ldc; invokespecial; athrow -/
theorem vx_throwS {cc : ByteArray} {pc : Nat} (hexec : p.tables.exec = Jvm.exec) (hb : c.code = cc) (hl : l.stackTraces = false) {own cls text : String} {names : List String} {ik is ic mc ms sa : Nat} {A : Nat → Prop}
    (hown : s.vm.findClass own = some m.cls) (hcls : Bundle.fit cls = true) (hnames : ∀ n ∈ names, Bundle.fit n = true)
    (hk : (Cond.classLink own ik cls).before args s = true) (hini : (Cond.initialized cls).before args s = true) (hstr : vk_R own is text sa s) (hat : ∀ w ∈ vx_atS own ic cls names, w.before args s = true)
    (hgood : ∀ w ∈ Cond.classLink own ik cls :: Cond.initialized cls :: vx_atS own ic cls names, vx_ot w = true)
    (hU : vx_Zq Bundle.tN "UNASSIGNED_STACK" Bundle.steD A s s.heap) (hN : vx_Zq Bundle.tN "SUPPRESSED_SENTINEL" Bundle.listD A s s.heap) (hS : va_S A s.heap H locs) (hsize : ls.size = c.maxLocals)
    (d0 : decode cc pc = .ok (.new ik, 3)) (d3 : decode cc (pc + 3) = .ok (.dup, 1)) (d4 : decode cc (pc + 4) = .ok (.ldc is, 2)) (d6 : decode cc (pc + 6) = .ok (.invokespecial ic, 3)) (d9 : decode cc (pc + 9) = .ok (.athrow, 1))
    (hout : ∀ x ∈ c.exceptionTable.toList, covers x (pc + 9) = false)
    (hRframes : names.length + 3 < R.frames) (hRlocals : (rest.map fun v => v.category).sum + (13 * (names.length + 1) + 43) ≤ R.locals) (hRcells : cells + 1 ≤ R.cells) (hRslots : slots + 6 ≤ R.slots) (hlocks : meth.locks = false)
    (hx : ∀ t : State, s.vm.Alike t.vm → H.size ≤ t.heap.size → (∀ q : Nat, q < H.size → t.heap[q]? = H[q]?) → XC cls s t)
    (hf : ∀ z ∈ locs, free z.base) (hc : cells + 1 ≤ mc) (hs : slots + 6 ≤ ms) :
    W p l e R s m args below meth c H locs cells slots (vx_MQ below Qc XC args s mc ms free) (F0 m pc ls rest) := by
  intro T hT X
  have htr : e.platform.stackTraces = false := (show e.platform.stackTraces = l.stackTraces by rw [X.admits.platform]).trans hl
  have Y := vx_rebase X (R' := { frames := R.frames, locals := R.locals, cells := 1, slots := 6 }) (Nat.le_refl _) (Nat.le_refl _) hRcells hRslots
  obtain ⟨s', hA⟩ : ∃ z, z = (T.setVm s.vm).setFrames (.invoking m args :: below) := ⟨_, rfl⟩
  rw [← hA] at Y
  have hvm : s'.vm = s.vm := by rw [hA]; rfl
  have hhp : s'.heap = H := by rw [hA]; exact hT
  have hW0 : s.WarmedH s'.vm := by rw [hvm]; exact State.WarmedH.refl s
  have hat' : ∀ w ∈ vx_atS own ic cls names, w.before args s' = true := fun w hw => vx_ot_at hW0 hvm.symm (hgood w (List.mem_cons_of_mem _ (List.mem_cons_of_mem _ hw))) (hat w hw)
  have hk' : (Cond.classLink own ik cls).before args s' = true := vx_ot_at hW0 hvm.symm (hgood _ List.mem_cons_self) hk
  have hini' : (Cond.initialized cls).before args s' = true := vx_ot_at hW0 hvm.symm (hgood _ (List.mem_cons_of_mem _ List.mem_cons_self)) hini
  have hU' : vx_Zq Bundle.tN "UNASSIGNED_STACK" Bundle.steD A s' s'.heap := by rw [hhp]; exact vx_Zq.moved hW0.alike (hU.kept hS.2.1)
  have hN' : vx_Zq Bundle.tN "SUPPRESSED_SENTINEL" Bundle.listD A s' s'.heap := by rw [hhp]; exact vx_Zq.moved hW0.alike (hN.kept hS.2.1)
  have h : ∀ w ∈ Bundle.ownAtoms own ic cls names, w.before args s' = true := vx_own hat' (vx_isRefq hU'.1) (vx_isRefq hN'.1) hU'.2.word hN'.2.word
  have hown' : s'.vm.findClass own = some m.cls := by rw [hvm]; exact hown
  have hins : (Cond.instantiable cls 6).before args s' = true := h _ (by simp [Bundle.ownAtoms])
  obtain ⟨vm₁, cX, kX, hfX, hkX, -, -, X₁, st1⟩ := Y.newCold hexec (own := own) (C := cls) (index := ik) (n := 6) hown' hk' hins hini'
    (g := F0 m pc ls rest) rfl (by rw [hb]; exact d0) (Nat.le_refl _) (Nat.le_refl _)
  generalize hT1 : (T.setVm vm₁).pushCell { cls := cX, slots := kX.instanceTypes.map defaultValue, vm := .none } = T1 at X₁ st1
  have hcat : (Value.ref T.heap.size).category = 1 := rfl
  have hcellA : T1.heap[T.heap.size]? = some (freshCell cX kX) := by rw [← hT1]; exact State.heap_pushCell_size _ _
  have d3' : decode c.code (pc + 3) = .ok (.dup, 1) := by rw [hb]; exact d3
  have d4' : decode c.code (pc + 4) = .ok (.ldc is, 2) := by rw [hb]; exact d4
  have hstr' : vk_R own is text sa s' := vk_R.warm hW0 hstr
  obtain ⟨U, hsteps, hrun, hend, hW, hsame, ce, hce, hO⟩ := X₁.ctorThrowS hexec htr (own := own) (cls := cls) (names := names) (ic := ic) hown' hcls hnames h (fun x hx => nomatch hx) hfX hkX hcellA (by rw [hhp, hT]; exact Nat.le_refl _) (msg := .ref sa) rfl
    (g := { method := m, pc := pc + 6, locals := ls, stack := .ref sa :: .ref T.heap.size :: .ref T.heap.size :: rest, locked := none }) rfl hsize rfl rfl (rest := rest) rfl
    (by rw [hb]; exact d6) (by rw [hb]; exact d9) hout hRframes (by simp only [List.map_cons, List.sum_cons, hcat]; omega) hlocks
  obtain ⟨f1, f2⟩ := vx_frame hsame
  rw [hhp] at f1 f2
  have hWs : s.WarmedH U.vm := State.WarmedH.trans hW0 hW
  have hcl : s.vm.findClass cls = some ce.cls := by
    have h9 := hO.cls
    rw [hvm] at h9
    exact h9
  have hall : s.sameButNew ({ U with vm := s.vm } : State) locs mc ms := by
    subst hA
    obtain ⟨e1, e2⟩ := hsame
    rw [State.setFrames_setFrames] at e1
    have h2 : (T.setVm s.vm).sameButNew ({ U with vm := s.vm } : State) [] (0 + 1) (0 + 6) := ⟨e1, e2⟩
    have h3 := X.same.trans h2
    rw [List.append_nil] at h3
    exact h3.mono hc hs
  refine ⟨U, ?_, .threw T.heap.size, hrun, hend, Or.inr ⟨T.heap.size, rfl, cls, ce, locs, hx U hWs.alike f1 (fun q hq => f2 q hq (fun z hz => nomatch hz)), hce, hO.vm, hcl, hWs, hall, hf⟩⟩
  refine st1 _ ?_
  show Steps p.tables e below (T1.setTop { method := m, pc := pc + 3, locals := ls, stack := .ref T.heap.size :: rest, locked := none }) _
  jvm_step X₁.here [X₁.here.top, hexec, d3', Value.category]
  exact X₁.ldcString hexec (own := own) (text := text) (index := is) (a := sa) hown' hstr'.1 hstr'.2
    (g := { method := m, pc := pc + 4, locals := ls, stack := .ref T.heap.size :: .ref T.heap.size :: rest, locked := none }) rfl d4' _ hsteps
/-- 'throw new E("text")', the text by a wide index -/
theorem vx_throwSW {cc : ByteArray} {pc : Nat} (hexec : p.tables.exec = Jvm.exec) (hb : c.code = cc) (hl : l.stackTraces = false) {own cls text : String} {names : List String} {ik is ic mc ms sa : Nat} {A : Nat → Prop}
    (hown : s.vm.findClass own = some m.cls) (hcls : Bundle.fit cls = true) (hnames : ∀ n ∈ names, Bundle.fit n = true)
    (hk : (Cond.classLink own ik cls).before args s = true) (hini : (Cond.initialized cls).before args s = true) (hstr : vk_R own is text sa s) (hat : ∀ w ∈ vx_atS own ic cls names, w.before args s = true)
    (hgood : ∀ w ∈ Cond.classLink own ik cls :: Cond.initialized cls :: vx_atS own ic cls names, vx_ot w = true)
    (hU : vx_Zq Bundle.tN "UNASSIGNED_STACK" Bundle.steD A s s.heap) (hN : vx_Zq Bundle.tN "SUPPRESSED_SENTINEL" Bundle.listD A s s.heap) (hS : va_S A s.heap H locs) (hsize : ls.size = c.maxLocals)
    (d0 : decode cc pc = .ok (.new ik, 3)) (d3 : decode cc (pc + 3) = .ok (.dup, 1)) (d4 : decode cc (pc + 4) = .ok (.ldc_w is, 3)) (d7 : decode cc (pc + 7) = .ok (.invokespecial ic, 3)) (d10 : decode cc (pc + 10) = .ok (.athrow, 1))
    (hout : ∀ x ∈ c.exceptionTable.toList, covers x (pc + 10) = false)
    (hRframes : names.length + 3 < R.frames) (hRlocals : (rest.map fun v => v.category).sum + (13 * (names.length + 1) + 43) ≤ R.locals) (hRcells : cells + 1 ≤ R.cells) (hRslots : slots + 6 ≤ R.slots) (hlocks : meth.locks = false)
    (hx : ∀ t : State, s.vm.Alike t.vm → H.size ≤ t.heap.size → (∀ q : Nat, q < H.size → t.heap[q]? = H[q]?) → XC cls s t)
    (hf : ∀ z ∈ locs, free z.base) (hc : cells + 1 ≤ mc) (hs : slots + 6 ≤ ms) :
    W p l e R s m args below meth c H locs cells slots (vx_MQ below Qc XC args s mc ms free) (F0 m pc ls rest) := by
  intro T hT X
  have htr : e.platform.stackTraces = false := (show e.platform.stackTraces = l.stackTraces by rw [X.admits.platform]).trans hl
  have Y := vx_rebase X (R' := { frames := R.frames, locals := R.locals, cells := 1, slots := 6 }) (Nat.le_refl _) (Nat.le_refl _) hRcells hRslots
  obtain ⟨s', hA⟩ : ∃ z, z = (T.setVm s.vm).setFrames (.invoking m args :: below) := ⟨_, rfl⟩
  rw [← hA] at Y
  have hvm : s'.vm = s.vm := by rw [hA]; rfl
  have hhp : s'.heap = H := by rw [hA]; exact hT
  have hW0 : s.WarmedH s'.vm := by rw [hvm]; exact State.WarmedH.refl s
  have hat' : ∀ w ∈ vx_atS own ic cls names, w.before args s' = true := fun w hw => vx_ot_at hW0 hvm.symm (hgood w (List.mem_cons_of_mem _ (List.mem_cons_of_mem _ hw))) (hat w hw)
  have hk' : (Cond.classLink own ik cls).before args s' = true := vx_ot_at hW0 hvm.symm (hgood _ List.mem_cons_self) hk
  have hini' : (Cond.initialized cls).before args s' = true := vx_ot_at hW0 hvm.symm (hgood _ (List.mem_cons_of_mem _ List.mem_cons_self)) hini
  have hU' : vx_Zq Bundle.tN "UNASSIGNED_STACK" Bundle.steD A s' s'.heap := by rw [hhp]; exact vx_Zq.moved hW0.alike (hU.kept hS.2.1)
  have hN' : vx_Zq Bundle.tN "SUPPRESSED_SENTINEL" Bundle.listD A s' s'.heap := by rw [hhp]; exact vx_Zq.moved hW0.alike (hN.kept hS.2.1)
  have h : ∀ w ∈ Bundle.ownAtoms own ic cls names, w.before args s' = true := vx_own hat' (vx_isRefq hU'.1) (vx_isRefq hN'.1) hU'.2.word hN'.2.word
  have hown' : s'.vm.findClass own = some m.cls := by rw [hvm]; exact hown
  have hins : (Cond.instantiable cls 6).before args s' = true := h _ (by simp [Bundle.ownAtoms])
  obtain ⟨vm₁, cX, kX, hfX, hkX, -, -, X₁, st1⟩ := Y.newCold hexec (own := own) (C := cls) (index := ik) (n := 6) hown' hk' hins hini'
    (g := F0 m pc ls rest) rfl (by rw [hb]; exact d0) (Nat.le_refl _) (Nat.le_refl _)
  generalize hT1 : (T.setVm vm₁).pushCell { cls := cX, slots := kX.instanceTypes.map defaultValue, vm := .none } = T1 at X₁ st1
  have hcat : (Value.ref T.heap.size).category = 1 := rfl
  have hcellA : T1.heap[T.heap.size]? = some (freshCell cX kX) := by rw [← hT1]; exact State.heap_pushCell_size _ _
  have d3' : decode c.code (pc + 3) = .ok (.dup, 1) := by rw [hb]; exact d3
  have d4' : decode c.code (pc + 4) = .ok (.ldc_w is, 3) := by rw [hb]; exact d4
  have hstr' : vk_R own is text sa s' := vk_R.warm hW0 hstr
  obtain ⟨U, hsteps, hrun, hend, hW, hsame, ce, hce, hO⟩ := X₁.ctorThrowS hexec htr (own := own) (cls := cls) (names := names) (ic := ic) hown' hcls hnames h (fun x hx => nomatch hx) hfX hkX hcellA (by rw [hhp, hT]; exact Nat.le_refl _) (msg := .ref sa) rfl
    (g := { method := m, pc := pc + 7, locals := ls, stack := .ref sa :: .ref T.heap.size :: .ref T.heap.size :: rest, locked := none }) rfl hsize rfl rfl (rest := rest) rfl
    (by rw [hb]; exact d7) (by rw [hb]; exact d10) hout hRframes (by simp only [List.map_cons, List.sum_cons, hcat]; omega) hlocks
  obtain ⟨f1, f2⟩ := vx_frame hsame
  rw [hhp] at f1 f2
  have hWs : s.WarmedH U.vm := State.WarmedH.trans hW0 hW
  have hcl : s.vm.findClass cls = some ce.cls := by
    have h9 := hO.cls
    rw [hvm] at h9
    exact h9
  have hall : s.sameButNew ({ U with vm := s.vm } : State) locs mc ms := by
    subst hA
    obtain ⟨e1, e2⟩ := hsame
    rw [State.setFrames_setFrames] at e1
    have h2 : (T.setVm s.vm).sameButNew ({ U with vm := s.vm } : State) [] (0 + 1) (0 + 6) := ⟨e1, e2⟩
    have h3 := X.same.trans h2
    rw [List.append_nil] at h3
    exact h3.mono hc hs
  refine ⟨U, ?_, .threw T.heap.size, hrun, hend, Or.inr ⟨T.heap.size, rfl, cls, ce, locs, hx U hWs.alike f1 (fun q hq => f2 q hq (fun z hz => nomatch hz)), hce, hO.vm, hcl, hWs, hall, hf⟩⟩
  refine st1 _ ?_
  show Steps p.tables e below (T1.setTop { method := m, pc := pc + 3, locals := ls, stack := .ref T.heap.size :: rest, locked := none }) _
  jvm_step X₁.here [X₁.here.top, hexec, d3', Value.category]
  exact X₁.ldcStringW hexec (own := own) (text := text) (index := is) (a := sa) hown' hstr'.1 hstr'.2
    (g := { method := m, pc := pc + 4, locals := ls, stack := .ref T.heap.size :: .ref T.heap.size :: rest, locked := none }) rfl d4' _ hsteps
end Ends
section Bodies
variable {l : Launch}
theorem vx_ofW {y : MethodName} {ws ws' : List Cond} {rm : Room} {Pc : Array Value → State → Prop} {Qc : Array Value → State → Outcome → State → Prop} {XC : String → State → State → Prop} {mc ms : Nat} {free : Addr → Prop} {cc : ByteArray} {maxL : Nat} {ret : Option FieldType}
    (hy : plainName y.cls = true) (hw : ws = Cond.code y cc maxL ret :: ws')
    (body : ∀ p e s m args below meth c s₁, BodyLoose p l y (headSpec ws rm) cc maxL ret e s m args below meth c s₁ → c.maxLocals = maxL → (∀ x ∈ c.exceptionTable.toList, False) → Pc args s →
      W p l e (headSpec ws rm).room s m args below meth c s.heap [] 0 0 (vx_MQ below Qc XC args s mc ms free) (entryFrame m args maxL)) : vx_Met l y ws rm Pc Qc XC mc ms free := by
  refine MetFree.of_bodyS (code := cc) (maxLocals := maxL) (ret := ret) hy ?_ ?_
  · intro args s m h hn
    obtain ⟨meth, c, h1, h2, h3, h4, h5, h6, -, -⟩ := Cond.code_spec hn (atoms_spec (ws := ws) h _ (by rw [hw]; exact List.mem_cons_self))
    exact ⟨meth, c, h1, h2, h3, h4, h5, h6⟩
  · intro p e s m args below meth c s₁ B hml hP _
    have hh0 : s₁.heap = s.heap := by rw [B.state]; rfl
    have ht : ∀ x ∈ c.exceptionTable.toList, False := by
      obtain ⟨meth9, c9, h1, h2, -, -, -, -, h7, -⟩ := Cond.code_spec B.named (atoms_spec (ws := ws) B.pre _ (by rw [hw]; exact List.mem_cons_self))
      cases Option.some.inj (h1.symm.trans B.method)
      cases Option.some.inj (h2.symm.trans (Stand.of_body B).code)
      intro x hx
      rw [Array.isEmpty_iff.mp h7] at hx
      cases hx
    obtain ⟨t, a1, o, b1, b2, b3⟩ := body p e s m args below meth c s₁ B hml ht hP s₁ hh0 (Stand.of_body B)
    exact ⟨t, o, a1, b1, b2, b3⟩
/-- the table of a body with handlers -/
theorem vx_table {p : Program} {x y : MethodName} {S : Spec} {cc bytes : ByteArray} {maxL maxL' : Nat} {ret ret' : Option FieldType} {e : Env} {s s₁ : State} {m : MethodId} {args : Array Value} {below : List Frame} {meth : Method} {c : Code} {hh : List (Nat × Nat × Nat × Nat)}
    (B : BodyLoose p l y S cc maxL ret e s m args below meth c s₁) (h : (Cond.codeWith y bytes maxL' ret' hh).before args s = true) : c.exceptionTable.toList = tableOf hh := by
  obtain ⟨m9, meth9, c9, hn9, h1, h2, -, -, h6, -⟩ := Cond.codeWith_spec h
  cases Option.some.inj (hn9.symm.trans B.named)
  cases Option.some.inj (h1.symm.trans B.method)
  cases Option.some.inj (h2.symm.trans (Stand.of_body B).code)
  rw [← h6, table_eq]
end Bodies
end VXA
/-! ===== END ===== -/
/-! ===== BEGIN a static call of a method with an exception table ===== -/
section VXS
variable {p : Program} {l : Launch} {e : Env} {R : Room} {s : State} {m : MethodId} {args : Array Value} {below : List Frame} {meth : Method} {c : Code} {T : State} {H : Heap} {locs : List Loc} {cells slots : Nat}
abbrev vx_CSW (R : Room) (s : State) (args : Array Value) (own : String) (index : Nat) (y : MethodName) (bytes : ByteArray) (maxL : Nat) (ret : Option FieldType) (hh : List (Nat × Nat × Nat × Nat)) (ws : List Cond) (rm : Room) (mc ms n : Nat) : Prop :=
  (rm.cells = mc ∧ rm.slots = ms ∧ rm.frames + 1 ≤ R.frames ∧ 8 + (maxL + 11) + rm.locals ≤ R.locals ∧ (∀ w ∈ ws, ∀ (a' : Array Value) (U : State), s.WarmedH U.vm → w.before a' U = true) ∧ Cond.codeWith y bytes maxL ret hh ∈ ws) ∧
  (Cond.codeWith y bytes maxL ret hh).before args s = true ∧ (Cond.initialized y.cls).before args s = true ∧ (y.cls ≠ "java/lang/invoke/MethodHandle" ∧ y.cls ≠ "java/lang/invoke/VarHandle") ∧
  (∀ sig, parseMethodDescriptor y.desc = some sig → n = sig.parameters.length) ∧ (Cond.methodLink own index y).before args s = true ∧ (Cond.static y).before args s = true
theorem vx_cwSW {own : String} {index maxL mc ms : Nat} {y : MethodName} {bytes : ByteArray} {ret : Option FieldType} {hh : List (Nat × Nat × Nat × Nat)} {Ts ws ws' : List Cond} {rm : Room} (n : Nat) (ht : ∀ w ∈ Ts, w.before args s = true) (hT : GoodIn Ts (va_wsS own index y ws)) (hw : ws = Cond.codeWith y bytes maxL ret hh :: ws') (hrc : rm.cells = mc) (hrs : rm.slots = ms)
    (hd : y.cls ≠ "java/lang/invoke/MethodHandle" ∧ y.cls ≠ "java/lang/invoke/VarHandle" ∧ (parseMethodDescriptor y.desc).map (fun d => d.parameters.length) = some n) (hR : rm.frames + 1 ≤ R.frames ∧ 8 + (maxL + 11) + rm.locals ≤ R.locals) :
    vx_CSW R s args own index y bytes maxL ret hh ws rm mc ms n := by
  have ok : ∀ w ∈ va_wsS own index y ws, w.before args s = true := fun w h => ht w (hT w h).1
  have hG : GoodIn Ts ws := fun w h => hT w (by unfold va_wsS; exact List.mem_append_right _ h)
  have hc : Cond.codeWith y bytes maxL ret hh ∈ ws := by rw [hw]; exact List.mem_cons_self
  refine ⟨⟨hrc, hrs, hR.1, hR.2, pay_in ht hG, hc⟩, ht _ (hG _ hc).1, ok _ (by simp [va_wsS]), ⟨hd.1, hd.2.1⟩, fun sig h => ?_, ok _ (by simp [va_wsS]), ok _ (by simp [va_wsS])⟩
  have h2 := hd.2.2
  rw [h] at h2
  exact (Option.some.inj h2).symm
theorem vx_callSW (X : Stand p l e R s m args below meth c T locs cells slots) (hexec : p.tables.exec = Jvm.exec) {own : String} {index : Nat} {y : MethodName} {bytes : ByteArray} {maxL : Nat} {ret : Option FieldType} {hh : List (Nat × Nat × Nat × Nat)}
    (hown : s.vm.findClass own = some m.cls) (hlink : (Cond.methodLink own index y).before args s = true) (hstat : (Cond.static y).before args s = true) (hinit : (Cond.initialized y.cls).before args s = true)
    (hcode : (Cond.codeWith y bytes maxL ret hh).before args s = true) (hy : y.cls ≠ "java/lang/invoke/MethodHandle" ∧ y.cls ≠ "java/lang/invoke/VarHandle")
    {W9 : Nat} {Pre : Pt → Array Value → Prop} {Post : Pt → Array Value → Option Value → Pt → Prop} (hK : Back l R p e below s args y 3 W9 Pre Post)
    {g : JFrame} (hg : g.method = m) (hsize : g.locals.size = c.maxLocals) {argsL rest : List Value} (hlen : ∀ sig, parseMethodDescriptor y.desc = some sig → argsL.length = sig.parameters.length)
    (hstack : g.stack = argsL.reverse ++ rest) (hW : 2 * g.monitorRoom + (rest.map fun v => v.category).sum ≤ W9) (hdg : decode c.code g.pc = .ok (.invokestatic index, 3))
    (hpre : ∀ vm₁, s.WarmedH vm₁ → Pre ⟨T.setVm vm₁, locs, cells, slots⟩ argsL.toArray) :
    ∃ (v : Option Value) (vm₁ : Vm) (B : Pt), s.WarmedH vm₁ ∧ Stand p l e R s m args below meth c B.U B.locs B.cells B.slots ∧ Post ⟨T.setVm vm₁, locs, cells, slots⟩ argsL.toArray v B ∧
      ∀ target, Steps p.tables e below (B.U.setTop { g with pc := g.pc + 3, stack := v.toList ++ rest }) target → Steps p.tables e below (T.setTop g) target := by
  obtain ⟨mk, methM, cM, hnamed, hmethM, -, -, -, -, -, -, hsigM⟩ := Cond.codeWith_spec hcode
  have hstatic : methM.isStatic = true := Cond.static_spec hnamed hmethM hstat
  obtain ⟨kP, hkP, -⟩ := className_of_methodNamed hnamed
  have hinitP : kP.init = .initialized := Cond.initialized_spec (findClass_of_methodNamed hnamed) hkP hinit
  obtain ⟨vm₁, X₁, hstep₁⟩ := X.invokestatic hexec hown hlink hnamed hmethM hstatic hkP hinitP hy (g := g) hg (argsL := argsL) (rest := rest) (hlen _ hsigM) hstack hdg
  obtain ⟨v, B, X', hpost, hsteps⟩ := hK m meth c ⟨T.setVm vm₁, locs, cells, slots⟩ { g with stack := rest } (.invokestatic index) mk argsL.toArray X₁ hg hsize hdg hW (X₁.named hnamed) (hpre vm₁ X₁.warmed)
  exact ⟨v, vm₁, B, X₁.warmed, X', hpost, fun target h => hstep₁ _ fun acts => by rw [doInvoke_state]; exact hsteps.trans h⟩
theorem vx_runSW {y : MethodName} {bytes cc : ByteArray} {maxL nL mc ms n index : Nat} {ret : Option FieldType} {hh : List (Nat × Nat × Nat × Nat)} {ws : List Cond} {rm : Room} {Pc : Array Value → State → Prop} {Qc : Array Value → State → Outcome → State → Prop} {free : Addr → Prop} {Ts : List Cond} {own : String} {As rest : List Value} {g : JFrame}
    (S : CallFix p m c cc nL s args Ts own) (hM : Met l y ws rm Pc Qc mc ms free) (cw : vx_CSW R s args own index y bytes maxL ret hh ws rm mc ms n) (hp : PreS s H Pc As)
    (hg : g.method = m) (hn : As.length = n) (hsize : g.locals.size = nL) (hstack : g.stack = As.reverse ++ rest) (hW : 2 * g.monitorRoom + (rest.map fun v => v.category).sum ≤ 8) (hdg : decode cc g.pc = .ok (.invokestatic index, 3)) (hf : cells + mc ≤ R.cells ∧ slots + ms ≤ R.slots) :
    va_Run p l e R s m args below meth c H locs cells slots mc ms g rest (Qc As.toArray) (free) := by
  obtain ⟨⟨hrc, hrs, hfr, hlo, hws, hcw⟩, hcode, hini, hy, hlen, hl, hstt⟩ := cw
  have hK : Back l R p e below s args y 3 8 (PreOf R mc ms Pc) (PostOf Qc mc ms free) := va_backW (hh := hh) (bytes := bytes) (maxL := maxL) (ret := ret) hM hp.1 hrc hrs hfr hlo hws hcw (fun a' U hW => word_at hW (Or.inl (by first | rfl | simp [Cond.onTables, Cond.keeps, Cond.steady])) hini)
  obtain ⟨hx, hb, hml, ho, -⟩ := S
  intro T hT X
  obtain ⟨v, vm₁, ⟨U', l2, c2, s2⟩, hW₁, X', ⟨g', mk, t, L, e1, e2, hq, h1, hL, h2, h3⟩, st⟩ := vx_callSW X hx (hh := hh) (bytes := bytes) (maxL := maxL) (ret := ret) ho hl hstt hini hcode hy hK hg (hsize.trans hml.symm) (argsL := As) (rest := rest) (fun sig h => hn.trans (hlen sig h)) hstack hW (by rw [hb]; exact hdg)
    (fun vm₁ hW₁ => ⟨hf.1, hf.2, hp.2 (T.setVm vm₁) hT hW₁⟩)
  dsimp only [Pt.U, Pt.locs, Pt.cells, Pt.slots] at X' e1 e2 h1 h2 h3 st
  subst h1; subst h2; subst h3
  exact ⟨v, (T.setVm vm₁).calling g' mk As.toArray, t, U', L, hT, X', hL, e1, e2, hq, st⟩
/-- not caught here, past rows that name other classes: it goes on to the caller -/
theorem vx_outP {p : Program} {l : Launch} {e : Env} {R : Room} {s : State} {m : MethodId} {args : Array Value} {below : List Frame} {meth : Method} {c : Code} {H : Heap} {locs : List Loc} {cells slots : Nat} {free : Addr → Prop} {ls : Array Slot} {rest : List Value} {Qc : Array Value → State → Outcome → State → Prop} {XC : String → State → State → Prop}
    {pc : Nat} {own E : String} {ce : Cell} {q : Addr} {mc ms : Nat} (hown : s.vm.findClass own = some m.cls) (hlocks : meth.locks = false)
    (hpass : ∀ z ∈ c.exceptionTable.toList, covers z pc = false ∨ (z.catchType ≠ 0 ∧ ∃ nm : String, (Cond.classLink own z.catchType nm).before args s = true ∧ va_Nc E nm s)) (hcell : H[q]? = some ce) (hv : ce.vm = .none) (hcl : s.vm.findClass E = some ce.cls)
    (hx : ∀ t : State, t.heap = H → s.vm.Alike t.vm → XC E s t) (hf : ∀ z ∈ locs, free z.base) (hc : cells ≤ mc) (hs : slots ≤ ms) :
    vx_W p l e R s m args below meth c H locs cells slots (vx_MQ below Qc XC args s mc ms free) (F0 m pc ls rest) q := by
  intro T hT X
  have hpl : e.platform.magicAccessors = ({} : Platform).magicAccessors := by rw [X.admits.platform]
  obtain ⟨vm', hW', X', st⟩ := X.outThrough hlocks q (g := F0 m pc ls rest) rfl rfl rfl (cell := ce) (by rw [hT]; exact hcell) (by rw [hv]; rfl)
    (by obtain ⟨k9, h9, -⟩ := Vm.findClass_spec hcl; exact ⟨k9, h9⟩) (fun z hz => by
      rcases hpass z hz with h | ⟨hz0, nm, hl1, hn1⟩
      · exact Or.inl h
      · obtain ⟨c6, hc6, hcl6⟩ := Cond.classLink_spec hown hl1 e.platform hpl
        obtain ⟨a8, b8, h1, h2, h3⟩ := hn1
        cases Option.some.inj (h1.symm.trans hcl)
        cases Option.some.inj (h2.symm.trans hc6)
        exact Or.inr ⟨hz0, _, hcl6, h3⟩)
  obtain ⟨g₀, hfr⟩ := X'.frames_eq
  have hcell9 : ((T.setVm vm').setFrames (.throwing q :: below)).heap[q]? = some ce := by
    show T.heap[q]? = some ce
    rw [hT]; exact hcell
  have hend : Ended ((T.setVm vm').setFrames (.throwing q :: below)) below (.threw q) := State.frames_setFrames _ (State.cur_lt_of_frames hfr)
  refine ⟨(T.setVm vm').setFrames (.throwing q :: below), ?_, .threw q, X'.here.running, hend, Or.inr ⟨q, rfl, E, ce, locs, hx _ hT (X'.ends _).1.alike, hcell9, hv, hcl, (X'.ends _).1, (X'.ends _).2.mono hc hs, hf⟩⟩
  rw [X.pushThrowing_eq]
  exact st
/-- a thing of a world lies in the heap -/
theorem vx_lt {D : va_G} {cl : List vw_C} {ws : va_W} {H1 : Heap} (h : va_P D cl ws H1) {k : Nat} {q : Nat × va_E} (hk : ws[k]? = some q) : q.1 < H1.size := (h k q hk).lt
end VXS
/-! ===== END ===== -/
/-! ===== BEGIN methods with a table of their own: called by a name, returning or throwing ===== -/
section VXH
/-! vx_backW, vx_callVX, vx_callSX, vx_callVW, vx_runVW, vx_runVX, vx_runSX, vx_ofWH follow the same proofs as their sisters above (Free/Laws.lean, Shelf42/LK1.lean); vx_outP calls Shelf42/NT130.lean (outThrough). -/
section
variable {l : Launch} {R : Room} {p : Program} {e : Env} {below : List Frame} {s : State} {sargs : Array Value} {y : MethodName} {len W9 : Nat}
theorem vx_backW {ws : List Cond} {rm : Room} {Pc : Array Value → State → Prop} {Qc : Array Value → State → Outcome → State → Prop} {XC : String → State → State → Prop} {mc ms : Nat} {free : Addr → Prop} {bytes : ByteArray} {maxL : Nat} {ret : Option FieldType} {hh : List (Nat × Nat × Nat × Nat)}
    (hM : vx_Met l y ws rm Pc Qc XC mc ms free) (hblind : FrameBlind Pc) (hrc : rm.cells = mc) (hrs : rm.slots = ms)
    (hframes : rm.frames + 1 ≤ R.frames) (hlocals : W9 + (maxL + 11) + rm.locals ≤ R.locals)
    (hws : ∀ w ∈ ws, ∀ a' U, s.WarmedH U.vm → w.before a' U = true) (hcode : Cond.codeWith y bytes maxL ret hh ∈ ws) (hinit : ∀ a' U, s.WarmedH U.vm → (Cond.initialized y.cls).before a' U = true) :
    vx_Back l R p e below s sargs y len W9 (PreOf R mc ms Pc) (PostOf Qc mc ms free) (vx_Post XC mc ms free) := by
  intro m meth c A g ig mk a X hg hsize hdg hW hn hp
  have h1 : (headSpec ws rm).pre.before a A.U = true := atoms_intro fun w hw => hws w hw _ _ X.warmed
  have h2 : (Cond.codeWith y bytes maxL ret hh).before a A.U = true := hws _ hcode _ _ X.warmed
  have h3 : (Cond.initialized y.cls).before a A.U = true := hinit _ _ X.warmed
  have h4 : A.cells + (headSpec ws rm).room.cells ≤ R.cells := by rw [show (headSpec ws rm).room.cells = mc from hrc]; exact hp.1
  have h5 : A.slots + (headSpec ws rm).room.slots ≤ R.slots := by rw [show (headSpec ws rm).room.slots = ms from hrs]; exact hp.2.1
  have hPc : Pc a (A.U.calling g mk a) := hblind _ _ _ _ hp.2.2
  obtain ⟨U, Ls, c0, s0⟩ := A
  dsimp only [Pt.U, Pt.locs, Pt.cells, Pt.slots] at h1 h2 h3 h4 h5 X hn hPc ⊢
  obtain ⟨m9, methY, cY, hn9, hmY, hcY, -, hlY, -⟩ := Cond.codeWith_spec h2
  cases Option.some.inj (hn9.symm.trans hn)
  obtain ⟨kY, hkY, -⟩ := className_of_methodNamed hn
  have hinitY : kY.init = .initialized := Cond.initialized_spec (findClass_of_methodNamed hn) hkY h3
  have h : At U g.method c below := by rw [hg]; exact X.here
  have hlocals9 : W9 + (maxL + 11) + (headSpec ws rm).room.locals ≤ R.locals := hlocals
  have happ : (headSpec ws rm).appliesLoose y e.platform (U.calling g mk a) = true :=
    Spec.appliesLoose_calling (g := g) h hdg hn hkY hinitY
      (X.room_calling (g := g) (R' := (headSpec ws rm).room) hsize hmY hcY hframes (by rw [hlY]; omega) h4 h5) h1
  obtain ⟨mid, hmid⟩ := h.above
  have hfr : (U.setTop g).frames = (.java g :: mid) ++ below := by rw [State.frames_setTop' g h.top, hmid]; rfl
  obtain ⟨o, s₂, hsteps, -, hend, hq⟩ := Steps.callFree hM p X.admits X.cas X.clock (acts := []) hfr happ hPc trivial
  have hq' : vx_Q Qc XC mc ms free a (U.calling g mk a) o s₂ := hq
  rw [State.frames_setTop' g h.top] at hend
  obtain ⟨g₀, hg0⟩ := Option.isSome_iff_exists.mp h.top
  obtain ⟨r, hr⟩ := State.topJava?_eq_some.mp hg0
  have hr' : (({ U with heap := s₂.heap, slotsUsed := s₂.slotsUsed } : State).setVm s₂.vm).frames = .java g₀ :: r := hr
  rcases hq' with ⟨hqc, L, hfe, hL⟩ | ⟨q, rfl, E, ce, L, hx, hce, hcv, hcl, hW₂, hsm, hL⟩
  · obtain ⟨⟨v, rfl⟩, hW₂, e2, q2, q3, q4, q5, q6⟩ := id hfe
    have e3 : s₂ = ({ (U.calling g mk a).setFrames s₂.frames with heap := s₂.heap, slotsUsed := s₂.slotsUsed } : State).setVm s₂.vm := by
      have : s₂ = ({ s₂ with vm := (U.calling g mk a).vm } : State).setVm s₂.vm := rfl
      rw [e2] at this
      exact this
    obtain ⟨c₂, i₂, len₂, hc₂, hd₂, hf₂⟩ := hend
    have hW' : U.WarmedH s₂.vm := hW₂
    have hcc : c₂ = c := by
      have h1 : s₂.code? g.method = U.code? g.method := by
        rw [State.code?_eq, State.code?_eq, hW'.alike.method?]
      exact Option.some.inj (hc₂.symm.trans (h1.trans h.code))
    subst hcc
    have hlen : len₂ = len := by rw [hdg] at hd₂; cases hd₂; rfl
    subst hlen
    have hs₂ : s₂ = (({ U with heap := s₂.heap, slotsUsed := s₂.slotsUsed } : State).setVm s₂.vm).setTop { g with pc := g.pc + len₂, stack := v.toList ++ g.stack } := by
      refine e3.trans ?_
      rw [hf₂, State.calling_eq h.top, State.setFrames_setFrames, State.setTop_of_frames _ hr', hr]
      rfl
    have hsame : U.sameButNew ({ U with heap := s₂.heap, slotsUsed := s₂.slotsUsed } : State) L mc ms := by
      refine ⟨?_, q2, q3, q4, q5, q6⟩
      obtain ⟨t, ht, -⟩ := State.frames_cons hr
      show ({ U with heap := s₂.heap, slotsUsed := s₂.slotsUsed } : State) = { U.setFrames U.frames with heap := s₂.heap, slotsUsed := s₂.slotsUsed }
      rw [State.setFrames_self ht]
    subst hg
    refine Or.inl ⟨v, ⟨(({ U with heap := s₂.heap, slotsUsed := s₂.slotsUsed } : State).setVm s₂.vm), Ls ++ L, c0 + mc, s0 + ms⟩,
      ⟨X.admits, X.cas, X.clock, X.frames, X.room, X.hears, X.method, X.code, (X.here.setHeapUsed s₂.heap s₂.slotsUsed).setVm hW'.alike, X.tail, State.WarmedH.trans X.warmed hW', X.limits, X.bytes, X.same.trans (hsame.setVm s.vm)⟩,
      ⟨g, mk, s₂, L, rfl, rfl, hqc, rfl, hL, rfl, rfl⟩, ?_⟩
    show Steps p.tables e below _ ((({ U with heap := s₂.heap, slotsUsed := s₂.slotsUsed } : State).setVm s₂.vm).setTop { g with pc := g.pc + len₂, stack := v.toList ++ g.stack })
    rw [← hs₂]
    exact hsteps
  · obtain ⟨e2, q2, q3, q4, q5, q6⟩ := id hsm
    have e3 : s₂ = ({ (U.calling g mk a).setFrames s₂.frames with heap := s₂.heap, slotsUsed := s₂.slotsUsed } : State).setVm s₂.vm := by
      have : s₂ = ({ s₂ with vm := (U.calling g mk a).vm } : State).setVm s₂.vm := rfl
      rw [e2] at this
      exact this
    have hf₂ : s₂.frames = .throwing q :: .java g :: U.frames.tail := hend
    have hW' : U.WarmedH s₂.vm := hW₂
    have hs₂ : s₂ = ((({ U with heap := s₂.heap, slotsUsed := s₂.slotsUsed } : State).setVm s₂.vm).setTop g).pushFrame (.throwing q) := by
      refine e3.trans ?_
      rw [hf₂, State.calling_eq h.top, State.setFrames_setFrames, State.pushFrame, State.frames_setTop _ hr', State.setTop_of_frames _ hr', State.setFrames_setFrames, hr]
      rfl
    have hsame : U.sameButNew ({ U with heap := s₂.heap, slotsUsed := s₂.slotsUsed } : State) L mc ms := by
      refine ⟨?_, q2, q3, q4, q5, q6⟩
      obtain ⟨t, ht, -⟩ := State.frames_cons hr
      show ({ U with heap := s₂.heap, slotsUsed := s₂.slotsUsed } : State) = { U.setFrames U.frames with heap := s₂.heap, slotsUsed := s₂.slotsUsed }
      rw [State.setFrames_self ht]
    subst hg
    refine Or.inr ⟨q, ⟨(({ U with heap := s₂.heap, slotsUsed := s₂.slotsUsed } : State).setVm s₂.vm), Ls ++ L, c0 + mc, s0 + ms⟩,
      ⟨X.admits, X.cas, X.clock, X.frames, X.room, X.hears, X.method, X.code, (X.here.setHeapUsed s₂.heap s₂.slotsUsed).setVm hW'.alike, X.tail, State.WarmedH.trans X.warmed hW', X.limits, X.bytes, X.same.trans (hsame.setVm s.vm)⟩,
      ⟨g, mk, s₂, L, E, ce, rfl, rfl, hx, hce, hcv, hcl, rfl, hL, rfl, rfl⟩, ?_⟩
    show Steps p.tables e below _ (((({ U with heap := s₂.heap, slotsUsed := s₂.slotsUsed } : State).setVm s₂.vm).setTop g).pushFrame (.throwing q))
    rw [← hs₂]
    exact hsteps
end
variable {p : Program} {l : Launch} {e : Env} {R : Room} {s : State} {m : MethodId} {args : Array Value} {below : List Frame} {meth : Method} {c : Code} {T : State} {H : Heap} {locs : List Loc} {cells slots : Nat}
theorem vx_callVX (X : Stand p l e R s m args below meth c T locs cells slots) (hexec : p.tables.exec = Jvm.exec) {own C : String} {index : Nat} {y : MethodName} {bytes : ByteArray} {maxL : Nat} {ret : Option FieldType} {hh : List (Nat × Nat × Nat × Nat)}
    (hown : s.vm.findClass own = some m.cls) (hlink : (Cond.methodLink own index y).before args s = true) (hinst : (Cond.instanceMethod y).before args s = true) (hsel : (Cond.selects C y y).before args s = true)
    (hcode : (Cond.codeWith y bytes maxL ret hh).before args s = true) (hy : y.cls ≠ "java/lang/invoke/MethodHandle" ∧ y.cls ≠ "java/lang/invoke/VarHandle")
    {W9 : Nat} {Pre : Pt → Array Value → Prop} {Post : Pt → Array Value → Option Value → Pt → Prop} {PostX : Pt → Array Value → Addr → Pt → Prop} (hK : vx_Back l R p e below s args y 3 W9 Pre Post PostX)
    {b : Addr} {cellB : Cell} (hcell : T.heap[b]? = some cellB) (hobj : cellB.vm.isStatics = false) (hcls : s.vm.findClass C = some cellB.cls)
    {g : JFrame} (hg : g.method = m) (hsize : g.locals.size = c.maxLocals) {argsL rest : List Value} (hlen : ∀ sig, parseMethodDescriptor y.desc = some sig → argsL.length = sig.parameters.length)
    (hstack : g.stack = argsL.reverse ++ .ref b :: rest) (hW : 2 * g.monitorRoom + (rest.map fun v => v.category).sum ≤ W9) (hdg : decode c.code g.pc = .ok (.invokevirtual index, 3))
    (hpre : ∀ vm₁, s.WarmedH vm₁ → Pre ⟨T.setVm vm₁, locs, cells, slots⟩ (Value.ref b :: argsL).toArray) :
    (∃ (v : Option Value) (vm₁ : Vm) (B : Pt), s.WarmedH vm₁ ∧ Stand p l e R s m args below meth c B.U B.locs B.cells B.slots ∧ Post ⟨T.setVm vm₁, locs, cells, slots⟩ (Value.ref b :: argsL).toArray v B ∧
      ∀ target, Steps p.tables e below (B.U.setTop { g with pc := g.pc + 3, stack := v.toList ++ rest }) target → Steps p.tables e below (T.setTop g) target) ∨
    (∃ (q : Addr) (vm₁ : Vm) (B : Pt), s.WarmedH vm₁ ∧ Stand p l e R s m args below meth c B.U B.locs B.cells B.slots ∧ PostX ⟨T.setVm vm₁, locs, cells, slots⟩ (Value.ref b :: argsL).toArray q B ∧
      Steps p.tables e below (T.setTop g) ((B.U.setTop { g with stack := rest }).pushFrame (.throwing q))) := by
  obtain ⟨mk, methM, hnamed, hmethM, hstM, habM⟩ := Cond.instanceMethod_spec hinst
  obtain ⟨m8, methM', cM, hn8, hmethM', -, -, -, -, -, -, hsigM⟩ := Cond.codeWith_spec hcode
  cases Option.some.inj (hn8.symm.trans hnamed)
  cases hmethM.symm.trans hmethM'
  obtain ⟨c2, r2, m2, q1, q2, q3, q4, kP, hkP, hkPi⟩ := Cond.selects_spec hsel
  cases hcls.symm.trans q1
  cases (State.methodFound?_of_named hnamed hy).symm.trans q2
  cases hnamed.symm.trans q3
  have hselP : selectMethod e.platform s.vm cellB.cls mk = .method mk := by rw [Launch.admits_selectMethod X.admits]; exact q4
  obtain ⟨vm₁, X₁, hstep₁⟩ := X.invokevirtual hexec hown hlink hnamed hmethM hstM hkP hkPi hy (a := b) (cell := cellB) hcell
    (fun z h => by rw [h] at hobj; cases hobj) hselP hmethM habM hkP hkPi (g := g) hg (argsL := argsL) (rest := rest) (hlen _ hsigM) hstack hdg
  rcases hK m meth c ⟨T.setVm vm₁, locs, cells, slots⟩ { g with stack := rest } (.invokevirtual index) mk (Value.ref b :: argsL).toArray X₁ hg hsize hdg hW (X₁.named hnamed) (hpre vm₁ X₁.warmed) with ⟨v, B, X', hpost, hsteps⟩ | ⟨q, B, X', hpost, hsteps⟩
  · exact Or.inl ⟨v, vm₁, B, X₁.warmed, X', hpost, fun target h => hstep₁ _ fun acts => by rw [doInvoke_state]; exact hsteps.trans h⟩
  · exact Or.inr ⟨q, vm₁, B, X₁.warmed, X', hpost, hstep₁ _ fun acts => by rw [doInvoke_state]; exact hsteps⟩
theorem vx_callSX (X : Stand p l e R s m args below meth c T locs cells slots) (hexec : p.tables.exec = Jvm.exec) {own : String} {index : Nat} {y : MethodName} {bytes : ByteArray} {maxL : Nat} {ret : Option FieldType} {hh : List (Nat × Nat × Nat × Nat)}
    (hown : s.vm.findClass own = some m.cls) (hlink : (Cond.methodLink own index y).before args s = true) (hstat : (Cond.static y).before args s = true) (hinit : (Cond.initialized y.cls).before args s = true)
    (hcode : (Cond.codeWith y bytes maxL ret hh).before args s = true) (hy : y.cls ≠ "java/lang/invoke/MethodHandle" ∧ y.cls ≠ "java/lang/invoke/VarHandle")
    {W9 : Nat} {Pre : Pt → Array Value → Prop} {Post : Pt → Array Value → Option Value → Pt → Prop} {PostX : Pt → Array Value → Addr → Pt → Prop} (hK : vx_Back l R p e below s args y 3 W9 Pre Post PostX)
    {g : JFrame} (hg : g.method = m) (hsize : g.locals.size = c.maxLocals) {argsL rest : List Value} (hlen : ∀ sig, parseMethodDescriptor y.desc = some sig → argsL.length = sig.parameters.length)
    (hstack : g.stack = argsL.reverse ++ rest) (hW : 2 * g.monitorRoom + (rest.map fun v => v.category).sum ≤ W9) (hdg : decode c.code g.pc = .ok (.invokestatic index, 3))
    (hpre : ∀ vm₁, s.WarmedH vm₁ → Pre ⟨T.setVm vm₁, locs, cells, slots⟩ argsL.toArray) :
    (∃ (v : Option Value) (vm₁ : Vm) (B : Pt), s.WarmedH vm₁ ∧ Stand p l e R s m args below meth c B.U B.locs B.cells B.slots ∧ Post ⟨T.setVm vm₁, locs, cells, slots⟩ argsL.toArray v B ∧
      ∀ target, Steps p.tables e below (B.U.setTop { g with pc := g.pc + 3, stack := v.toList ++ rest }) target → Steps p.tables e below (T.setTop g) target) ∨
    (∃ (q : Addr) (vm₁ : Vm) (B : Pt), s.WarmedH vm₁ ∧ Stand p l e R s m args below meth c B.U B.locs B.cells B.slots ∧ PostX ⟨T.setVm vm₁, locs, cells, slots⟩ argsL.toArray q B ∧
      Steps p.tables e below (T.setTop g) ((B.U.setTop { g with stack := rest }).pushFrame (.throwing q))) := by
  obtain ⟨mk, methM, cM, hnamed, hmethM, -, -, -, -, -, -, hsigM⟩ := Cond.codeWith_spec hcode
  have hstatic : methM.isStatic = true := Cond.static_spec hnamed hmethM hstat
  obtain ⟨kP, hkP, -⟩ := className_of_methodNamed hnamed
  have hinitP : kP.init = .initialized := Cond.initialized_spec (findClass_of_methodNamed hnamed) hkP hinit
  obtain ⟨vm₁, X₁, hstep₁⟩ := X.invokestatic hexec hown hlink hnamed hmethM hstatic hkP hinitP hy (g := g) hg (argsL := argsL) (rest := rest) (hlen _ hsigM) hstack hdg
  rcases hK m meth c ⟨T.setVm vm₁, locs, cells, slots⟩ { g with stack := rest } (.invokestatic index) mk argsL.toArray X₁ hg hsize hdg hW (X₁.named hnamed) (hpre vm₁ X₁.warmed) with ⟨v, B, X', hpost, hsteps⟩ | ⟨q, B, X', hpost, hsteps⟩
  · exact Or.inl ⟨v, vm₁, B, X₁.warmed, X', hpost, fun target h => hstep₁ _ fun acts => by rw [doInvoke_state]; exact hsteps.trans h⟩
  · exact Or.inr ⟨q, vm₁, B, X₁.warmed, X', hpost, hstep₁ _ fun acts => by rw [doInvoke_state]; exact hsteps⟩
theorem vx_callVW (X : Stand p l e R s m args below meth c T locs cells slots) (hexec : p.tables.exec = Jvm.exec) {own C : String} {index : Nat} {y : MethodName} {bytes : ByteArray} {maxL : Nat} {ret : Option FieldType} {hh : List (Nat × Nat × Nat × Nat)}
    (hown : s.vm.findClass own = some m.cls) (hlink : (Cond.methodLink own index y).before args s = true) (hinst : (Cond.instanceMethod y).before args s = true) (hsel : (Cond.selects C y y).before args s = true)
    (hcode : (Cond.codeWith y bytes maxL ret hh).before args s = true) (hy : y.cls ≠ "java/lang/invoke/MethodHandle" ∧ y.cls ≠ "java/lang/invoke/VarHandle")
    {W9 : Nat} {Pre : Pt → Array Value → Prop} {Post : Pt → Array Value → Option Value → Pt → Prop} (hK : Back l R p e below s args y 3 W9 Pre Post)
    {b : Addr} {cellB : Cell} (hcell : T.heap[b]? = some cellB) (hobj : cellB.vm.isStatics = false) (hcls : s.vm.findClass C = some cellB.cls)
    {g : JFrame} (hg : g.method = m) (hsize : g.locals.size = c.maxLocals) {argsL rest : List Value} (hlen : ∀ sig, parseMethodDescriptor y.desc = some sig → argsL.length = sig.parameters.length)
    (hstack : g.stack = argsL.reverse ++ .ref b :: rest) (hW : 2 * g.monitorRoom + (rest.map fun v => v.category).sum ≤ W9) (hdg : decode c.code g.pc = .ok (.invokevirtual index, 3))
    (hpre : ∀ vm₁, s.WarmedH vm₁ → Pre ⟨T.setVm vm₁, locs, cells, slots⟩ (Value.ref b :: argsL).toArray) :
    ∃ (v : Option Value) (vm₁ : Vm) (B : Pt), s.WarmedH vm₁ ∧ Stand p l e R s m args below meth c B.U B.locs B.cells B.slots ∧ Post ⟨T.setVm vm₁, locs, cells, slots⟩ (Value.ref b :: argsL).toArray v B ∧
      ∀ target, Steps p.tables e below (B.U.setTop { g with pc := g.pc + 3, stack := v.toList ++ rest }) target → Steps p.tables e below (T.setTop g) target := by
  obtain ⟨mk, methM, hnamed, hmethM, hstM, habM⟩ := Cond.instanceMethod_spec hinst
  obtain ⟨m8, methM', cM, hn8, hmethM', -, -, -, -, -, -, hsigM⟩ := Cond.codeWith_spec hcode
  cases Option.some.inj (hn8.symm.trans hnamed)
  cases hmethM.symm.trans hmethM'
  obtain ⟨c2, r2, m2, q1, q2, q3, q4, kP, hkP, hkPi⟩ := Cond.selects_spec hsel
  cases hcls.symm.trans q1
  cases (State.methodFound?_of_named hnamed hy).symm.trans q2
  cases hnamed.symm.trans q3
  have hselP : selectMethod e.platform s.vm cellB.cls mk = .method mk := by rw [Launch.admits_selectMethod X.admits]; exact q4
  obtain ⟨vm₁, X₁, hstep₁⟩ := X.invokevirtual hexec hown hlink hnamed hmethM hstM hkP hkPi hy (a := b) (cell := cellB) hcell
    (fun z h => by rw [h] at hobj; cases hobj) hselP hmethM habM hkP hkPi (g := g) hg (argsL := argsL) (rest := rest) (hlen _ hsigM) hstack hdg
  obtain ⟨v, B, X', hpost, hsteps⟩ := hK m meth c ⟨T.setVm vm₁, locs, cells, slots⟩ { g with stack := rest } (.invokevirtual index) mk (Value.ref b :: argsL).toArray X₁ hg hsize hdg hW (X₁.named hnamed) (hpre vm₁ X₁.warmed)
  exact ⟨v, vm₁, B, X₁.warmed, X', hpost, fun target h => hstep₁ _ fun acts => by rw [doInvoke_state]; exact hsteps.trans h⟩
abbrev vx_CVW (R : Room) (s : State) (args : Array Value) (own C : String) (index : Nat) (y : MethodName) (bytes : ByteArray) (maxL : Nat) (ret : Option FieldType) (hh : List (Nat × Nat × Nat × Nat)) (ws : List Cond) (rm : Room) (mc ms n : Nat) : Prop :=
  (rm.cells = mc ∧ rm.slots = ms ∧ rm.frames + 1 ≤ R.frames ∧ 8 + (maxL + 11) + rm.locals ≤ R.locals ∧ (∀ w ∈ ws, ∀ (a' : Array Value) (U : State), s.WarmedH U.vm → w.before a' U = true) ∧ Cond.codeWith y bytes maxL ret hh ∈ ws) ∧
  (Cond.codeWith y bytes maxL ret hh).before args s = true ∧ (Cond.initialized y.cls).before args s = true ∧ (y.cls ≠ "java/lang/invoke/MethodHandle" ∧ y.cls ≠ "java/lang/invoke/VarHandle") ∧
  (∀ sig, parseMethodDescriptor y.desc = some sig → n = sig.parameters.length) ∧ (Cond.methodLink own index y).before args s = true ∧ (Cond.instanceMethod y).before args s = true ∧ (Cond.selects C y y).before args s = true
theorem vx_cwVW {own C : String} {index maxL mc ms : Nat} {y : MethodName} {bytes : ByteArray} {ret : Option FieldType} {hh : List (Nat × Nat × Nat × Nat)} {Ts ws ws' : List Cond} {rm : Room} (n : Nat) (ht : ∀ w ∈ Ts, w.before args s = true) (hT : GoodIn Ts (wsV own index C y ws)) (hw : ws = Cond.codeWith y bytes maxL ret hh :: ws') (hrc : rm.cells = mc) (hrs : rm.slots = ms)
    (hd : y.cls = C ∧ y.cls ≠ "java/lang/invoke/MethodHandle" ∧ y.cls ≠ "java/lang/invoke/VarHandle" ∧ (parseMethodDescriptor y.desc).map (fun d => d.parameters.length) = some n) (hR : rm.frames + 1 ≤ R.frames ∧ 8 + (maxL + 11) + rm.locals ≤ R.locals) :
    vx_CVW R s args own C index y bytes maxL ret hh ws rm mc ms n := by
  obtain ⟨hC, hd⟩ := hd
  subst hC
  have ok : ∀ w ∈ wsV own index y.cls y ws, w.before args s = true := fun w h => ht w (hT w h).1
  have hG : GoodIn Ts ws := fun w h => hT w (by unfold wsV; exact List.mem_append_right _ h)
  have hc : Cond.codeWith y bytes maxL ret hh ∈ ws := by rw [hw]; exact List.mem_cons_self
  refine ⟨⟨hrc, hrs, hR.1, hR.2, pay_in ht hG, hc⟩, ht _ (hG _ hc).1, ok _ (by simp [wsV]), ⟨hd.1, hd.2.1⟩, fun sig h => ?_, ok _ (by simp [wsV]), ok _ (by simp [wsV]), ok _ (by simp [wsV])⟩
  have h2 := hd.2.2
  rw [h] at h2
  exact (Option.some.inj h2).symm
theorem vx_runVW {y : MethodName} {bytes cc : ByteArray} {maxL nL mc ms n index : Nat} {ret : Option FieldType} {hh : List (Nat × Nat × Nat × Nat)} {ws : List Cond} {rm : Room} {Pc : Array Value → State → Prop} {Qc : Array Value → State → Outcome → State → Prop} {free : Addr → Prop} {Ts : List Cond} {own C : String} {b : Addr} {As rest : List Value} {g : JFrame}
    (S : CallFix p m c cc nL s args Ts own) (hM : Met l y ws rm Pc Qc mc ms free) (cw : vx_CVW R s args own C index y bytes maxL ret hh ws rm mc ms n) (hp : PreV s H C b Pc As)
    (hg : g.method = m) (hn : As.length = n) (hsize : g.locals.size = nL) (hstack : g.stack = As.reverse ++ .ref b :: rest) (hW : 2 * g.monitorRoom + (rest.map fun v => v.category).sum ≤ 8) (hdg : decode cc g.pc = .ok (.invokevirtual index, 3)) (hf : cells + mc ≤ R.cells ∧ slots + ms ≤ R.slots) :
    va_Run p l e R s m args below meth c H locs cells slots mc ms g rest (Qc (Value.ref b :: As).toArray) free := by
  obtain ⟨⟨hrc, hrs, hfr, hlo, hws, hcw⟩, hcode, hini, hy, hlen, hl, hin, hse⟩ := cw
  have hK : Back l R p e below s args y 3 8 (PreOf R mc ms Pc) (PostOf Qc mc ms free) := va_backW (hh := hh) (bytes := bytes) (maxL := maxL) (ret := ret) hM hp.1 hrc hrs hfr hlo hws hcw (fun a' U hW => word_at hW (Or.inl (by first | rfl | simp [Cond.onTables, Cond.keeps, Cond.steady])) hini)
  obtain ⟨hx, hb, hml, ho, -⟩ := S
  obtain ⟨-, ⟨cellB, hcB, hoB, hclB⟩, hPc⟩ := hp
  intro T hT X
  obtain ⟨v, vm₁, ⟨U', l2, c2, s2⟩, hW₁, X', ⟨g', mk, t, L, e1, e2, hq, h1, hL, h2, h3⟩, st⟩ := vx_callVW X hx (C := C) (hh := hh) (bytes := bytes) (maxL := maxL) (ret := ret) ho hl hin hse hcode hy hK (by rw [hT]; exact hcB) hoB hclB hg (hsize.trans hml.symm) (argsL := As) (rest := rest) (fun sig h => hn.trans (hlen sig h)) hstack hW (by rw [hb]; exact hdg)
    (fun vm₁ hW₁ => ⟨hf.1, hf.2, hPc (T.setVm vm₁) hT hW₁⟩)
  dsimp only [Pt.U, Pt.locs, Pt.cells, Pt.slots] at X' e1 e2 h1 h2 h3 st
  subst h1; subst h2; subst h3
  exact ⟨v, (T.setVm vm₁).calling g' mk (Value.ref b :: As).toArray, t, U', L, hT, X', hL, e1, e2, hq, st⟩
section
variable {y : MethodName} {bytes cc : ByteArray} {maxL nL mc ms n index : Nat} {ret : Option FieldType} {ws : List Cond} {rm : Room} {Pc : Array Value → State → Prop} {Qc : Array Value → State → Outcome → State → Prop} {XC : String → State → State → Prop} {free : Addr → Prop} {Ts : List Cond} {own C : String} {b : Addr} {As rest : List Value} {g : JFrame}
theorem vx_runVX {hh : List (Nat × Nat × Nat × Nat)} (S : CallFix p m c cc nL s args Ts own) (hM : vx_Met l y ws rm Pc Qc XC mc ms free) (cw : vx_CVW R s args own C index y bytes maxL ret hh ws rm mc ms n) (hp : PreV s H C b Pc As)
    (hg : g.method = m) (hn : As.length = n) (hsize : g.locals.size = nL) (hstack : g.stack = As.reverse ++ .ref b :: rest) (hW : 2 * g.monitorRoom + (rest.map fun v => v.category).sum ≤ 8) (hdg : decode cc g.pc = .ok (.invokevirtual index, 3)) (hf : cells + mc ≤ R.cells ∧ slots + ms ≤ R.slots) :
    vx_Run p l e R s m args below meth c H locs cells slots mc ms g rest (Qc (Value.ref b :: As).toArray) XC free := by
  obtain ⟨⟨hrc, hrs, hfr, hlo, hws, hcw⟩, hcode, hini, hy, hlen, hl, hin, hse⟩ := cw
  have hK : vx_Back l R p e below s args y 3 8 (PreOf R mc ms Pc) (PostOf Qc mc ms free) (vx_Post XC mc ms free) := vx_backW (hh := hh) (bytes := bytes) (maxL := maxL) (ret := ret) hM hp.1 hrc hrs hfr hlo hws hcw (fun a' U hW => word_at hW (Or.inl (by first | rfl | simp [Cond.onTables, Cond.keeps, Cond.steady])) hini)
  obtain ⟨hx, hb, hml, ho, -⟩ := S
  obtain ⟨-, ⟨cellB, hcB, hoB, hclB⟩, hPc⟩ := hp
  intro T hT X
  rcases vx_callVX X hx (C := C) (hh := hh) (bytes := bytes) (maxL := maxL) (ret := ret) ho hl hin hse hcode hy hK (by rw [hT]; exact hcB) hoB hclB hg (hsize.trans hml.symm) (argsL := As) (rest := rest) (fun sig h => hn.trans (hlen sig h)) hstack hW (by rw [hb]; exact hdg)
    (fun vm₁ hW₁ => ⟨hf.1, hf.2, hPc (T.setVm vm₁) hT hW₁⟩) with ⟨v, vm₁, ⟨U', l2, c2, s2⟩, hW₁, X', ⟨g', mk, t, L, e1, e2, hq, h1, hL, h2, h3⟩, st⟩ | ⟨q, vm₁, ⟨U', l2, c2, s2⟩, hW₁, X', ⟨g', mk, t, L, E, ce, e1, e2, hq, hce, hcv, hcl, h1, hL, h2, h3⟩, st⟩
  · dsimp only [Pt.U, Pt.locs, Pt.cells, Pt.slots] at X' e1 e2 h1 h2 h3 st
    subst h1; subst h2; subst h3
    exact Or.inl ⟨v, (T.setVm vm₁).calling g' mk (Value.ref b :: As).toArray, t, U', L, hT, X', hL, e1, e2, hq, st⟩
  · dsimp only [Pt.U, Pt.locs, Pt.cells, Pt.slots] at X' e1 e2 h1 h2 h3 st hcl
    subst h1; subst h2; subst h3
    exact Or.inr ⟨q, (T.setVm vm₁).calling g' mk (Value.ref b :: As).toArray, t, U', L, E, ce, hT, X', hL, e1, e2, hq, hce, hcv, vx_cls hW₁ hcl, st⟩
theorem vx_runSX {hh : List (Nat × Nat × Nat × Nat)} (S : CallFix p m c cc nL s args Ts own) (hM : vx_Met l y ws rm Pc Qc XC mc ms free) (cw : vx_CSW R s args own index y bytes maxL ret hh ws rm mc ms n) (hp : PreS s H Pc As)
    (hg : g.method = m) (hn : As.length = n) (hsize : g.locals.size = nL) (hstack : g.stack = As.reverse ++ rest) (hW : 2 * g.monitorRoom + (rest.map fun v => v.category).sum ≤ 8) (hdg : decode cc g.pc = .ok (.invokestatic index, 3)) (hf : cells + mc ≤ R.cells ∧ slots + ms ≤ R.slots) :
    vx_Run p l e R s m args below meth c H locs cells slots mc ms g rest (Qc As.toArray) XC free := by
  obtain ⟨⟨hrc, hrs, hfr, hlo, hws, hcw⟩, hcode, hini, hy, hlen, hl, hstt⟩ := cw
  have hK : vx_Back l R p e below s args y 3 8 (PreOf R mc ms Pc) (PostOf Qc mc ms free) (vx_Post XC mc ms free) := vx_backW (hh := hh) (bytes := bytes) (maxL := maxL) (ret := ret) hM hp.1 hrc hrs hfr hlo hws hcw (fun a' U hW => word_at hW (Or.inl (by first | rfl | simp [Cond.onTables, Cond.keeps, Cond.steady])) hini)
  obtain ⟨hx, hb, hml, ho, -⟩ := S
  intro T hT X
  rcases vx_callSX X hx (hh := hh) (bytes := bytes) (maxL := maxL) (ret := ret) ho hl hstt hini hcode hy hK hg (hsize.trans hml.symm) (argsL := As) (rest := rest) (fun sig h => hn.trans (hlen sig h)) hstack hW (by rw [hb]; exact hdg)
    (fun vm₁ hW₁ => ⟨hf.1, hf.2, hp.2 (T.setVm vm₁) hT hW₁⟩) with ⟨v, vm₁, ⟨U', l2, c2, s2⟩, hW₁, X', ⟨g', mk, t, L, e1, e2, hq, h1, hL, h2, h3⟩, st⟩ | ⟨q, vm₁, ⟨U', l2, c2, s2⟩, hW₁, X', ⟨g', mk, t, L, E, ce, e1, e2, hq, hce, hcv, hcl, h1, hL, h2, h3⟩, st⟩
  · dsimp only [Pt.U, Pt.locs, Pt.cells, Pt.slots] at X' e1 e2 h1 h2 h3 st
    subst h1; subst h2; subst h3
    exact Or.inl ⟨v, (T.setVm vm₁).calling g' mk As.toArray, t, U', L, hT, X', hL, e1, e2, hq, st⟩
  · dsimp only [Pt.U, Pt.locs, Pt.cells, Pt.slots] at X' e1 e2 h1 h2 h3 st hcl
    subst h1; subst h2; subst h3
    exact Or.inr ⟨q, (T.setVm vm₁).calling g' mk As.toArray, t, U', L, E, ce, hT, X', hL, e1, e2, hq, hce, hcv, vx_cls hW₁ hcl, st⟩
end
end VXH
theorem vx_ofWH {l : Launch} {y : MethodName} {ws ws' : List Cond} {rm : Room} {Pc : Array Value → State → Prop} {Qc : Array Value → State → Outcome → State → Prop} {XC : String → State → State → Prop} {mc ms : Nat} {free : Addr → Prop} {cc : ByteArray} {maxL : Nat} {ret : Option FieldType} {hh : List (Nat × Nat × Nat × Nat)}
    (hy : plainName y.cls = true) (hw : ws = Cond.codeWith y cc maxL ret hh :: ws')
    (body : ∀ p e s m args below meth c s₁, BodyLoose p l y (headSpec ws rm) cc maxL ret e s m args below meth c s₁ → c.maxLocals = maxL → Pc args s →
      W p l e (headSpec ws rm).room s m args below meth c s.heap [] 0 0 (vx_MQ below Qc XC args s mc ms free) (entryFrame m args maxL)) : vx_Met l y ws rm Pc Qc XC mc ms free := by
  refine MetFree.of_bodyS (code := cc) (maxLocals := maxL) (ret := ret) hy ?_ ?_
  · intro args s m h hn
    obtain ⟨m9, meth, c, hn9, h1, h2, h3, h4, -, h5, h6, -⟩ := Cond.codeWith_spec (atoms_spec (ws := ws) h _ (by rw [hw]; exact List.mem_cons_self))
    cases hn.symm.trans hn9
    exact ⟨meth, c, h1, h2, h3, h4, h5, h6⟩
  · intro p e s m args below meth c s₁ B hml hP _
    have hh0 : s₁.heap = s.heap := by rw [B.state]; rfl
    obtain ⟨t, a1, o, b1, b2, b3⟩ := body p e s m args below meth c s₁ B hml hP s₁ hh0 (Stand.of_body B)
    exact ⟨t, o, a1, b1, b2, b3⟩
/-! ===== END ===== -/
end
section
def RX0 : String := "BeanGroves$Beans"
def TX0 : u_T := fun k => match k with
  | 0 => ("BeanGroves$Beans", "measures", "[[I", true)
  | 1 => ("BeanGroves$Beans", "sorts", "[I", true)
  | 2 => ("BeanGroves$Beans", "ofSort", "[I", true)
  | 3 => ("BeanGroves$Beans", "lowByCut", "[I", true)
  | 4 => ("BeanGroves$Beans", "many", "I", false)
  | _ => ("BeanGroves$Beans", "checks", "I", false)
def tyX0 : Nat → FieldType := fun k => match k with
  | 0 => .array (.array .int)
  | 1 => .array .int
  | 2 => .array .int
  | 3 => .array .int
  | 4 => .int
  | _ => .int
abbrev wsX00 : List Cond := u_ws RX0 TX0 6
theorem nmX0 : ∀ a, a < 6 → ∀ b, b < 6 → a ≠ b → (TX0 a).2.1 ≠ (TX0 b).2.1 := by decide +kernel
theorem tyX0_ok : ∀ k, k < 6 → parseFieldDescriptor (TX0 k).2.2.1 = some (tyX0 k) := by decide +kernel
abbrev cX0_init : ByteArray := prog_2_method_1_code
def yX0_init : MethodName := ⟨RX0, "<init>", "()V"⟩
abbrev cX0_howMany : ByteArray := prog_2_method_2_code
def yX0_howMany : MethodName := ⟨RX0, "howMany", "()I"⟩
abbrev cX0_add : ByteArray := prog_2_method_3_code
def yX0_add : MethodName := ⟨RX0, "add", "(IIII)I"⟩
abbrev cX0_addMeasure : ByteArray := prog_2_method_4_code
def yX0_addMeasure : MethodName := ⟨RX0, "addMeasure", "(III)V"⟩
abbrev cX0_measureOf : ByteArray := prog_2_method_5_code
def yX0_measureOf : MethodName := ⟨RX0, "measureOf", "(II)I"⟩
abbrev cX0_sortOf : ByteArray := prog_2_method_6_code
def yX0_sortOf : MethodName := ⟨RX0, "sortOf", "(I)I"⟩
abbrev cX0_isCheck : ByteArray := prog_2_method_8_code
def yX0_isCheck : MethodName := ⟨RX0, "isCheck", "(I)Z"⟩
abbrev cX0_makeCheck : ByteArray := prog_2_method_9_code
def yX0_makeCheck : MethodName := ⟨RX0, "makeCheck", "(IZ)V"⟩
abbrev cX0_checks : ByteArray := prog_2_method_10_code
def yX0_checks : MethodName := ⟨RX0, "checks", "()I"⟩
abbrev cX0_growing : ByteArray := prog_2_method_11_code
def yX0_growing : MethodName := ⟨RX0, "growing", "()I"⟩
abbrev cX0_growingBut : ByteArray := prog_2_method_12_code
def yX0_growingBut : MethodName := ⟨RX0, "growingBut", "(II)I"⟩
abbrev cX0_howManyOfSort : ByteArray := prog_2_method_13_code
def yX0_howManyOfSort : MethodName := ⟨RX0, "howManyOfSort", "(II)I"⟩
abbrev cX0_mostOf : ByteArray := prog_2_method_14_code
def yX0_mostOf : MethodName := ⟨RX0, "mostOf", "(I)I"⟩
abbrev cX0_lowOf : ByteArray := prog_2_method_15_code
def yX0_lowOf : MethodName := ⟨RX0, "lowOf", "(II)I"⟩
abbrev cX0_squares : ByteArray := prog_2_method_16_code
def yX0_squares : MethodName := ⟨RX0, "squares", "(I)I"⟩
abbrev cX0_gainAbove : ByteArray := prog_2_method_17_code
def yX0_gainAbove : MethodName := ⟨RX0, "gainAbove", "(II)I"⟩
abbrev cX0_bestCut : ByteArray := prog_2_method_18_code
def yX0_bestCut : MethodName := ⟨RX0, "bestCut", "(II)I"⟩
abbrev cX0_leavesBoth : ByteArray := prog_2_method_19_code
def yX0_leavesBoth : MethodName := ⟨RX0, "leavesBoth", "(III)Z"⟩
def RX1 : String := "BeanGroves$Tree"
def TX1 : u_T := fun k => match k with
  | 0 => ("BeanGroves$Tree", "cuts", "[I", true)
  | 1 => ("BeanGroves$Tree", "sorts", "[I", true)
  | 2 => ("BeanGroves$Tree", "grown", "[I", true)
  | 3 => ("BeanGroves$Tree", "depths", "[I", true)
  | 4 => ("BeanGroves$Tree", "comes", "[I", true)
  | 5 => ("BeanGroves$Tree", "rights", "[I", true)
  | 6 => ("BeanGroves$Tree", "nodes", "I", false)
  | 7 => ("BeanGroves$Tree", "parts", "I", false)
  | _ => ("BeanGroves$Tree", "left", "I", false)
def tyX1 : Nat → FieldType := fun k => match k with
  | 0 => .array .int
  | 1 => .array .int
  | 2 => .array .int
  | 3 => .array .int
  | 4 => .array .int
  | 5 => .array .int
  | 6 => .int
  | 7 => .int
  | _ => .int
abbrev wsX10 : List Cond := u_ws RX1 TX1 9
theorem nmX1 : ∀ a, a < 9 → ∀ b, b < 9 → a ≠ b → (TX1 a).2.1 ≠ (TX1 b).2.1 := by decide +kernel
theorem tyX1_ok : ∀ k, k < 9 → parseFieldDescriptor (TX1 k).2.2.1 = some (tyX1 k) := by decide +kernel
abbrev cX1_init : ByteArray := prog_3_method_1_code
def yX1_init : MethodName := ⟨RX1, "<init>", "()V"⟩
abbrev cX1_remember : ByteArray := prog_3_method_2_code
def yX1_remember : MethodName := ⟨RX1, "remember", "(II)V"⟩
abbrev cX1_partsTold : ByteArray := prog_3_method_3_code
def yX1_partsTold : MethodName := ⟨RX1, "partsTold", "()I"⟩
abbrev cX1_leftTold : ByteArray := prog_3_method_4_code
def yX1_leftTold : MethodName := ⟨RX1, "leftTold", "()I"⟩
abbrev cX1_grow : ByteArray := prog_3_method_5_code
def yX1_grow : MethodName := ⟨RX1, "grow", "(LBeanGroves$Beans;III)V"⟩
abbrev cX1_putLeaf : ByteArray := prog_3_method_6_code
def yX1_putLeaf : MethodName := ⟨RX1, "putLeaf", "(LBeanGroves$Beans;III)V"⟩
abbrev cX1_fork : ByteArray := prog_3_method_7_code
def yX1_fork : MethodName := ⟨RX1, "fork", "(LBeanGroves$Beans;II)V"⟩
abbrev cX1_copyNode : ByteArray := prog_3_method_8_code
def yX1_copyNode : MethodName := ⟨RX1, "copyNode", "(II)V"⟩
abbrev cX1_pruneBy : ByteArray := prog_3_method_9_code
def yX1_pruneBy : MethodName := ⟨RX1, "pruneBy", "(LBeanGroves$Beans;I)I"⟩
abbrev cX1_dropNodesBelowLeaves : ByteArray := prog_3_method_10_code
def yX1_dropNodesBelowLeaves : MethodName := ⟨RX1, "dropNodesBelowLeaves", "()V"⟩
abbrev cX1_rightAbout : ByteArray := prog_3_method_11_code
def yX1_rightAbout : MethodName := ⟨RX1, "rightAbout", "(LBeanGroves$Beans;I)I"⟩
abbrev cX1_send : ByteArray := prog_3_method_12_code
def yX1_send : MethodName := ⟨RX1, "send", "(LBeanGroves$Beans;I)V"⟩
abbrev cX1_sortFor : ByteArray := prog_3_method_13_code
def yX1_sortFor : MethodName := ⟨RX1, "sortFor", "(III)I"⟩
abbrev cX1_hasPlace : ByteArray := prog_3_method_14_code
def yX1_hasPlace : MethodName := ⟨RX1, "hasPlace", "(I)Z"⟩
abbrev cX1_measureAt : ByteArray := prog_3_method_15_code
def yX1_measureAt : MethodName := ⟨RX1, "measureAt", "(I)I"⟩
abbrev cX1_numberAt : ByteArray := prog_3_method_16_code
def yX1_numberAt : MethodName := ⟨RX1, "numberAt", "(I)I"⟩
abbrev cX1_sortAt : ByteArray := prog_3_method_17_code
def yX1_sortAt : MethodName := ⟨RX1, "sortAt", "(I)I"⟩
abbrev cX1_grownAt : ByteArray := prog_3_method_18_code
def yX1_grownAt : MethodName := ⟨RX1, "grownAt", "(I)I"⟩
abbrev cX1_depthAt : ByteArray := prog_3_method_19_code
def yX1_depthAt : MethodName := ⟨RX1, "depthAt", "(I)I"⟩
abbrev cX1_lowPartAt : ByteArray := prog_3_method_20_code
def yX1_lowPartAt : MethodName := ⟨RX1, "lowPartAt", "(I)I"⟩
abbrev cX1_highPartAt : ByteArray := prog_3_method_21_code
def yX1_highPartAt : MethodName := ⟨RX1, "highPartAt", "(I)I"⟩
abbrev cX1_howManyNodes : ByteArray := prog_3_method_22_code
def yX1_howManyNodes : MethodName := ⟨RX1, "howManyNodes", "()I"⟩
abbrev cX1_howManyLeaves : ByteArray := prog_3_method_23_code
def yX1_howManyLeaves : MethodName := ⟨RX1, "howManyLeaves", "()I"⟩
abbrev cX1_deepest : ByteArray := prog_3_method_24_code
def yX1_deepest : MethodName := ⟨RX1, "deepest", "()I"⟩
def RX2 : String := "BeanGroves"
def TX2 : u_T := fun k => match k with
  | 0 => ("BeanGroves", "beans", "LBeanGroves$Beans;", true)
  | 1 => ("BeanGroves", "trees", "[LBeanGroves$Tree;", true)
  | 2 => ("BeanGroves", "trial", "LBeanGroves$Tree;", true)
  | 3 => ("BeanGroves", "standing", "I", false)
  | 4 => ("BeanGroves", "depth", "I", false)
  | _ => ("BeanGroves", "least", "I", false)
def tyX2 : Nat → FieldType := fun k => match k with
  | 0 => .object "BeanGroves$Beans"
  | 1 => .array (.object "BeanGroves$Tree")
  | 2 => .object "BeanGroves$Tree"
  | 3 => .int
  | 4 => .int
  | _ => .int
abbrev wsX20 : List Cond := u_ws RX2 TX2 6
theorem nmX2 : ∀ a, a < 6 → ∀ b, b < 6 → a ≠ b → (TX2 a).2.1 ≠ (TX2 b).2.1 := by decide +kernel
theorem tyX2_ok : ∀ k, k < 6 → parseFieldDescriptor (TX2 k).2.2.1 = some (tyX2 k) := by decide +kernel
abbrev cX2_init : ByteArray := prog_1_method_1_code
def yX2_init : MethodName := ⟨RX2, "<init>", "()V"⟩
abbrev cX2_bean : ByteArray := prog_1_method_2_code
def yX2_bean : MethodName := ⟨RX2, "bean", "(IIII)I"⟩
abbrev cX2_check : ByteArray := prog_1_method_4_code
def yX2_check : MethodName := ⟨RX2, "check", "(IZ)Z"⟩
abbrev cX2_setDepth : ByteArray := prog_1_method_5_code
def yX2_setDepth : MethodName := ⟨RX2, "setDepth", "(I)I"⟩
abbrev cX2_setLeast : ByteArray := prog_1_method_6_code
def yX2_setLeast : MethodName := ⟨RX2, "setLeast", "(I)I"⟩
abbrev cX2_plant : ByteArray := prog_1_method_7_code
def yX2_plant : MethodName := ⟨RX2, "plant", "(II)I"⟩
abbrev cX2_fell : ByteArray := prog_1_method_8_code
def yX2_fell : MethodName := ⟨RX2, "fell", "(I)I"⟩
abbrev cX2_prune : ByteArray := prog_1_method_9_code
def yX2_prune : MethodName := ⟨RX2, "prune", "(I)I"⟩
abbrev cX2_node : ByteArray := prog_1_method_10_code
def yX2_node : MethodName := ⟨RX2, "node", "(III)I"⟩
abbrev cX2_about : ByteArray := prog_1_method_11_code
def yX2_about : MethodName := ⟨RX2, "about", "(II)I"⟩
abbrev cX2_told : ByteArray := prog_1_method_12_code
def yX2_told : MethodName := ⟨RX2, "told", "(II)I"⟩
abbrev cX2_count : ByteArray := prog_1_method_15_code
def yX2_count : MethodName := ⟨RX2, "count", "(I)I"⟩
abbrev cX2_gain : ByteArray := prog_1_method_16_code
def yX2_gain : MethodName := ⟨RX2, "gain", "(III)I"⟩
abbrev cX2_best : ByteArray := prog_1_method_17_code
def yX2_best : MethodName := ⟨RX2, "best", "(I)I"⟩
abbrev cX2_would : ByteArray := prog_1_method_18_code
def yX2_would : MethodName := ⟨RX2, "would", "(III)I"⟩
abbrev cX2_advise : ByteArray := prog_1_method_19_code
def yX2_advise : MethodName := ⟨RX2, "advise", "()I"⟩
abbrev cX2_mean : ByteArray := prog_1_method_20_code
def yX2_mean : MethodName := ⟨RX2, "mean", "()D"⟩
abbrev cX2_digest : ByteArray := prog_1_method_21_code
def yX2_digest : MethodName := ⟨RX2, "digest", "()J"⟩
abbrev cX2_digestTree : ByteArray := prog_1_method_22_code
def yX2_digestTree : MethodName := ⟨RX2, "digestTree", "(JI)J"⟩
abbrev cX2_votedFor : ByteArray := prog_1_method_23_code
def yX2_votedFor : MethodName := ⟨RX2, "votedFor", "(III)I"⟩
abbrev cX2_votedRight : ByteArray := prog_1_method_24_code
def yX2_votedRight : MethodName := ⟨RX2, "votedRight", "(I)I"⟩
abbrev cX2_isBean : ByteArray := prog_1_method_25_code
def yX2_isBean : MethodName := ⟨RX2, "isBean", "(I)Z"⟩
abbrev cX2_isTree : ByteArray := prog_1_method_26_code
def yX2_isTree : MethodName := ⟨RX2, "isTree", "(I)Z"⟩
abbrev cX2_isMeasure : ByteArray := prog_1_method_27_code
def yX2_isMeasure : MethodName := ⟨RX2, "isMeasure", "(I)Z"⟩
abbrev cX2_areMeasures : ByteArray := prog_1_method_28_code
def yX2_areMeasures : MethodName := ⟨RX2, "areMeasures", "(III)Z"⟩
abbrev cX2_isSort : ByteArray := prog_1_method_29_code
def yX2_isSort : MethodName := ⟨RX2, "isSort", "(I)Z"⟩
abbrev cX2_isDepth : ByteArray := prog_1_method_30_code
def yX2_isDepth : MethodName := ⟨RX2, "isDepth", "(I)Z"⟩
abbrev cX2_isLeast : ByteArray := prog_1_method_31_code
def yX2_isLeast : MethodName := ⟨RX2, "isLeast", "(I)Z"⟩
abbrev cX2_isIn : ByteArray := prog_1_method_32_code
def yX2_isIn : MethodName := ⟨RX2, "isIn", "(II)Z"⟩
abbrev cX2_measureOfCut : ByteArray := prog_1_method_33_code
def yX2_measureOfCut : MethodName := ⟨RX2, "measureOfCut", "(I)I"⟩
abbrev cX2_numberOfCut : ByteArray := prog_1_method_34_code
def yX2_numberOfCut : MethodName := ⟨RX2, "numberOfCut", "(I)I"⟩
abbrev cX2_gainBelow : ByteArray := prog_1_method_35_code
def yX2_gainBelow : MethodName := ⟨RX2, "gainBelow", "(II)I"⟩
abbrev cX2_commonDivisor : ByteArray := prog_1_method_36_code
def yX2_commonDivisor : MethodName := ⟨RX2, "commonDivisor", "(II)I"⟩
def RX3 : String := "BeanGrovesModel"
def TX3 : u_T := fun k => match k with
  | _ => ("", "", "", false)
def tyX3 : Nat → FieldType := fun k => match k with
  | _ => .int
abbrev wsX30 : List Cond := u_ws RX3 TX3 0
theorem nmX3 : ∀ a, a < 0 → ∀ b, b < 0 → a ≠ b → (TX3 a).2.1 ≠ (TX3 b).2.1 := by decide +kernel
theorem tyX3_ok : ∀ k, k < 0 → parseFieldDescriptor (TX3 k).2.2.1 = some (tyX3 k) := by decide +kernel
def RJ6 : String := "java/lang/Integer"
def TJ6 : u_T := fun k => match k with
  | _ => ("", "", "", false)
def tyJ6 : Nat → FieldType := fun k => match k with
  | _ => .int
abbrev wsJ60 : List Cond := u_ws RJ6 TJ6 0
theorem nmJ6 : ∀ a, a < 0 → ∀ b, b < 0 → a ≠ b → (TJ6 a).2.1 ≠ (TJ6 b).2.1 := by decide +kernel
theorem tyJ6_ok : ∀ k, k < 0 → parseFieldDescriptor (TJ6 k).2.2.1 = some (tyJ6 k) := by decide +kernel
abbrev cJ6_bitCount_0f7a4 : ByteArray := prog_10_method_49_code
def yJ6_bitCount_0f7a4 : MethodName := ⟨RJ6, "bitCount", "(I)I"⟩
def RJ9 : String := "java/lang/Math"
def TJ9 : u_T := fun k => match k with
  | _ => ("", "", "", false)
def tyJ9 : Nat → FieldType := fun k => match k with
  | _ => .int
abbrev wsJ90 : List Cond := u_ws RJ9 TJ9 0
theorem nmJ9 : ∀ a, a < 0 → ∀ b, b < 0 → a ≠ b → (TJ9 a).2.1 ≠ (TJ9 b).2.1 := by decide +kernel
theorem tyJ9_ok : ∀ k, k < 0 → parseFieldDescriptor (TJ9 k).2.2.1 = some (tyJ9 k) := by decide +kernel
abbrev cJ9_max_7cf53 : ByteArray := prog_11_method_65_code
def yJ9_max_7cf53 : MethodName := ⟨RJ9, "max", "(II)I"⟩
abbrev cJ9_min_7cf53 : ByteArray := prog_11_method_69_code
def yJ9_min_7cf53 : MethodName := ⟨RJ9, "min", "(II)I"⟩
def RJ0 : String := "java/lang/String"
def TJ0 : u_T := fun k => match k with
  | _ => ("", "", "", false)
def tyJ0 : Nat → FieldType := fun k => match k with
  | _ => .int
abbrev wsJ00 : List Cond := u_ws RJ0 TJ0 0
theorem nmJ0 : ∀ a, a < 0 → ∀ b, b < 0 → a ≠ b → (TJ0 a).2.1 ≠ (TJ0 b).2.1 := by decide +kernel
theorem tyJ0_ok : ∀ k, k < 0 → parseFieldDescriptor (TJ0 k).2.2.1 = some (tyJ0 k) := by decide +kernel
def RL : String := "BeanGrovesLaw"
abbrev cL_below : ByteArray := method_2_code
def yL_below : MethodName := ⟨RL, "below", "(II)I"⟩
abbrev cL_cell : ByteArray := method_3_code
def yL_cell : MethodName := ⟨RL, "cell", "([II)I"⟩
abbrev cL_beansOf : ByteArray := method_4_code
def yL_beansOf : MethodName := ⟨RL, "beansOf", "([I)I"⟩
abbrev cL_beanOf : ByteArray := method_5_code
def yL_beanOf : MethodName := ⟨RL, "beanOf", "([II)[I"⟩
abbrev cL_sorter : ByteArray := method_6_code
def yL_sorter : MethodName := ⟨RL, "sorter", "([I)LBeanGroves;"⟩
abbrev cL_law : ByteArray := code
def yL_law : MethodName := ⟨RL, "law", "([I)Z"⟩
abbrev vwCl : List vw_C := [(RX0, TX0, 6), (RX1, TX1, 9), (RX2, TX2, 6)]
end
section
theorem dX0_init_0 : decode cX0_init 0 = .ok (.aload_n 0, 1) := by decide +kernel
theorem dX0_init_1 : decode cX0_init 1 = .ok (.invokespecial 3, 3) := by decide +kernel
theorem dX0_init_4 : decode cX0_init 4 = .ok (.aload_n 0, 1) := by decide +kernel
theorem dX0_init_5 : decode cX0_init 5 = .ok (.iconst 3, 1) := by decide +kernel
theorem dX0_init_6 : decode cX0_init 6 = .ok (.bipush 20, 2) := by decide +kernel
theorem dX0_init_8 : decode cX0_init 8 = .ok (.multianewarray 9 2, 4) := by decide +kernel
theorem dX0_init_12 : decode cX0_init 12 = .ok (.putfield 11, 3) := by decide +kernel
theorem dX0_init_15 : decode cX0_init 15 = .ok (.aload_n 0, 1) := by decide +kernel
theorem dX0_init_16 : decode cX0_init 16 = .ok (.bipush 20, 2) := by decide +kernel
theorem dX0_init_18 : decode cX0_init 18 = .ok (.newarray .int, 2) := by decide +kernel
theorem dX0_init_20 : decode cX0_init 20 = .ok (.putfield 16, 3) := by decide +kernel
theorem dX0_init_23 : decode cX0_init 23 = .ok (.aload_n 0, 1) := by decide +kernel
theorem dX0_init_24 : decode cX0_init 24 = .ok (.iconst 3, 1) := by decide +kernel
theorem dX0_init_25 : decode cX0_init 25 = .ok (.newarray .int, 2) := by decide +kernel
theorem dX0_init_27 : decode cX0_init 27 = .ok (.putfield 20, 3) := by decide +kernel
theorem dX0_init_30 : decode cX0_init 30 = .ok (.aload_n 0, 1) := by decide +kernel
theorem dX0_init_31 : decode cX0_init 31 = .ok (.sipush 153, 3) := by decide +kernel
theorem dX0_init_34 : decode cX0_init 34 = .ok (.newarray .int, 2) := by decide +kernel
theorem dX0_init_36 : decode cX0_init 36 = .ok (.putfield 23, 3) := by decide +kernel
theorem dX0_init_39 : decode cX0_init 39 = .ok (.aload_n 0, 1) := by decide +kernel
theorem dX0_init_40 : decode cX0_init 40 = .ok (.iconst 0, 1) := by decide +kernel
theorem dX0_init_41 : decode cX0_init 41 = .ok (.putfield 26, 3) := by decide +kernel
theorem dX0_init_44 : decode cX0_init 44 = .ok (.aload_n 0, 1) := by decide +kernel
theorem dX0_init_45 : decode cX0_init 45 = .ok (.iconst 0, 1) := by decide +kernel
theorem dX0_init_46 : decode cX0_init 46 = .ok (.putfield 30, 3) := by decide +kernel
theorem dX0_init_49 : decode cX0_init 49 = .ok (.return_, 1) := by decide +kernel
theorem dX0_howMany_0 : decode cX0_howMany 0 = .ok (.aload_n 0, 1) := by decide +kernel
theorem dX0_howMany_1 : decode cX0_howMany 1 = .ok (.getfield 26, 3) := by decide +kernel
theorem dX0_howMany_4 : decode cX0_howMany 4 = .ok (.ireturn, 1) := by decide +kernel
theorem dX0_add_0 : decode cX0_add 0 = .ok (.aload_n 0, 1) := by decide +kernel
theorem dX0_add_1 : decode cX0_add 1 = .ok (.getfield 26, 3) := by decide +kernel
theorem dX0_add_4 : decode cX0_add 4 = .ok (.istore 5, 2) := by decide +kernel
theorem dX0_add_6 : decode cX0_add 6 = .ok (.aload_n 0, 1) := by decide +kernel
theorem dX0_add_7 : decode cX0_add 7 = .ok (.dup, 1) := by decide +kernel
theorem dX0_add_8 : decode cX0_add 8 = .ok (.getfield 26, 3) := by decide +kernel
theorem dX0_add_11 : decode cX0_add 11 = .ok (.iconst 1, 1) := by decide +kernel
theorem dX0_add_12 : decode cX0_add 12 = .ok (.iadd, 1) := by decide +kernel
theorem dX0_add_13 : decode cX0_add 13 = .ok (.putfield 26, 3) := by decide +kernel
theorem dX0_add_16 : decode cX0_add 16 = .ok (.aload_n 0, 1) := by decide +kernel
theorem dX0_add_17 : decode cX0_add 17 = .ok (.iload 5, 2) := by decide +kernel
theorem dX0_add_19 : decode cX0_add 19 = .ok (.iconst 0, 1) := by decide +kernel
theorem dX0_add_20 : decode cX0_add 20 = .ok (.iload_n 1, 1) := by decide +kernel
theorem dX0_add_21 : decode cX0_add 21 = .ok (.invokevirtual 33, 3) := by decide +kernel
theorem dX0_add_24 : decode cX0_add 24 = .ok (.aload_n 0, 1) := by decide +kernel
theorem dX0_add_25 : decode cX0_add 25 = .ok (.iload 5, 2) := by decide +kernel
theorem dX0_add_27 : decode cX0_add 27 = .ok (.iconst 1, 1) := by decide +kernel
theorem dX0_add_28 : decode cX0_add 28 = .ok (.iload_n 2, 1) := by decide +kernel
theorem dX0_add_29 : decode cX0_add 29 = .ok (.invokevirtual 33, 3) := by decide +kernel
theorem dX0_add_32 : decode cX0_add 32 = .ok (.aload_n 0, 1) := by decide +kernel
theorem dX0_add_33 : decode cX0_add 33 = .ok (.iload 5, 2) := by decide +kernel
theorem dX0_add_35 : decode cX0_add 35 = .ok (.iconst 2, 1) := by decide +kernel
theorem dX0_add_36 : decode cX0_add 36 = .ok (.iload_n 3, 1) := by decide +kernel
theorem dX0_add_37 : decode cX0_add 37 = .ok (.invokevirtual 33, 3) := by decide +kernel
theorem dX0_add_40 : decode cX0_add 40 = .ok (.aload_n 0, 1) := by decide +kernel
theorem dX0_add_41 : decode cX0_add 41 = .ok (.getfield 16, 3) := by decide +kernel
theorem dX0_add_44 : decode cX0_add 44 = .ok (.iload 5, 2) := by decide +kernel
theorem dX0_add_46 : decode cX0_add 46 = .ok (.iload 4, 2) := by decide +kernel
theorem dX0_add_48 : decode cX0_add 48 = .ok (.iastore, 1) := by decide +kernel
theorem dX0_add_49 : decode cX0_add 49 = .ok (.aload_n 0, 1) := by decide +kernel
theorem dX0_add_50 : decode cX0_add 50 = .ok (.getfield 20, 3) := by decide +kernel
theorem dX0_add_53 : decode cX0_add 53 = .ok (.iload 4, 2) := by decide +kernel
theorem dX0_add_55 : decode cX0_add 55 = .ok (.dup2, 1) := by decide +kernel
theorem dX0_add_56 : decode cX0_add 56 = .ok (.iaload, 1) := by decide +kernel
theorem dX0_add_57 : decode cX0_add 57 = .ok (.iconst 1, 1) := by decide +kernel
theorem dX0_add_58 : decode cX0_add 58 = .ok (.iload 5, 2) := by decide +kernel
theorem dX0_add_60 : decode cX0_add 60 = .ok (.ishl, 1) := by decide +kernel
theorem dX0_add_61 : decode cX0_add 61 = .ok (.ior, 1) := by decide +kernel
theorem dX0_add_62 : decode cX0_add 62 = .ok (.iastore, 1) := by decide +kernel
theorem dX0_add_63 : decode cX0_add 63 = .ok (.iload 5, 2) := by decide +kernel
theorem dX0_add_65 : decode cX0_add 65 = .ok (.ireturn, 1) := by decide +kernel
theorem dX0_addMeasure_0 : decode cX0_addMeasure 0 = .ok (.aload_n 0, 1) := by decide +kernel
theorem dX0_addMeasure_1 : decode cX0_addMeasure 1 = .ok (.getfield 11, 3) := by decide +kernel
theorem dX0_addMeasure_4 : decode cX0_addMeasure 4 = .ok (.iload_n 2, 1) := by decide +kernel
theorem dX0_addMeasure_5 : decode cX0_addMeasure 5 = .ok (.aaload, 1) := by decide +kernel
theorem dX0_addMeasure_6 : decode cX0_addMeasure 6 = .ok (.iload_n 1, 1) := by decide +kernel
theorem dX0_addMeasure_7 : decode cX0_addMeasure 7 = .ok (.iload_n 3, 1) := by decide +kernel
theorem dX0_addMeasure_8 : decode cX0_addMeasure 8 = .ok (.iastore, 1) := by decide +kernel
theorem dX0_addMeasure_9 : decode cX0_addMeasure 9 = .ok (.iload_n 3, 1) := by decide +kernel
theorem dX0_addMeasure_10 : decode cX0_addMeasure 10 = .ok (.istore 4, 2) := by decide +kernel
theorem dX0_addMeasure_12 : decode cX0_addMeasure 12 = .ok (.iload 4, 2) := by decide +kernel
theorem dX0_addMeasure_14 : decode cX0_addMeasure 14 = .ok (.bipush 51, 2) := by decide +kernel
theorem dX0_addMeasure_16 : decode cX0_addMeasure 16 = .ok (.if_icmp .ge 27, 3) := by decide +kernel
theorem dX0_addMeasure_19 : decode cX0_addMeasure 19 = .ok (.aload_n 0, 1) := by decide +kernel
theorem dX0_addMeasure_20 : decode cX0_addMeasure 20 = .ok (.getfield 23, 3) := by decide +kernel
theorem dX0_addMeasure_23 : decode cX0_addMeasure 23 = .ok (.iload_n 2, 1) := by decide +kernel
theorem dX0_addMeasure_24 : decode cX0_addMeasure 24 = .ok (.bipush 51, 2) := by decide +kernel
theorem dX0_addMeasure_26 : decode cX0_addMeasure 26 = .ok (.imul, 1) := by decide +kernel
theorem dX0_addMeasure_27 : decode cX0_addMeasure 27 = .ok (.iload 4, 2) := by decide +kernel
theorem dX0_addMeasure_29 : decode cX0_addMeasure 29 = .ok (.iadd, 1) := by decide +kernel
theorem dX0_addMeasure_30 : decode cX0_addMeasure 30 = .ok (.dup2, 1) := by decide +kernel
theorem dX0_addMeasure_31 : decode cX0_addMeasure 31 = .ok (.iaload, 1) := by decide +kernel
theorem dX0_addMeasure_32 : decode cX0_addMeasure 32 = .ok (.iconst 1, 1) := by decide +kernel
theorem dX0_addMeasure_33 : decode cX0_addMeasure 33 = .ok (.iload_n 1, 1) := by decide +kernel
theorem dX0_addMeasure_34 : decode cX0_addMeasure 34 = .ok (.ishl, 1) := by decide +kernel
theorem dX0_addMeasure_35 : decode cX0_addMeasure 35 = .ok (.ior, 1) := by decide +kernel
theorem dX0_addMeasure_36 : decode cX0_addMeasure 36 = .ok (.iastore, 1) := by decide +kernel
theorem dX0_addMeasure_37 : decode cX0_addMeasure 37 = .ok (.iinc 4 1, 3) := by decide +kernel
theorem dX0_addMeasure_40 : decode cX0_addMeasure 40 = .ok (.goto (-28), 3) := by decide +kernel
theorem dX0_addMeasure_43 : decode cX0_addMeasure 43 = .ok (.return_, 1) := by decide +kernel
theorem dX0_measureOf_0 : decode cX0_measureOf 0 = .ok (.aload_n 0, 1) := by decide +kernel
theorem dX0_measureOf_1 : decode cX0_measureOf 1 = .ok (.getfield 11, 3) := by decide +kernel
theorem dX0_measureOf_4 : decode cX0_measureOf 4 = .ok (.iload_n 2, 1) := by decide +kernel
theorem dX0_measureOf_5 : decode cX0_measureOf 5 = .ok (.aaload, 1) := by decide +kernel
theorem dX0_measureOf_6 : decode cX0_measureOf 6 = .ok (.iload_n 1, 1) := by decide +kernel
theorem dX0_measureOf_7 : decode cX0_measureOf 7 = .ok (.iaload, 1) := by decide +kernel
theorem dX0_measureOf_8 : decode cX0_measureOf 8 = .ok (.ireturn, 1) := by decide +kernel
theorem dX0_sortOf_0 : decode cX0_sortOf 0 = .ok (.aload_n 0, 1) := by decide +kernel
theorem dX0_sortOf_1 : decode cX0_sortOf 1 = .ok (.getfield 16, 3) := by decide +kernel
theorem dX0_sortOf_4 : decode cX0_sortOf 4 = .ok (.iload_n 1, 1) := by decide +kernel
theorem dX0_sortOf_5 : decode cX0_sortOf 5 = .ok (.iaload, 1) := by decide +kernel
theorem dX0_sortOf_6 : decode cX0_sortOf 6 = .ok (.ireturn, 1) := by decide +kernel
theorem dX0_isCheck_0 : decode cX0_isCheck 0 = .ok (.aload_n 0, 1) := by decide +kernel
theorem dX0_isCheck_1 : decode cX0_isCheck 1 = .ok (.getfield 30, 3) := by decide +kernel
theorem dX0_isCheck_4 : decode cX0_isCheck 4 = .ok (.iload_n 1, 1) := by decide +kernel
theorem dX0_isCheck_5 : decode cX0_isCheck 5 = .ok (.invokestatic 37, 3) := by decide +kernel
theorem dX0_isCheck_8 : decode cX0_isCheck 8 = .ok (.ireturn, 1) := by decide +kernel
theorem dX0_makeCheck_0 : decode cX0_makeCheck 0 = .ok (.aload_n 0, 1) := by decide +kernel
theorem dX0_makeCheck_1 : decode cX0_makeCheck 1 = .ok (.iload_n 2, 1) := by decide +kernel
theorem dX0_makeCheck_2 : decode cX0_makeCheck 2 = .ok (.ifCond .eq 14, 3) := by decide +kernel
theorem dX0_makeCheck_5 : decode cX0_makeCheck 5 = .ok (.aload_n 0, 1) := by decide +kernel
theorem dX0_makeCheck_6 : decode cX0_makeCheck 6 = .ok (.getfield 30, 3) := by decide +kernel
theorem dX0_makeCheck_9 : decode cX0_makeCheck 9 = .ok (.iconst 1, 1) := by decide +kernel
theorem dX0_makeCheck_10 : decode cX0_makeCheck 10 = .ok (.iload_n 1, 1) := by decide +kernel
theorem dX0_makeCheck_11 : decode cX0_makeCheck 11 = .ok (.ishl, 1) := by decide +kernel
theorem dX0_makeCheck_12 : decode cX0_makeCheck 12 = .ok (.ior, 1) := by decide +kernel
theorem dX0_makeCheck_13 : decode cX0_makeCheck 13 = .ok (.goto 13, 3) := by decide +kernel
theorem dX0_makeCheck_16 : decode cX0_makeCheck 16 = .ok (.aload_n 0, 1) := by decide +kernel
theorem dX0_makeCheck_17 : decode cX0_makeCheck 17 = .ok (.getfield 30, 3) := by decide +kernel
theorem dX0_makeCheck_20 : decode cX0_makeCheck 20 = .ok (.iconst 1, 1) := by decide +kernel
theorem dX0_makeCheck_21 : decode cX0_makeCheck 21 = .ok (.iload_n 1, 1) := by decide +kernel
theorem dX0_makeCheck_22 : decode cX0_makeCheck 22 = .ok (.ishl, 1) := by decide +kernel
theorem dX0_makeCheck_23 : decode cX0_makeCheck 23 = .ok (.iconst (-1), 1) := by decide +kernel
theorem dX0_makeCheck_24 : decode cX0_makeCheck 24 = .ok (.ixor, 1) := by decide +kernel
theorem dX0_makeCheck_25 : decode cX0_makeCheck 25 = .ok (.iand, 1) := by decide +kernel
theorem dX0_makeCheck_26 : decode cX0_makeCheck 26 = .ok (.putfield 30, 3) := by decide +kernel
theorem dX0_makeCheck_29 : decode cX0_makeCheck 29 = .ok (.return_, 1) := by decide +kernel
theorem dX0_checks_0 : decode cX0_checks 0 = .ok (.aload_n 0, 1) := by decide +kernel
theorem dX0_checks_1 : decode cX0_checks 1 = .ok (.getfield 30, 3) := by decide +kernel
theorem dX0_checks_4 : decode cX0_checks 4 = .ok (.ireturn, 1) := by decide +kernel
theorem dX0_growing_0 : decode cX0_growing 0 = .ok (.iconst 1, 1) := by decide +kernel
theorem dX0_growing_1 : decode cX0_growing 1 = .ok (.aload_n 0, 1) := by decide +kernel
theorem dX0_growing_2 : decode cX0_growing 2 = .ok (.getfield 26, 3) := by decide +kernel
theorem dX0_growing_5 : decode cX0_growing 5 = .ok (.ishl, 1) := by decide +kernel
theorem dX0_growing_6 : decode cX0_growing 6 = .ok (.iconst 1, 1) := by decide +kernel
theorem dX0_growing_7 : decode cX0_growing 7 = .ok (.isub, 1) := by decide +kernel
theorem dX0_growing_8 : decode cX0_growing 8 = .ok (.aload_n 0, 1) := by decide +kernel
theorem dX0_growing_9 : decode cX0_growing 9 = .ok (.getfield 30, 3) := by decide +kernel
theorem dX0_growing_12 : decode cX0_growing 12 = .ok (.iconst (-1), 1) := by decide +kernel
theorem dX0_growing_13 : decode cX0_growing 13 = .ok (.ixor, 1) := by decide +kernel
theorem dX0_growing_14 : decode cX0_growing 14 = .ok (.iand, 1) := by decide +kernel
theorem dX0_growing_15 : decode cX0_growing 15 = .ok (.ireturn, 1) := by decide +kernel
theorem dX0_growingBut_0 : decode cX0_growingBut 0 = .ok (.aload_n 0, 1) := by decide +kernel
theorem dX0_growingBut_1 : decode cX0_growingBut 1 = .ok (.invokevirtual 41, 3) := by decide +kernel
theorem dX0_growingBut_4 : decode cX0_growingBut 4 = .ok (.istore_n 3, 1) := by decide +kernel
theorem dX0_growingBut_5 : decode cX0_growingBut 5 = .ok (.iconst 0, 1) := by decide +kernel
theorem dX0_growingBut_6 : decode cX0_growingBut 6 = .ok (.istore 4, 2) := by decide +kernel
theorem dX0_growingBut_8 : decode cX0_growingBut 8 = .ok (.iload 4, 2) := by decide +kernel
theorem dX0_growingBut_10 : decode cX0_growingBut 10 = .ok (.aload_n 0, 1) := by decide +kernel
theorem dX0_growingBut_11 : decode cX0_growingBut 11 = .ok (.getfield 26, 3) := by decide +kernel
theorem dX0_growingBut_14 : decode cX0_growingBut 14 = .ok (.if_icmp .ge 30, 3) := by decide +kernel
theorem dX0_growingBut_17 : decode cX0_growingBut 17 = .ok (.iload_n 1, 1) := by decide +kernel
theorem dX0_growingBut_18 : decode cX0_growingBut 18 = .ok (.ifCond .le 20, 3) := by decide +kernel
theorem dX0_growingBut_21 : decode cX0_growingBut 21 = .ok (.iload 4, 2) := by decide +kernel
theorem dX0_growingBut_23 : decode cX0_growingBut 23 = .ok (.iload_n 1, 1) := by decide +kernel
theorem dX0_growingBut_24 : decode cX0_growingBut 24 = .ok (.irem, 1) := by decide +kernel
theorem dX0_growingBut_25 : decode cX0_growingBut 25 = .ok (.iload_n 2, 1) := by decide +kernel
theorem dX0_growingBut_26 : decode cX0_growingBut 26 = .ok (.if_icmp .ne 12, 3) := by decide +kernel
theorem dX0_growingBut_29 : decode cX0_growingBut 29 = .ok (.iload_n 3, 1) := by decide +kernel
theorem dX0_growingBut_30 : decode cX0_growingBut 30 = .ok (.iconst 1, 1) := by decide +kernel
theorem dX0_growingBut_31 : decode cX0_growingBut 31 = .ok (.iload 4, 2) := by decide +kernel
theorem dX0_growingBut_33 : decode cX0_growingBut 33 = .ok (.ishl, 1) := by decide +kernel
theorem dX0_growingBut_34 : decode cX0_growingBut 34 = .ok (.iconst (-1), 1) := by decide +kernel
theorem dX0_growingBut_35 : decode cX0_growingBut 35 = .ok (.ixor, 1) := by decide +kernel
theorem dX0_growingBut_36 : decode cX0_growingBut 36 = .ok (.iand, 1) := by decide +kernel
theorem dX0_growingBut_37 : decode cX0_growingBut 37 = .ok (.istore_n 3, 1) := by decide +kernel
theorem dX0_growingBut_38 : decode cX0_growingBut 38 = .ok (.iinc 4 1, 3) := by decide +kernel
theorem dX0_growingBut_41 : decode cX0_growingBut 41 = .ok (.goto (-33), 3) := by decide +kernel
theorem dX0_growingBut_44 : decode cX0_growingBut 44 = .ok (.iload_n 3, 1) := by decide +kernel
theorem dX0_growingBut_45 : decode cX0_growingBut 45 = .ok (.ireturn, 1) := by decide +kernel
theorem dX0_howManyOfSort_0 : decode cX0_howManyOfSort 0 = .ok (.iload_n 1, 1) := by decide +kernel
theorem dX0_howManyOfSort_1 : decode cX0_howManyOfSort 1 = .ok (.aload_n 0, 1) := by decide +kernel
theorem dX0_howManyOfSort_2 : decode cX0_howManyOfSort 2 = .ok (.getfield 20, 3) := by decide +kernel
theorem dX0_howManyOfSort_5 : decode cX0_howManyOfSort 5 = .ok (.iload_n 2, 1) := by decide +kernel
theorem dX0_howManyOfSort_6 : decode cX0_howManyOfSort 6 = .ok (.iaload, 1) := by decide +kernel
theorem dX0_howManyOfSort_7 : decode cX0_howManyOfSort 7 = .ok (.iand, 1) := by decide +kernel
theorem dX0_howManyOfSort_8 : decode cX0_howManyOfSort 8 = .ok (.invokestatic 45, 3) := by decide +kernel
theorem dX0_howManyOfSort_11 : decode cX0_howManyOfSort 11 = .ok (.ireturn, 1) := by decide +kernel
theorem dX0_mostOf_0 : decode cX0_mostOf 0 = .ok (.iconst 0, 1) := by decide +kernel
theorem dX0_mostOf_1 : decode cX0_mostOf 1 = .ok (.istore_n 2, 1) := by decide +kernel
theorem dX0_mostOf_2 : decode cX0_mostOf 2 = .ok (.iconst 1, 1) := by decide +kernel
theorem dX0_mostOf_3 : decode cX0_mostOf 3 = .ok (.istore_n 3, 1) := by decide +kernel
theorem dX0_mostOf_4 : decode cX0_mostOf 4 = .ok (.iload_n 3, 1) := by decide +kernel
theorem dX0_mostOf_5 : decode cX0_mostOf 5 = .ok (.iconst 3, 1) := by decide +kernel
theorem dX0_mostOf_6 : decode cX0_mostOf 6 = .ok (.if_icmp .ge 26, 3) := by decide +kernel
theorem dX0_mostOf_9 : decode cX0_mostOf 9 = .ok (.aload_n 0, 1) := by decide +kernel
theorem dX0_mostOf_10 : decode cX0_mostOf 10 = .ok (.iload_n 1, 1) := by decide +kernel
theorem dX0_mostOf_11 : decode cX0_mostOf 11 = .ok (.iload_n 3, 1) := by decide +kernel
theorem dX0_mostOf_12 : decode cX0_mostOf 12 = .ok (.invokevirtual 51, 3) := by decide +kernel
theorem dX0_mostOf_15 : decode cX0_mostOf 15 = .ok (.aload_n 0, 1) := by decide +kernel
theorem dX0_mostOf_16 : decode cX0_mostOf 16 = .ok (.iload_n 1, 1) := by decide +kernel
theorem dX0_mostOf_17 : decode cX0_mostOf 17 = .ok (.iload_n 2, 1) := by decide +kernel
theorem dX0_mostOf_18 : decode cX0_mostOf 18 = .ok (.invokevirtual 51, 3) := by decide +kernel
theorem dX0_mostOf_21 : decode cX0_mostOf 21 = .ok (.if_icmp .le 5, 3) := by decide +kernel
theorem dX0_mostOf_24 : decode cX0_mostOf 24 = .ok (.iload_n 3, 1) := by decide +kernel
theorem dX0_mostOf_25 : decode cX0_mostOf 25 = .ok (.istore_n 2, 1) := by decide +kernel
theorem dX0_mostOf_26 : decode cX0_mostOf 26 = .ok (.iinc 3 1, 3) := by decide +kernel
theorem dX0_mostOf_29 : decode cX0_mostOf 29 = .ok (.goto (-25), 3) := by decide +kernel
theorem dX0_mostOf_32 : decode cX0_mostOf 32 = .ok (.iload_n 2, 1) := by decide +kernel
theorem dX0_mostOf_33 : decode cX0_mostOf 33 = .ok (.ireturn, 1) := by decide +kernel
theorem dX0_lowOf_0 : decode cX0_lowOf 0 = .ok (.iload_n 1, 1) := by decide +kernel
theorem dX0_lowOf_1 : decode cX0_lowOf 1 = .ok (.aload_n 0, 1) := by decide +kernel
theorem dX0_lowOf_2 : decode cX0_lowOf 2 = .ok (.getfield 23, 3) := by decide +kernel
theorem dX0_lowOf_5 : decode cX0_lowOf 5 = .ok (.iload_n 2, 1) := by decide +kernel
theorem dX0_lowOf_6 : decode cX0_lowOf 6 = .ok (.iaload, 1) := by decide +kernel
theorem dX0_lowOf_7 : decode cX0_lowOf 7 = .ok (.iand, 1) := by decide +kernel
theorem dX0_lowOf_8 : decode cX0_lowOf 8 = .ok (.ireturn, 1) := by decide +kernel
theorem dX0_squares_0 : decode cX0_squares 0 = .ok (.iconst 0, 1) := by decide +kernel
theorem dX0_squares_1 : decode cX0_squares 1 = .ok (.istore_n 2, 1) := by decide +kernel
theorem dX0_squares_2 : decode cX0_squares 2 = .ok (.iconst 0, 1) := by decide +kernel
theorem dX0_squares_3 : decode cX0_squares 3 = .ok (.istore_n 3, 1) := by decide +kernel
theorem dX0_squares_4 : decode cX0_squares 4 = .ok (.iload_n 3, 1) := by decide +kernel
theorem dX0_squares_5 : decode cX0_squares 5 = .ok (.iconst 3, 1) := by decide +kernel
theorem dX0_squares_6 : decode cX0_squares 6 = .ok (.if_icmp .ge 25, 3) := by decide +kernel
theorem dX0_squares_9 : decode cX0_squares 9 = .ok (.aload_n 0, 1) := by decide +kernel
theorem dX0_squares_10 : decode cX0_squares 10 = .ok (.iload_n 1, 1) := by decide +kernel
theorem dX0_squares_11 : decode cX0_squares 11 = .ok (.iload_n 3, 1) := by decide +kernel
theorem dX0_squares_12 : decode cX0_squares 12 = .ok (.invokevirtual 51, 3) := by decide +kernel
theorem dX0_squares_15 : decode cX0_squares 15 = .ok (.istore 4, 2) := by decide +kernel
theorem dX0_squares_17 : decode cX0_squares 17 = .ok (.iload_n 2, 1) := by decide +kernel
theorem dX0_squares_18 : decode cX0_squares 18 = .ok (.iload 4, 2) := by decide +kernel
theorem dX0_squares_20 : decode cX0_squares 20 = .ok (.iload 4, 2) := by decide +kernel
theorem dX0_squares_22 : decode cX0_squares 22 = .ok (.imul, 1) := by decide +kernel
theorem dX0_squares_23 : decode cX0_squares 23 = .ok (.iadd, 1) := by decide +kernel
theorem dX0_squares_24 : decode cX0_squares 24 = .ok (.istore_n 2, 1) := by decide +kernel
theorem dX0_squares_25 : decode cX0_squares 25 = .ok (.iinc 3 1, 3) := by decide +kernel
theorem dX0_squares_28 : decode cX0_squares 28 = .ok (.goto (-24), 3) := by decide +kernel
theorem dX0_squares_31 : decode cX0_squares 31 = .ok (.iload_n 2, 1) := by decide +kernel
theorem dX0_squares_32 : decode cX0_squares 32 = .ok (.ireturn, 1) := by decide +kernel
theorem dX0_gainAbove_0 : decode cX0_gainAbove 0 = .ok (.iload_n 1, 1) := by decide +kernel
theorem dX0_gainAbove_1 : decode cX0_gainAbove 1 = .ok (.iload_n 2, 1) := by decide +kernel
theorem dX0_gainAbove_2 : decode cX0_gainAbove 2 = .ok (.iconst (-1), 1) := by decide +kernel
theorem dX0_gainAbove_3 : decode cX0_gainAbove 3 = .ok (.ixor, 1) := by decide +kernel
theorem dX0_gainAbove_4 : decode cX0_gainAbove 4 = .ok (.iand, 1) := by decide +kernel
theorem dX0_gainAbove_5 : decode cX0_gainAbove 5 = .ok (.istore_n 3, 1) := by decide +kernel
theorem dX0_gainAbove_6 : decode cX0_gainAbove 6 = .ok (.iload_n 1, 1) := by decide +kernel
theorem dX0_gainAbove_7 : decode cX0_gainAbove 7 = .ok (.invokestatic 45, 3) := by decide +kernel
theorem dX0_gainAbove_10 : decode cX0_gainAbove 10 = .ok (.istore 4, 2) := by decide +kernel
theorem dX0_gainAbove_12 : decode cX0_gainAbove 12 = .ok (.iload_n 2, 1) := by decide +kernel
theorem dX0_gainAbove_13 : decode cX0_gainAbove 13 = .ok (.invokestatic 45, 3) := by decide +kernel
theorem dX0_gainAbove_16 : decode cX0_gainAbove 16 = .ok (.istore 5, 2) := by decide +kernel
theorem dX0_gainAbove_18 : decode cX0_gainAbove 18 = .ok (.iload_n 3, 1) := by decide +kernel
theorem dX0_gainAbove_19 : decode cX0_gainAbove 19 = .ok (.invokestatic 45, 3) := by decide +kernel
theorem dX0_gainAbove_22 : decode cX0_gainAbove 22 = .ok (.istore 6, 2) := by decide +kernel
theorem dX0_gainAbove_24 : decode cX0_gainAbove 24 = .ok (.aload_n 0, 1) := by decide +kernel
theorem dX0_gainAbove_25 : decode cX0_gainAbove 25 = .ok (.iload_n 2, 1) := by decide +kernel
theorem dX0_gainAbove_26 : decode cX0_gainAbove 26 = .ok (.invokevirtual 55, 3) := by decide +kernel
theorem dX0_gainAbove_29 : decode cX0_gainAbove 29 = .ok (.iload 6, 2) := by decide +kernel
theorem dX0_gainAbove_31 : decode cX0_gainAbove 31 = .ok (.imul, 1) := by decide +kernel
theorem dX0_gainAbove_32 : decode cX0_gainAbove 32 = .ok (.iload 4, 2) := by decide +kernel
theorem dX0_gainAbove_34 : decode cX0_gainAbove 34 = .ok (.imul, 1) := by decide +kernel
theorem dX0_gainAbove_35 : decode cX0_gainAbove 35 = .ok (.aload_n 0, 1) := by decide +kernel
theorem dX0_gainAbove_36 : decode cX0_gainAbove 36 = .ok (.iload_n 3, 1) := by decide +kernel
theorem dX0_gainAbove_37 : decode cX0_gainAbove 37 = .ok (.invokevirtual 55, 3) := by decide +kernel
theorem dX0_gainAbove_40 : decode cX0_gainAbove 40 = .ok (.iload 5, 2) := by decide +kernel
theorem dX0_gainAbove_42 : decode cX0_gainAbove 42 = .ok (.imul, 1) := by decide +kernel
theorem dX0_gainAbove_43 : decode cX0_gainAbove 43 = .ok (.iload 4, 2) := by decide +kernel
theorem dX0_gainAbove_45 : decode cX0_gainAbove 45 = .ok (.imul, 1) := by decide +kernel
theorem dX0_gainAbove_46 : decode cX0_gainAbove 46 = .ok (.iadd, 1) := by decide +kernel
theorem dX0_gainAbove_47 : decode cX0_gainAbove 47 = .ok (.aload_n 0, 1) := by decide +kernel
theorem dX0_gainAbove_48 : decode cX0_gainAbove 48 = .ok (.iload_n 1, 1) := by decide +kernel
theorem dX0_gainAbove_49 : decode cX0_gainAbove 49 = .ok (.invokevirtual 55, 3) := by decide +kernel
theorem dX0_gainAbove_52 : decode cX0_gainAbove 52 = .ok (.iload 5, 2) := by decide +kernel
theorem dX0_gainAbove_54 : decode cX0_gainAbove 54 = .ok (.imul, 1) := by decide +kernel
theorem dX0_gainAbove_55 : decode cX0_gainAbove 55 = .ok (.iload 6, 2) := by decide +kernel
theorem dX0_gainAbove_57 : decode cX0_gainAbove 57 = .ok (.imul, 1) := by decide +kernel
theorem dX0_gainAbove_58 : decode cX0_gainAbove 58 = .ok (.isub, 1) := by decide +kernel
theorem dX0_gainAbove_59 : decode cX0_gainAbove 59 = .ok (.ireturn, 1) := by decide +kernel
theorem dX0_bestCut_0 : decode cX0_bestCut 0 = .ok (.iconst (-1), 1) := by decide +kernel
theorem dX0_bestCut_1 : decode cX0_bestCut 1 = .ok (.istore_n 3, 1) := by decide +kernel
theorem dX0_bestCut_2 : decode cX0_bestCut 2 = .ok (.lconst 0, 1) := by decide +kernel
theorem dX0_bestCut_3 : decode cX0_bestCut 3 = .ok (.lstore 4, 2) := by decide +kernel
theorem dX0_bestCut_5 : decode cX0_bestCut 5 = .ok (.lconst 1, 1) := by decide +kernel
theorem dX0_bestCut_6 : decode cX0_bestCut 6 = .ok (.lstore 6, 2) := by decide +kernel
theorem dX0_bestCut_8 : decode cX0_bestCut 8 = .ok (.iconst 0, 1) := by decide +kernel
theorem dX0_bestCut_9 : decode cX0_bestCut 9 = .ok (.istore 8, 2) := by decide +kernel
theorem dX0_bestCut_11 : decode cX0_bestCut 11 = .ok (.iload 8, 2) := by decide +kernel
theorem dX0_bestCut_13 : decode cX0_bestCut 13 = .ok (.iconst 3, 1) := by decide +kernel
theorem dX0_bestCut_14 : decode cX0_bestCut 14 = .ok (.if_icmp .ge 114, 3) := by decide +kernel
theorem dX0_bestCut_17 : decode cX0_bestCut 17 = .ok (.iconst 0, 1) := by decide +kernel
theorem dX0_bestCut_18 : decode cX0_bestCut 18 = .ok (.istore 9, 2) := by decide +kernel
theorem dX0_bestCut_20 : decode cX0_bestCut 20 = .ok (.iconst 0, 1) := by decide +kernel
theorem dX0_bestCut_21 : decode cX0_bestCut 21 = .ok (.istore 10, 2) := by decide +kernel
theorem dX0_bestCut_23 : decode cX0_bestCut 23 = .ok (.iload 10, 2) := by decide +kernel
theorem dX0_bestCut_25 : decode cX0_bestCut 25 = .ok (.bipush 50, 2) := by decide +kernel
theorem dX0_bestCut_27 : decode cX0_bestCut 27 = .ok (.if_icmp .ge 95, 3) := by decide +kernel
theorem dX0_bestCut_30 : decode cX0_bestCut 30 = .ok (.aload_n 0, 1) := by decide +kernel
theorem dX0_bestCut_31 : decode cX0_bestCut 31 = .ok (.iload_n 1, 1) := by decide +kernel
theorem dX0_bestCut_32 : decode cX0_bestCut 32 = .ok (.iload 8, 2) := by decide +kernel
theorem dX0_bestCut_34 : decode cX0_bestCut 34 = .ok (.bipush 51, 2) := by decide +kernel
theorem dX0_bestCut_36 : decode cX0_bestCut 36 = .ok (.imul, 1) := by decide +kernel
theorem dX0_bestCut_37 : decode cX0_bestCut 37 = .ok (.iload 10, 2) := by decide +kernel
theorem dX0_bestCut_39 : decode cX0_bestCut 39 = .ok (.iadd, 1) := by decide +kernel
theorem dX0_bestCut_40 : decode cX0_bestCut 40 = .ok (.invokevirtual 58, 3) := by decide +kernel
theorem dX0_bestCut_43 : decode cX0_bestCut 43 = .ok (.istore 11, 2) := by decide +kernel
theorem dX0_bestCut_45 : decode cX0_bestCut 45 = .ok (.iload 11, 2) := by decide +kernel
theorem dX0_bestCut_47 : decode cX0_bestCut 47 = .ok (.iload 9, 2) := by decide +kernel
theorem dX0_bestCut_49 : decode cX0_bestCut 49 = .ok (.if_icmp .eq 63, 3) := by decide +kernel
theorem dX0_bestCut_52 : decode cX0_bestCut 52 = .ok (.iload_n 1, 1) := by decide +kernel
theorem dX0_bestCut_53 : decode cX0_bestCut 53 = .ok (.iload 11, 2) := by decide +kernel
theorem dX0_bestCut_55 : decode cX0_bestCut 55 = .ok (.iload_n 2, 1) := by decide +kernel
theorem dX0_bestCut_56 : decode cX0_bestCut 56 = .ok (.invokestatic 61, 3) := by decide +kernel
theorem dX0_bestCut_59 : decode cX0_bestCut 59 = .ok (.ifCond .eq 53, 3) := by decide +kernel
theorem dX0_bestCut_62 : decode cX0_bestCut 62 = .ok (.aload_n 0, 1) := by decide +kernel
theorem dX0_bestCut_63 : decode cX0_bestCut 63 = .ok (.iload_n 1, 1) := by decide +kernel
theorem dX0_bestCut_64 : decode cX0_bestCut 64 = .ok (.iload 11, 2) := by decide +kernel
theorem dX0_bestCut_66 : decode cX0_bestCut 66 = .ok (.invokevirtual 65, 3) := by decide +kernel
theorem dX0_bestCut_69 : decode cX0_bestCut 69 = .ok (.i2l, 1) := by decide +kernel
theorem dX0_bestCut_70 : decode cX0_bestCut 70 = .ok (.lstore 12, 2) := by decide +kernel
theorem dX0_bestCut_72 : decode cX0_bestCut 72 = .ok (.iload_n 1, 1) := by decide +kernel
theorem dX0_bestCut_73 : decode cX0_bestCut 73 = .ok (.iload 11, 2) := by decide +kernel
theorem dX0_bestCut_75 : decode cX0_bestCut 75 = .ok (.invokestatic 68, 3) := by decide +kernel
theorem dX0_bestCut_78 : decode cX0_bestCut 78 = .ok (.i2l, 1) := by decide +kernel
theorem dX0_bestCut_79 : decode cX0_bestCut 79 = .ok (.lstore 14, 2) := by decide +kernel
theorem dX0_bestCut_81 : decode cX0_bestCut 81 = .ok (.lload 12, 2) := by decide +kernel
theorem dX0_bestCut_83 : decode cX0_bestCut 83 = .ok (.lload 6, 2) := by decide +kernel
theorem dX0_bestCut_85 : decode cX0_bestCut 85 = .ok (.lmul, 1) := by decide +kernel
theorem dX0_bestCut_86 : decode cX0_bestCut 86 = .ok (.lload 4, 2) := by decide +kernel
theorem dX0_bestCut_88 : decode cX0_bestCut 88 = .ok (.lload 14, 2) := by decide +kernel
theorem dX0_bestCut_90 : decode cX0_bestCut 90 = .ok (.lmul, 1) := by decide +kernel
theorem dX0_bestCut_91 : decode cX0_bestCut 91 = .ok (.lcmp, 1) := by decide +kernel
theorem dX0_bestCut_92 : decode cX0_bestCut 92 = .ok (.ifCond .le 20, 3) := by decide +kernel
theorem dX0_bestCut_95 : decode cX0_bestCut 95 = .ok (.iload 8, 2) := by decide +kernel
theorem dX0_bestCut_97 : decode cX0_bestCut 97 = .ok (.bipush 51, 2) := by decide +kernel
theorem dX0_bestCut_99 : decode cX0_bestCut 99 = .ok (.imul, 1) := by decide +kernel
theorem dX0_bestCut_100 : decode cX0_bestCut 100 = .ok (.iload 10, 2) := by decide +kernel
theorem dX0_bestCut_102 : decode cX0_bestCut 102 = .ok (.iadd, 1) := by decide +kernel
theorem dX0_bestCut_103 : decode cX0_bestCut 103 = .ok (.istore_n 3, 1) := by decide +kernel
theorem dX0_bestCut_104 : decode cX0_bestCut 104 = .ok (.lload 12, 2) := by decide +kernel
theorem dX0_bestCut_106 : decode cX0_bestCut 106 = .ok (.lstore 4, 2) := by decide +kernel
theorem dX0_bestCut_108 : decode cX0_bestCut 108 = .ok (.lload 14, 2) := by decide +kernel
theorem dX0_bestCut_110 : decode cX0_bestCut 110 = .ok (.lstore 6, 2) := by decide +kernel
theorem dX0_bestCut_112 : decode cX0_bestCut 112 = .ok (.iload 11, 2) := by decide +kernel
theorem dX0_bestCut_114 : decode cX0_bestCut 114 = .ok (.istore 9, 2) := by decide +kernel
theorem dX0_bestCut_116 : decode cX0_bestCut 116 = .ok (.iinc 10 1, 3) := by decide +kernel
theorem dX0_bestCut_119 : decode cX0_bestCut 119 = .ok (.goto (-96), 3) := by decide +kernel
theorem dX0_bestCut_122 : decode cX0_bestCut 122 = .ok (.iinc 8 1, 3) := by decide +kernel
theorem dX0_bestCut_125 : decode cX0_bestCut 125 = .ok (.goto (-114), 3) := by decide +kernel
theorem dX0_bestCut_128 : decode cX0_bestCut 128 = .ok (.iload_n 3, 1) := by decide +kernel
theorem dX0_bestCut_129 : decode cX0_bestCut 129 = .ok (.ireturn, 1) := by decide +kernel
theorem dX0_leavesBoth_0 : decode cX0_leavesBoth 0 = .ok (.iload_n 1, 1) := by decide +kernel
theorem dX0_leavesBoth_1 : decode cX0_leavesBoth 1 = .ok (.invokestatic 45, 3) := by decide +kernel
theorem dX0_leavesBoth_4 : decode cX0_leavesBoth 4 = .ok (.iload_n 2, 1) := by decide +kernel
theorem dX0_leavesBoth_5 : decode cX0_leavesBoth 5 = .ok (.if_icmp .lt 19, 3) := by decide +kernel
theorem dX0_leavesBoth_8 : decode cX0_leavesBoth 8 = .ok (.iload_n 0, 1) := by decide +kernel
theorem dX0_leavesBoth_9 : decode cX0_leavesBoth 9 = .ok (.iload_n 1, 1) := by decide +kernel
theorem dX0_leavesBoth_10 : decode cX0_leavesBoth 10 = .ok (.iconst (-1), 1) := by decide +kernel
theorem dX0_leavesBoth_11 : decode cX0_leavesBoth 11 = .ok (.ixor, 1) := by decide +kernel
theorem dX0_leavesBoth_12 : decode cX0_leavesBoth 12 = .ok (.iand, 1) := by decide +kernel
theorem dX0_leavesBoth_13 : decode cX0_leavesBoth 13 = .ok (.invokestatic 45, 3) := by decide +kernel
theorem dX0_leavesBoth_16 : decode cX0_leavesBoth 16 = .ok (.iload_n 2, 1) := by decide +kernel
theorem dX0_leavesBoth_17 : decode cX0_leavesBoth 17 = .ok (.if_icmp .lt 7, 3) := by decide +kernel
theorem dX0_leavesBoth_20 : decode cX0_leavesBoth 20 = .ok (.iconst 1, 1) := by decide +kernel
theorem dX0_leavesBoth_21 : decode cX0_leavesBoth 21 = .ok (.goto 4, 3) := by decide +kernel
theorem dX0_leavesBoth_24 : decode cX0_leavesBoth 24 = .ok (.iconst 0, 1) := by decide +kernel
theorem dX0_leavesBoth_25 : decode cX0_leavesBoth 25 = .ok (.ireturn, 1) := by decide +kernel
theorem dX1_init_0 : decode cX1_init 0 = .ok (.aload_n 0, 1) := by decide +kernel
theorem dX1_init_1 : decode cX1_init 1 = .ok (.invokespecial 3, 3) := by decide +kernel
theorem dX1_init_4 : decode cX1_init 4 = .ok (.aload_n 0, 1) := by decide +kernel
theorem dX1_init_5 : decode cX1_init 5 = .ok (.bipush 39, 2) := by decide +kernel
theorem dX1_init_7 : decode cX1_init 7 = .ok (.newarray .int, 2) := by decide +kernel
theorem dX1_init_9 : decode cX1_init 9 = .ok (.putfield 9, 3) := by decide +kernel
theorem dX1_init_12 : decode cX1_init 12 = .ok (.aload_n 0, 1) := by decide +kernel
theorem dX1_init_13 : decode cX1_init 13 = .ok (.bipush 39, 2) := by decide +kernel
theorem dX1_init_15 : decode cX1_init 15 = .ok (.newarray .int, 2) := by decide +kernel
theorem dX1_init_17 : decode cX1_init 17 = .ok (.putfield 15, 3) := by decide +kernel
theorem dX1_init_20 : decode cX1_init 20 = .ok (.aload_n 0, 1) := by decide +kernel
theorem dX1_init_21 : decode cX1_init 21 = .ok (.bipush 39, 2) := by decide +kernel
theorem dX1_init_23 : decode cX1_init 23 = .ok (.newarray .int, 2) := by decide +kernel
theorem dX1_init_25 : decode cX1_init 25 = .ok (.putfield 18, 3) := by decide +kernel
theorem dX1_init_28 : decode cX1_init 28 = .ok (.aload_n 0, 1) := by decide +kernel
theorem dX1_init_29 : decode cX1_init 29 = .ok (.bipush 39, 2) := by decide +kernel
theorem dX1_init_31 : decode cX1_init 31 = .ok (.newarray .int, 2) := by decide +kernel
theorem dX1_init_33 : decode cX1_init 33 = .ok (.putfield 21, 3) := by decide +kernel
theorem dX1_init_36 : decode cX1_init 36 = .ok (.aload_n 0, 1) := by decide +kernel
theorem dX1_init_37 : decode cX1_init 37 = .ok (.bipush 39, 2) := by decide +kernel
theorem dX1_init_39 : decode cX1_init 39 = .ok (.newarray .int, 2) := by decide +kernel
theorem dX1_init_41 : decode cX1_init 41 = .ok (.putfield 24, 3) := by decide +kernel
theorem dX1_init_44 : decode cX1_init 44 = .ok (.aload_n 0, 1) := by decide +kernel
theorem dX1_init_45 : decode cX1_init 45 = .ok (.bipush 39, 2) := by decide +kernel
theorem dX1_init_47 : decode cX1_init 47 = .ok (.newarray .int, 2) := by decide +kernel
theorem dX1_init_49 : decode cX1_init 49 = .ok (.putfield 27, 3) := by decide +kernel
theorem dX1_init_52 : decode cX1_init 52 = .ok (.aload_n 0, 1) := by decide +kernel
theorem dX1_init_53 : decode cX1_init 53 = .ok (.iconst 0, 1) := by decide +kernel
theorem dX1_init_54 : decode cX1_init 54 = .ok (.putfield 30, 3) := by decide +kernel
theorem dX1_init_57 : decode cX1_init 57 = .ok (.aload_n 0, 1) := by decide +kernel
theorem dX1_init_58 : decode cX1_init 58 = .ok (.iconst 1, 1) := by decide +kernel
theorem dX1_init_59 : decode cX1_init 59 = .ok (.putfield 34, 3) := by decide +kernel
theorem dX1_init_62 : decode cX1_init 62 = .ok (.aload_n 0, 1) := by decide +kernel
theorem dX1_init_63 : decode cX1_init 63 = .ok (.iconst (-1), 1) := by decide +kernel
theorem dX1_init_64 : decode cX1_init 64 = .ok (.putfield 37, 3) := by decide +kernel
theorem dX1_init_67 : decode cX1_init 67 = .ok (.return_, 1) := by decide +kernel
theorem dX1_remember_0 : decode cX1_remember 0 = .ok (.aload_n 0, 1) := by decide +kernel
theorem dX1_remember_1 : decode cX1_remember 1 = .ok (.iload_n 1, 1) := by decide +kernel
theorem dX1_remember_2 : decode cX1_remember 2 = .ok (.putfield 34, 3) := by decide +kernel
theorem dX1_remember_5 : decode cX1_remember 5 = .ok (.aload_n 0, 1) := by decide +kernel
theorem dX1_remember_6 : decode cX1_remember 6 = .ok (.iload_n 2, 1) := by decide +kernel
theorem dX1_remember_7 : decode cX1_remember 7 = .ok (.putfield 37, 3) := by decide +kernel
theorem dX1_remember_10 : decode cX1_remember 10 = .ok (.return_, 1) := by decide +kernel
theorem dX1_partsTold_0 : decode cX1_partsTold 0 = .ok (.aload_n 0, 1) := by decide +kernel
theorem dX1_partsTold_1 : decode cX1_partsTold 1 = .ok (.getfield 34, 3) := by decide +kernel
theorem dX1_partsTold_4 : decode cX1_partsTold 4 = .ok (.ireturn, 1) := by decide +kernel
theorem dX1_leftTold_0 : decode cX1_leftTold 0 = .ok (.aload_n 0, 1) := by decide +kernel
theorem dX1_leftTold_1 : decode cX1_leftTold 1 = .ok (.getfield 37, 3) := by decide +kernel
theorem dX1_leftTold_4 : decode cX1_leftTold 4 = .ok (.ireturn, 1) := by decide +kernel
theorem dX1_grow_0 : decode cX1_grow 0 = .ok (.aload_n 0, 1) := by decide +kernel
theorem dX1_grow_1 : decode cX1_grow 1 = .ok (.iconst 1, 1) := by decide +kernel
theorem dX1_grow_2 : decode cX1_grow 2 = .ok (.putfield 30, 3) := by decide +kernel
theorem dX1_grow_5 : decode cX1_grow 5 = .ok (.aload_n 0, 1) := by decide +kernel
theorem dX1_grow_6 : decode cX1_grow 6 = .ok (.aload_n 1, 1) := by decide +kernel
theorem dX1_grow_7 : decode cX1_grow 7 = .ok (.iconst 0, 1) := by decide +kernel
theorem dX1_grow_8 : decode cX1_grow 8 = .ok (.iload_n 2, 1) := by decide +kernel
theorem dX1_grow_9 : decode cX1_grow 9 = .ok (.iconst 0, 1) := by decide +kernel
theorem dX1_grow_10 : decode cX1_grow 10 = .ok (.invokevirtual 40, 3) := by decide +kernel
theorem dX1_grow_13 : decode cX1_grow 13 = .ok (.iconst 0, 1) := by decide +kernel
theorem dX1_grow_14 : decode cX1_grow 14 = .ok (.istore 5, 2) := by decide +kernel
theorem dX1_grow_16 : decode cX1_grow 16 = .ok (.iload 5, 2) := by decide +kernel
theorem dX1_grow_18 : decode cX1_grow 18 = .ok (.aload_n 0, 1) := by decide +kernel
theorem dX1_grow_19 : decode cX1_grow 19 = .ok (.getfield 30, 3) := by decide +kernel
theorem dX1_grow_22 : decode cX1_grow 22 = .ok (.if_icmp .ge 67, 3) := by decide +kernel
theorem dX1_grow_25 : decode cX1_grow 25 = .ok (.iload 5, 2) := by decide +kernel
theorem dX1_grow_27 : decode cX1_grow 27 = .ok (.bipush 39, 2) := by decide +kernel
theorem dX1_grow_29 : decode cX1_grow 29 = .ok (.if_icmp .ge 60, 3) := by decide +kernel
theorem dX1_grow_32 : decode cX1_grow 32 = .ok (.aload_n 0, 1) := by decide +kernel
theorem dX1_grow_33 : decode cX1_grow 33 = .ok (.getfield 21, 3) := by decide +kernel
theorem dX1_grow_36 : decode cX1_grow 36 = .ok (.iload 5, 2) := by decide +kernel
theorem dX1_grow_38 : decode cX1_grow 38 = .ok (.iaload, 1) := by decide +kernel
theorem dX1_grow_39 : decode cX1_grow 39 = .ok (.iload_n 3, 1) := by decide +kernel
theorem dX1_grow_40 : decode cX1_grow 40 = .ok (.if_icmp .ge 43, 3) := by decide +kernel
theorem dX1_grow_43 : decode cX1_grow 43 = .ok (.aload_n 0, 1) := by decide +kernel
theorem dX1_grow_44 : decode cX1_grow 44 = .ok (.getfield 30, 3) := by decide +kernel
theorem dX1_grow_47 : decode cX1_grow 47 = .ok (.iconst 2, 1) := by decide +kernel
theorem dX1_grow_48 : decode cX1_grow 48 = .ok (.iadd, 1) := by decide +kernel
theorem dX1_grow_49 : decode cX1_grow 49 = .ok (.bipush 39, 2) := by decide +kernel
theorem dX1_grow_51 : decode cX1_grow 51 = .ok (.if_icmp .gt 32, 3) := by decide +kernel
theorem dX1_grow_54 : decode cX1_grow 54 = .ok (.aload_n 1, 1) := by decide +kernel
theorem dX1_grow_55 : decode cX1_grow 55 = .ok (.aload_n 0, 1) := by decide +kernel
theorem dX1_grow_56 : decode cX1_grow 56 = .ok (.getfield 24, 3) := by decide +kernel
theorem dX1_grow_59 : decode cX1_grow 59 = .ok (.iload 5, 2) := by decide +kernel
theorem dX1_grow_61 : decode cX1_grow 61 = .ok (.iaload, 1) := by decide +kernel
theorem dX1_grow_62 : decode cX1_grow 62 = .ok (.iload 4, 2) := by decide +kernel
theorem dX1_grow_64 : decode cX1_grow 64 = .ok (.invokevirtual 44, 3) := by decide +kernel
theorem dX1_grow_67 : decode cX1_grow 67 = .ok (.istore 6, 2) := by decide +kernel
theorem dX1_grow_69 : decode cX1_grow 69 = .ok (.iload 6, 2) := by decide +kernel
theorem dX1_grow_71 : decode cX1_grow 71 = .ok (.ifCond .lt 12, 3) := by decide +kernel
theorem dX1_grow_74 : decode cX1_grow 74 = .ok (.aload_n 0, 1) := by decide +kernel
theorem dX1_grow_75 : decode cX1_grow 75 = .ok (.aload_n 1, 1) := by decide +kernel
theorem dX1_grow_76 : decode cX1_grow 76 = .ok (.iload 5, 2) := by decide +kernel
theorem dX1_grow_78 : decode cX1_grow 78 = .ok (.iload 6, 2) := by decide +kernel
theorem dX1_grow_80 : decode cX1_grow 80 = .ok (.invokevirtual 50, 3) := by decide +kernel
theorem dX1_grow_83 : decode cX1_grow 83 = .ok (.iinc 5 1, 3) := by decide +kernel
theorem dX1_grow_86 : decode cX1_grow 86 = .ok (.goto (-70), 3) := by decide +kernel
theorem dX1_grow_89 : decode cX1_grow 89 = .ok (.return_, 1) := by decide +kernel
theorem dX1_putLeaf_0 : decode cX1_putLeaf 0 = .ok (.aload_n 0, 1) := by decide +kernel
theorem dX1_putLeaf_1 : decode cX1_putLeaf 1 = .ok (.getfield 9, 3) := by decide +kernel
theorem dX1_putLeaf_4 : decode cX1_putLeaf 4 = .ok (.iload_n 2, 1) := by decide +kernel
theorem dX1_putLeaf_5 : decode cX1_putLeaf 5 = .ok (.iconst (-1), 1) := by decide +kernel
theorem dX1_putLeaf_6 : decode cX1_putLeaf 6 = .ok (.iastore, 1) := by decide +kernel
theorem dX1_putLeaf_7 : decode cX1_putLeaf 7 = .ok (.aload_n 0, 1) := by decide +kernel
theorem dX1_putLeaf_8 : decode cX1_putLeaf 8 = .ok (.getfield 15, 3) := by decide +kernel
theorem dX1_putLeaf_11 : decode cX1_putLeaf 11 = .ok (.iload_n 2, 1) := by decide +kernel
theorem dX1_putLeaf_12 : decode cX1_putLeaf 12 = .ok (.aload_n 1, 1) := by decide +kernel
theorem dX1_putLeaf_13 : decode cX1_putLeaf 13 = .ok (.iload_n 3, 1) := by decide +kernel
theorem dX1_putLeaf_14 : decode cX1_putLeaf 14 = .ok (.invokevirtual 54, 3) := by decide +kernel
theorem dX1_putLeaf_17 : decode cX1_putLeaf 17 = .ok (.iastore, 1) := by decide +kernel
theorem dX1_putLeaf_18 : decode cX1_putLeaf 18 = .ok (.aload_n 0, 1) := by decide +kernel
theorem dX1_putLeaf_19 : decode cX1_putLeaf 19 = .ok (.getfield 18, 3) := by decide +kernel
theorem dX1_putLeaf_22 : decode cX1_putLeaf 22 = .ok (.iload_n 2, 1) := by decide +kernel
theorem dX1_putLeaf_23 : decode cX1_putLeaf 23 = .ok (.iload_n 3, 1) := by decide +kernel
theorem dX1_putLeaf_24 : decode cX1_putLeaf 24 = .ok (.invokestatic 58, 3) := by decide +kernel
theorem dX1_putLeaf_27 : decode cX1_putLeaf 27 = .ok (.iastore, 1) := by decide +kernel
theorem dX1_putLeaf_28 : decode cX1_putLeaf 28 = .ok (.aload_n 0, 1) := by decide +kernel
theorem dX1_putLeaf_29 : decode cX1_putLeaf 29 = .ok (.getfield 21, 3) := by decide +kernel
theorem dX1_putLeaf_32 : decode cX1_putLeaf 32 = .ok (.iload_n 2, 1) := by decide +kernel
theorem dX1_putLeaf_33 : decode cX1_putLeaf 33 = .ok (.iload 4, 2) := by decide +kernel
theorem dX1_putLeaf_35 : decode cX1_putLeaf 35 = .ok (.iastore, 1) := by decide +kernel
theorem dX1_putLeaf_36 : decode cX1_putLeaf 36 = .ok (.aload_n 0, 1) := by decide +kernel
theorem dX1_putLeaf_37 : decode cX1_putLeaf 37 = .ok (.getfield 24, 3) := by decide +kernel
theorem dX1_putLeaf_40 : decode cX1_putLeaf 40 = .ok (.iload_n 2, 1) := by decide +kernel
theorem dX1_putLeaf_41 : decode cX1_putLeaf 41 = .ok (.iload_n 3, 1) := by decide +kernel
theorem dX1_putLeaf_42 : decode cX1_putLeaf 42 = .ok (.iastore, 1) := by decide +kernel
theorem dX1_putLeaf_43 : decode cX1_putLeaf 43 = .ok (.return_, 1) := by decide +kernel
theorem dX1_fork_0 : decode cX1_fork 0 = .ok (.aload_n 0, 1) := by decide +kernel
theorem dX1_fork_1 : decode cX1_fork 1 = .ok (.getfield 30, 3) := by decide +kernel
theorem dX1_fork_4 : decode cX1_fork 4 = .ok (.iconst 1, 1) := by decide +kernel
theorem dX1_fork_5 : decode cX1_fork 5 = .ok (.isub, 1) := by decide +kernel
theorem dX1_fork_6 : decode cX1_fork 6 = .ok (.istore 4, 2) := by decide +kernel
theorem dX1_fork_8 : decode cX1_fork 8 = .ok (.iload 4, 2) := by decide +kernel
theorem dX1_fork_10 : decode cX1_fork 10 = .ok (.iload_n 2, 1) := by decide +kernel
theorem dX1_fork_11 : decode cX1_fork 11 = .ok (.if_icmp .le 19, 3) := by decide +kernel
theorem dX1_fork_14 : decode cX1_fork 14 = .ok (.aload_n 0, 1) := by decide +kernel
theorem dX1_fork_15 : decode cX1_fork 15 = .ok (.iload 4, 2) := by decide +kernel
theorem dX1_fork_17 : decode cX1_fork 17 = .ok (.iload 4, 2) := by decide +kernel
theorem dX1_fork_19 : decode cX1_fork 19 = .ok (.iconst 2, 1) := by decide +kernel
theorem dX1_fork_20 : decode cX1_fork 20 = .ok (.iadd, 1) := by decide +kernel
theorem dX1_fork_21 : decode cX1_fork 21 = .ok (.invokevirtual 63, 3) := by decide +kernel
theorem dX1_fork_24 : decode cX1_fork 24 = .ok (.iinc 4 (-1), 3) := by decide +kernel
theorem dX1_fork_27 : decode cX1_fork 27 = .ok (.goto (-19), 3) := by decide +kernel
theorem dX1_fork_30 : decode cX1_fork 30 = .ok (.aload_n 0, 1) := by decide +kernel
theorem dX1_fork_31 : decode cX1_fork 31 = .ok (.dup, 1) := by decide +kernel
theorem dX1_fork_32 : decode cX1_fork 32 = .ok (.getfield 30, 3) := by decide +kernel
theorem dX1_fork_35 : decode cX1_fork 35 = .ok (.iconst 2, 1) := by decide +kernel
theorem dX1_fork_36 : decode cX1_fork 36 = .ok (.iadd, 1) := by decide +kernel
theorem dX1_fork_37 : decode cX1_fork 37 = .ok (.putfield 30, 3) := by decide +kernel
theorem dX1_fork_40 : decode cX1_fork 40 = .ok (.aload_n 1, 1) := by decide +kernel
theorem dX1_fork_41 : decode cX1_fork 41 = .ok (.aload_n 0, 1) := by decide +kernel
theorem dX1_fork_42 : decode cX1_fork 42 = .ok (.getfield 24, 3) := by decide +kernel
theorem dX1_fork_45 : decode cX1_fork 45 = .ok (.iload_n 2, 1) := by decide +kernel
theorem dX1_fork_46 : decode cX1_fork 46 = .ok (.iaload, 1) := by decide +kernel
theorem dX1_fork_47 : decode cX1_fork 47 = .ok (.iload_n 3, 1) := by decide +kernel
theorem dX1_fork_48 : decode cX1_fork 48 = .ok (.invokevirtual 67, 3) := by decide +kernel
theorem dX1_fork_51 : decode cX1_fork 51 = .ok (.istore 4, 2) := by decide +kernel
theorem dX1_fork_53 : decode cX1_fork 53 = .ok (.aload_n 0, 1) := by decide +kernel
theorem dX1_fork_54 : decode cX1_fork 54 = .ok (.getfield 9, 3) := by decide +kernel
theorem dX1_fork_57 : decode cX1_fork 57 = .ok (.iload_n 2, 1) := by decide +kernel
theorem dX1_fork_58 : decode cX1_fork 58 = .ok (.iload_n 3, 1) := by decide +kernel
theorem dX1_fork_59 : decode cX1_fork 59 = .ok (.iastore, 1) := by decide +kernel
theorem dX1_fork_60 : decode cX1_fork 60 = .ok (.aload_n 0, 1) := by decide +kernel
theorem dX1_fork_61 : decode cX1_fork 61 = .ok (.aload_n 1, 1) := by decide +kernel
theorem dX1_fork_62 : decode cX1_fork 62 = .ok (.iload_n 2, 1) := by decide +kernel
theorem dX1_fork_63 : decode cX1_fork 63 = .ok (.iconst 1, 1) := by decide +kernel
theorem dX1_fork_64 : decode cX1_fork 64 = .ok (.iadd, 1) := by decide +kernel
theorem dX1_fork_65 : decode cX1_fork 65 = .ok (.iload 4, 2) := by decide +kernel
theorem dX1_fork_67 : decode cX1_fork 67 = .ok (.aload_n 0, 1) := by decide +kernel
theorem dX1_fork_68 : decode cX1_fork 68 = .ok (.getfield 21, 3) := by decide +kernel
theorem dX1_fork_71 : decode cX1_fork 71 = .ok (.iload_n 2, 1) := by decide +kernel
theorem dX1_fork_72 : decode cX1_fork 72 = .ok (.iaload, 1) := by decide +kernel
theorem dX1_fork_73 : decode cX1_fork 73 = .ok (.iconst 1, 1) := by decide +kernel
theorem dX1_fork_74 : decode cX1_fork 74 = .ok (.iadd, 1) := by decide +kernel
theorem dX1_fork_75 : decode cX1_fork 75 = .ok (.invokevirtual 40, 3) := by decide +kernel
theorem dX1_fork_78 : decode cX1_fork 78 = .ok (.aload_n 0, 1) := by decide +kernel
theorem dX1_fork_79 : decode cX1_fork 79 = .ok (.aload_n 1, 1) := by decide +kernel
theorem dX1_fork_80 : decode cX1_fork 80 = .ok (.iload_n 2, 1) := by decide +kernel
theorem dX1_fork_81 : decode cX1_fork 81 = .ok (.iconst 2, 1) := by decide +kernel
theorem dX1_fork_82 : decode cX1_fork 82 = .ok (.iadd, 1) := by decide +kernel
theorem dX1_fork_83 : decode cX1_fork 83 = .ok (.aload_n 0, 1) := by decide +kernel
theorem dX1_fork_84 : decode cX1_fork 84 = .ok (.getfield 24, 3) := by decide +kernel
theorem dX1_fork_87 : decode cX1_fork 87 = .ok (.iload_n 2, 1) := by decide +kernel
theorem dX1_fork_88 : decode cX1_fork 88 = .ok (.iaload, 1) := by decide +kernel
theorem dX1_fork_89 : decode cX1_fork 89 = .ok (.iload 4, 2) := by decide +kernel
theorem dX1_fork_91 : decode cX1_fork 91 = .ok (.iconst (-1), 1) := by decide +kernel
theorem dX1_fork_92 : decode cX1_fork 92 = .ok (.ixor, 1) := by decide +kernel
theorem dX1_fork_93 : decode cX1_fork 93 = .ok (.iand, 1) := by decide +kernel
theorem dX1_fork_94 : decode cX1_fork 94 = .ok (.aload_n 0, 1) := by decide +kernel
theorem dX1_fork_95 : decode cX1_fork 95 = .ok (.getfield 21, 3) := by decide +kernel
theorem dX1_fork_98 : decode cX1_fork 98 = .ok (.iload_n 2, 1) := by decide +kernel
theorem dX1_fork_99 : decode cX1_fork 99 = .ok (.iaload, 1) := by decide +kernel
theorem dX1_fork_100 : decode cX1_fork 100 = .ok (.iconst 1, 1) := by decide +kernel
theorem dX1_fork_101 : decode cX1_fork 101 = .ok (.iadd, 1) := by decide +kernel
theorem dX1_fork_102 : decode cX1_fork 102 = .ok (.invokevirtual 40, 3) := by decide +kernel
theorem dX1_fork_105 : decode cX1_fork 105 = .ok (.return_, 1) := by decide +kernel
theorem dX1_copyNode_0 : decode cX1_copyNode 0 = .ok (.aload_n 0, 1) := by decide +kernel
theorem dX1_copyNode_1 : decode cX1_copyNode 1 = .ok (.getfield 9, 3) := by decide +kernel
theorem dX1_copyNode_4 : decode cX1_copyNode 4 = .ok (.iload_n 2, 1) := by decide +kernel
theorem dX1_copyNode_5 : decode cX1_copyNode 5 = .ok (.aload_n 0, 1) := by decide +kernel
theorem dX1_copyNode_6 : decode cX1_copyNode 6 = .ok (.getfield 9, 3) := by decide +kernel
theorem dX1_copyNode_9 : decode cX1_copyNode 9 = .ok (.iload_n 1, 1) := by decide +kernel
theorem dX1_copyNode_10 : decode cX1_copyNode 10 = .ok (.iaload, 1) := by decide +kernel
theorem dX1_copyNode_11 : decode cX1_copyNode 11 = .ok (.iastore, 1) := by decide +kernel
theorem dX1_copyNode_12 : decode cX1_copyNode 12 = .ok (.aload_n 0, 1) := by decide +kernel
theorem dX1_copyNode_13 : decode cX1_copyNode 13 = .ok (.getfield 15, 3) := by decide +kernel
theorem dX1_copyNode_16 : decode cX1_copyNode 16 = .ok (.iload_n 2, 1) := by decide +kernel
theorem dX1_copyNode_17 : decode cX1_copyNode 17 = .ok (.aload_n 0, 1) := by decide +kernel
theorem dX1_copyNode_18 : decode cX1_copyNode 18 = .ok (.getfield 15, 3) := by decide +kernel
theorem dX1_copyNode_21 : decode cX1_copyNode 21 = .ok (.iload_n 1, 1) := by decide +kernel
theorem dX1_copyNode_22 : decode cX1_copyNode 22 = .ok (.iaload, 1) := by decide +kernel
theorem dX1_copyNode_23 : decode cX1_copyNode 23 = .ok (.iastore, 1) := by decide +kernel
theorem dX1_copyNode_24 : decode cX1_copyNode 24 = .ok (.aload_n 0, 1) := by decide +kernel
theorem dX1_copyNode_25 : decode cX1_copyNode 25 = .ok (.getfield 18, 3) := by decide +kernel
theorem dX1_copyNode_28 : decode cX1_copyNode 28 = .ok (.iload_n 2, 1) := by decide +kernel
theorem dX1_copyNode_29 : decode cX1_copyNode 29 = .ok (.aload_n 0, 1) := by decide +kernel
theorem dX1_copyNode_30 : decode cX1_copyNode 30 = .ok (.getfield 18, 3) := by decide +kernel
theorem dX1_copyNode_33 : decode cX1_copyNode 33 = .ok (.iload_n 1, 1) := by decide +kernel
theorem dX1_copyNode_34 : decode cX1_copyNode 34 = .ok (.iaload, 1) := by decide +kernel
theorem dX1_copyNode_35 : decode cX1_copyNode 35 = .ok (.iastore, 1) := by decide +kernel
theorem dX1_copyNode_36 : decode cX1_copyNode 36 = .ok (.aload_n 0, 1) := by decide +kernel
theorem dX1_copyNode_37 : decode cX1_copyNode 37 = .ok (.getfield 21, 3) := by decide +kernel
theorem dX1_copyNode_40 : decode cX1_copyNode 40 = .ok (.iload_n 2, 1) := by decide +kernel
theorem dX1_copyNode_41 : decode cX1_copyNode 41 = .ok (.aload_n 0, 1) := by decide +kernel
theorem dX1_copyNode_42 : decode cX1_copyNode 42 = .ok (.getfield 21, 3) := by decide +kernel
theorem dX1_copyNode_45 : decode cX1_copyNode 45 = .ok (.iload_n 1, 1) := by decide +kernel
theorem dX1_copyNode_46 : decode cX1_copyNode 46 = .ok (.iaload, 1) := by decide +kernel
theorem dX1_copyNode_47 : decode cX1_copyNode 47 = .ok (.iastore, 1) := by decide +kernel
theorem dX1_copyNode_48 : decode cX1_copyNode 48 = .ok (.aload_n 0, 1) := by decide +kernel
theorem dX1_copyNode_49 : decode cX1_copyNode 49 = .ok (.getfield 24, 3) := by decide +kernel
theorem dX1_copyNode_52 : decode cX1_copyNode 52 = .ok (.iload_n 2, 1) := by decide +kernel
theorem dX1_copyNode_53 : decode cX1_copyNode 53 = .ok (.aload_n 0, 1) := by decide +kernel
theorem dX1_copyNode_54 : decode cX1_copyNode 54 = .ok (.getfield 24, 3) := by decide +kernel
theorem dX1_copyNode_57 : decode cX1_copyNode 57 = .ok (.iload_n 1, 1) := by decide +kernel
theorem dX1_copyNode_58 : decode cX1_copyNode 58 = .ok (.iaload, 1) := by decide +kernel
theorem dX1_copyNode_59 : decode cX1_copyNode 59 = .ok (.iastore, 1) := by decide +kernel
theorem dX1_copyNode_60 : decode cX1_copyNode 60 = .ok (.return_, 1) := by decide +kernel
theorem dX1_pruneBy_0 : decode cX1_pruneBy 0 = .ok (.aload_n 0, 1) := by decide +kernel
theorem dX1_pruneBy_1 : decode cX1_pruneBy 1 = .ok (.aload_n 1, 1) := by decide +kernel
theorem dX1_pruneBy_2 : decode cX1_pruneBy 2 = .ok (.iload_n 2, 1) := by decide +kernel
theorem dX1_pruneBy_3 : decode cX1_pruneBy 3 = .ok (.invokevirtual 70, 3) := by decide +kernel
theorem dX1_pruneBy_6 : decode cX1_pruneBy 6 = .ok (.iconst 0, 1) := by decide +kernel
theorem dX1_pruneBy_7 : decode cX1_pruneBy 7 = .ok (.istore_n 3, 1) := by decide +kernel
theorem dX1_pruneBy_8 : decode cX1_pruneBy 8 = .ok (.aload_n 0, 1) := by decide +kernel
theorem dX1_pruneBy_9 : decode cX1_pruneBy 9 = .ok (.getfield 30, 3) := by decide +kernel
theorem dX1_pruneBy_12 : decode cX1_pruneBy 12 = .ok (.iconst 1, 1) := by decide +kernel
theorem dX1_pruneBy_13 : decode cX1_pruneBy 13 = .ok (.isub, 1) := by decide +kernel
theorem dX1_pruneBy_14 : decode cX1_pruneBy 14 = .ok (.istore 4, 2) := by decide +kernel
theorem dX1_pruneBy_16 : decode cX1_pruneBy 16 = .ok (.iload 4, 2) := by decide +kernel
theorem dX1_pruneBy_18 : decode cX1_pruneBy 18 = .ok (.ifCond .lt 101, 3) := by decide +kernel
theorem dX1_pruneBy_21 : decode cX1_pruneBy 21 = .ok (.aload_n 0, 1) := by decide +kernel
theorem dX1_pruneBy_22 : decode cX1_pruneBy 22 = .ok (.getfield 27, 3) := by decide +kernel
theorem dX1_pruneBy_25 : decode cX1_pruneBy 25 = .ok (.iload 4, 2) := by decide +kernel
theorem dX1_pruneBy_27 : decode cX1_pruneBy 27 = .ok (.aload_n 1, 1) := by decide +kernel
theorem dX1_pruneBy_28 : decode cX1_pruneBy 28 = .ok (.aload_n 0, 1) := by decide +kernel
theorem dX1_pruneBy_29 : decode cX1_pruneBy 29 = .ok (.getfield 24, 3) := by decide +kernel
theorem dX1_pruneBy_32 : decode cX1_pruneBy 32 = .ok (.iload 4, 2) := by decide +kernel
theorem dX1_pruneBy_34 : decode cX1_pruneBy 34 = .ok (.iaload, 1) := by decide +kernel
theorem dX1_pruneBy_35 : decode cX1_pruneBy 35 = .ok (.aload_n 0, 1) := by decide +kernel
theorem dX1_pruneBy_36 : decode cX1_pruneBy 36 = .ok (.getfield 15, 3) := by decide +kernel
theorem dX1_pruneBy_39 : decode cX1_pruneBy 39 = .ok (.iload 4, 2) := by decide +kernel
theorem dX1_pruneBy_41 : decode cX1_pruneBy 41 = .ok (.iaload, 1) := by decide +kernel
theorem dX1_pruneBy_42 : decode cX1_pruneBy 42 = .ok (.invokevirtual 74, 3) := by decide +kernel
theorem dX1_pruneBy_45 : decode cX1_pruneBy 45 = .ok (.iastore, 1) := by decide +kernel
theorem dX1_pruneBy_46 : decode cX1_pruneBy 46 = .ok (.aload_n 0, 1) := by decide +kernel
theorem dX1_pruneBy_47 : decode cX1_pruneBy 47 = .ok (.iload 4, 2) := by decide +kernel
theorem dX1_pruneBy_49 : decode cX1_pruneBy 49 = .ok (.invokevirtual 77, 3) := by decide +kernel
theorem dX1_pruneBy_52 : decode cX1_pruneBy 52 = .ok (.istore 5, 2) := by decide +kernel
theorem dX1_pruneBy_54 : decode cX1_pruneBy 54 = .ok (.iload 5, 2) := by decide +kernel
theorem dX1_pruneBy_56 : decode cX1_pruneBy 56 = .ok (.ifCond .lt 57, 3) := by decide +kernel
theorem dX1_pruneBy_59 : decode cX1_pruneBy 59 = .ok (.aload_n 0, 1) := by decide +kernel
theorem dX1_pruneBy_60 : decode cX1_pruneBy 60 = .ok (.getfield 27, 3) := by decide +kernel
theorem dX1_pruneBy_63 : decode cX1_pruneBy 63 = .ok (.iload 4, 2) := by decide +kernel
theorem dX1_pruneBy_65 : decode cX1_pruneBy 65 = .ok (.iconst 1, 1) := by decide +kernel
theorem dX1_pruneBy_66 : decode cX1_pruneBy 66 = .ok (.iadd, 1) := by decide +kernel
theorem dX1_pruneBy_67 : decode cX1_pruneBy 67 = .ok (.iaload, 1) := by decide +kernel
theorem dX1_pruneBy_68 : decode cX1_pruneBy 68 = .ok (.aload_n 0, 1) := by decide +kernel
theorem dX1_pruneBy_69 : decode cX1_pruneBy 69 = .ok (.getfield 27, 3) := by decide +kernel
theorem dX1_pruneBy_72 : decode cX1_pruneBy 72 = .ok (.iload 5, 2) := by decide +kernel
theorem dX1_pruneBy_74 : decode cX1_pruneBy 74 = .ok (.iaload, 1) := by decide +kernel
theorem dX1_pruneBy_75 : decode cX1_pruneBy 75 = .ok (.iadd, 1) := by decide +kernel
theorem dX1_pruneBy_76 : decode cX1_pruneBy 76 = .ok (.istore 6, 2) := by decide +kernel
theorem dX1_pruneBy_78 : decode cX1_pruneBy 78 = .ok (.iload 6, 2) := by decide +kernel
theorem dX1_pruneBy_80 : decode cX1_pruneBy 80 = .ok (.aload_n 0, 1) := by decide +kernel
theorem dX1_pruneBy_81 : decode cX1_pruneBy 81 = .ok (.getfield 27, 3) := by decide +kernel
theorem dX1_pruneBy_84 : decode cX1_pruneBy 84 = .ok (.iload 4, 2) := by decide +kernel
theorem dX1_pruneBy_86 : decode cX1_pruneBy 86 = .ok (.iaload, 1) := by decide +kernel
theorem dX1_pruneBy_87 : decode cX1_pruneBy 87 = .ok (.if_icmp .le 15, 3) := by decide +kernel
theorem dX1_pruneBy_90 : decode cX1_pruneBy 90 = .ok (.aload_n 0, 1) := by decide +kernel
theorem dX1_pruneBy_91 : decode cX1_pruneBy 91 = .ok (.getfield 27, 3) := by decide +kernel
theorem dX1_pruneBy_94 : decode cX1_pruneBy 94 = .ok (.iload 4, 2) := by decide +kernel
theorem dX1_pruneBy_96 : decode cX1_pruneBy 96 = .ok (.iload 6, 2) := by decide +kernel
theorem dX1_pruneBy_98 : decode cX1_pruneBy 98 = .ok (.iastore, 1) := by decide +kernel
theorem dX1_pruneBy_99 : decode cX1_pruneBy 99 = .ok (.goto 14, 3) := by decide +kernel
theorem dX1_pruneBy_102 : decode cX1_pruneBy 102 = .ok (.aload_n 0, 1) := by decide +kernel
theorem dX1_pruneBy_103 : decode cX1_pruneBy 103 = .ok (.getfield 9, 3) := by decide +kernel
theorem dX1_pruneBy_106 : decode cX1_pruneBy 106 = .ok (.iload 4, 2) := by decide +kernel
theorem dX1_pruneBy_108 : decode cX1_pruneBy 108 = .ok (.iconst (-1), 1) := by decide +kernel
theorem dX1_pruneBy_109 : decode cX1_pruneBy 109 = .ok (.iastore, 1) := by decide +kernel
theorem dX1_pruneBy_110 : decode cX1_pruneBy 110 = .ok (.iinc 3 1, 3) := by decide +kernel
theorem dX1_pruneBy_113 : decode cX1_pruneBy 113 = .ok (.iinc 4 (-1), 3) := by decide +kernel
theorem dX1_pruneBy_116 : decode cX1_pruneBy 116 = .ok (.goto (-100), 3) := by decide +kernel
theorem dX1_pruneBy_119 : decode cX1_pruneBy 119 = .ok (.aload_n 0, 1) := by decide +kernel
theorem dX1_pruneBy_120 : decode cX1_pruneBy 120 = .ok (.invokevirtual 80, 3) := by decide +kernel
theorem dX1_pruneBy_123 : decode cX1_pruneBy 123 = .ok (.iload_n 3, 1) := by decide +kernel
theorem dX1_pruneBy_124 : decode cX1_pruneBy 124 = .ok (.ireturn, 1) := by decide +kernel
theorem dX1_dropNodesBelowLeaves_0 : decode cX1_dropNodesBelowLeaves 0 = .ok (.iconst 0, 1) := by decide +kernel
theorem dX1_dropNodesBelowLeaves_1 : decode cX1_dropNodesBelowLeaves 1 = .ok (.istore_n 1, 1) := by decide +kernel
theorem dX1_dropNodesBelowLeaves_2 : decode cX1_dropNodesBelowLeaves 2 = .ok (.iconst 5, 1) := by decide +kernel
theorem dX1_dropNodesBelowLeaves_3 : decode cX1_dropNodesBelowLeaves 3 = .ok (.istore_n 2, 1) := by decide +kernel
theorem dX1_dropNodesBelowLeaves_4 : decode cX1_dropNodesBelowLeaves 4 = .ok (.iconst 0, 1) := by decide +kernel
theorem dX1_dropNodesBelowLeaves_5 : decode cX1_dropNodesBelowLeaves 5 = .ok (.istore_n 3, 1) := by decide +kernel
theorem dX1_dropNodesBelowLeaves_6 : decode cX1_dropNodesBelowLeaves 6 = .ok (.iload_n 3, 1) := by decide +kernel
theorem dX1_dropNodesBelowLeaves_7 : decode cX1_dropNodesBelowLeaves 7 = .ok (.aload_n 0, 1) := by decide +kernel
theorem dX1_dropNodesBelowLeaves_8 : decode cX1_dropNodesBelowLeaves 8 = .ok (.getfield 30, 3) := by decide +kernel
theorem dX1_dropNodesBelowLeaves_11 : decode cX1_dropNodesBelowLeaves 11 = .ok (.if_icmp .ge 48, 3) := by decide +kernel
theorem dX1_dropNodesBelowLeaves_14 : decode cX1_dropNodesBelowLeaves 14 = .ok (.aload_n 0, 1) := by decide +kernel
theorem dX1_dropNodesBelowLeaves_15 : decode cX1_dropNodesBelowLeaves 15 = .ok (.getfield 21, 3) := by decide +kernel
theorem dX1_dropNodesBelowLeaves_18 : decode cX1_dropNodesBelowLeaves 18 = .ok (.iload_n 3, 1) := by decide +kernel
theorem dX1_dropNodesBelowLeaves_19 : decode cX1_dropNodesBelowLeaves 19 = .ok (.iaload, 1) := by decide +kernel
theorem dX1_dropNodesBelowLeaves_20 : decode cX1_dropNodesBelowLeaves 20 = .ok (.iload_n 2, 1) := by decide +kernel
theorem dX1_dropNodesBelowLeaves_21 : decode cX1_dropNodesBelowLeaves 21 = .ok (.if_icmp .gt 32, 3) := by decide +kernel
theorem dX1_dropNodesBelowLeaves_24 : decode cX1_dropNodesBelowLeaves 24 = .ok (.aload_n 0, 1) := by decide +kernel
theorem dX1_dropNodesBelowLeaves_25 : decode cX1_dropNodesBelowLeaves 25 = .ok (.getfield 9, 3) := by decide +kernel
theorem dX1_dropNodesBelowLeaves_28 : decode cX1_dropNodesBelowLeaves 28 = .ok (.iload_n 3, 1) := by decide +kernel
theorem dX1_dropNodesBelowLeaves_29 : decode cX1_dropNodesBelowLeaves 29 = .ok (.iaload, 1) := by decide +kernel
theorem dX1_dropNodesBelowLeaves_30 : decode cX1_dropNodesBelowLeaves 30 = .ok (.ifCond .ge 12, 3) := by decide +kernel
theorem dX1_dropNodesBelowLeaves_33 : decode cX1_dropNodesBelowLeaves 33 = .ok (.aload_n 0, 1) := by decide +kernel
theorem dX1_dropNodesBelowLeaves_34 : decode cX1_dropNodesBelowLeaves 34 = .ok (.getfield 21, 3) := by decide +kernel
theorem dX1_dropNodesBelowLeaves_37 : decode cX1_dropNodesBelowLeaves 37 = .ok (.iload_n 3, 1) := by decide +kernel
theorem dX1_dropNodesBelowLeaves_38 : decode cX1_dropNodesBelowLeaves 38 = .ok (.iaload, 1) := by decide +kernel
theorem dX1_dropNodesBelowLeaves_39 : decode cX1_dropNodesBelowLeaves 39 = .ok (.goto 4, 3) := by decide +kernel
theorem dX1_dropNodesBelowLeaves_42 : decode cX1_dropNodesBelowLeaves 42 = .ok (.iconst 5, 1) := by decide +kernel
theorem dX1_dropNodesBelowLeaves_43 : decode cX1_dropNodesBelowLeaves 43 = .ok (.istore_n 2, 1) := by decide +kernel
theorem dX1_dropNodesBelowLeaves_44 : decode cX1_dropNodesBelowLeaves 44 = .ok (.aload_n 0, 1) := by decide +kernel
theorem dX1_dropNodesBelowLeaves_45 : decode cX1_dropNodesBelowLeaves 45 = .ok (.iload_n 3, 1) := by decide +kernel
theorem dX1_dropNodesBelowLeaves_46 : decode cX1_dropNodesBelowLeaves 46 = .ok (.iload_n 1, 1) := by decide +kernel
theorem dX1_dropNodesBelowLeaves_47 : decode cX1_dropNodesBelowLeaves 47 = .ok (.invokevirtual 63, 3) := by decide +kernel
theorem dX1_dropNodesBelowLeaves_50 : decode cX1_dropNodesBelowLeaves 50 = .ok (.iinc 1 1, 3) := by decide +kernel
theorem dX1_dropNodesBelowLeaves_53 : decode cX1_dropNodesBelowLeaves 53 = .ok (.iinc 3 1, 3) := by decide +kernel
theorem dX1_dropNodesBelowLeaves_56 : decode cX1_dropNodesBelowLeaves 56 = .ok (.goto (-50), 3) := by decide +kernel
theorem dX1_dropNodesBelowLeaves_59 : decode cX1_dropNodesBelowLeaves 59 = .ok (.aload_n 0, 1) := by decide +kernel
theorem dX1_dropNodesBelowLeaves_60 : decode cX1_dropNodesBelowLeaves 60 = .ok (.iload_n 1, 1) := by decide +kernel
theorem dX1_dropNodesBelowLeaves_61 : decode cX1_dropNodesBelowLeaves 61 = .ok (.putfield 30, 3) := by decide +kernel
theorem dX1_dropNodesBelowLeaves_64 : decode cX1_dropNodesBelowLeaves 64 = .ok (.return_, 1) := by decide +kernel
theorem dX1_rightAbout_0 : decode cX1_rightAbout 0 = .ok (.aload_n 0, 1) := by decide +kernel
theorem dX1_rightAbout_1 : decode cX1_rightAbout 1 = .ok (.aload_n 1, 1) := by decide +kernel
theorem dX1_rightAbout_2 : decode cX1_rightAbout 2 = .ok (.iload_n 2, 1) := by decide +kernel
theorem dX1_rightAbout_3 : decode cX1_rightAbout 3 = .ok (.invokevirtual 70, 3) := by decide +kernel
theorem dX1_rightAbout_6 : decode cX1_rightAbout 6 = .ok (.iconst 0, 1) := by decide +kernel
theorem dX1_rightAbout_7 : decode cX1_rightAbout 7 = .ok (.istore_n 3, 1) := by decide +kernel
theorem dX1_rightAbout_8 : decode cX1_rightAbout 8 = .ok (.iconst 0, 1) := by decide +kernel
theorem dX1_rightAbout_9 : decode cX1_rightAbout 9 = .ok (.istore 4, 2) := by decide +kernel
theorem dX1_rightAbout_11 : decode cX1_rightAbout 11 = .ok (.iload 4, 2) := by decide +kernel
theorem dX1_rightAbout_13 : decode cX1_rightAbout 13 = .ok (.aload_n 0, 1) := by decide +kernel
theorem dX1_rightAbout_14 : decode cX1_rightAbout 14 = .ok (.getfield 30, 3) := by decide +kernel
theorem dX1_rightAbout_17 : decode cX1_rightAbout 17 = .ok (.if_icmp .ge 40, 3) := by decide +kernel
theorem dX1_rightAbout_20 : decode cX1_rightAbout 20 = .ok (.aload_n 0, 1) := by decide +kernel
theorem dX1_rightAbout_21 : decode cX1_rightAbout 21 = .ok (.getfield 9, 3) := by decide +kernel
theorem dX1_rightAbout_24 : decode cX1_rightAbout 24 = .ok (.iload 4, 2) := by decide +kernel
theorem dX1_rightAbout_26 : decode cX1_rightAbout 26 = .ok (.iaload, 1) := by decide +kernel
theorem dX1_rightAbout_27 : decode cX1_rightAbout 27 = .ok (.ifCond .ge 24, 3) := by decide +kernel
theorem dX1_rightAbout_30 : decode cX1_rightAbout 30 = .ok (.iload_n 3, 1) := by decide +kernel
theorem dX1_rightAbout_31 : decode cX1_rightAbout 31 = .ok (.aload_n 1, 1) := by decide +kernel
theorem dX1_rightAbout_32 : decode cX1_rightAbout 32 = .ok (.aload_n 0, 1) := by decide +kernel
theorem dX1_rightAbout_33 : decode cX1_rightAbout 33 = .ok (.getfield 24, 3) := by decide +kernel
theorem dX1_rightAbout_36 : decode cX1_rightAbout 36 = .ok (.iload 4, 2) := by decide +kernel
theorem dX1_rightAbout_38 : decode cX1_rightAbout 38 = .ok (.iaload, 1) := by decide +kernel
theorem dX1_rightAbout_39 : decode cX1_rightAbout 39 = .ok (.aload_n 0, 1) := by decide +kernel
theorem dX1_rightAbout_40 : decode cX1_rightAbout 40 = .ok (.getfield 15, 3) := by decide +kernel
theorem dX1_rightAbout_43 : decode cX1_rightAbout 43 = .ok (.iload 4, 2) := by decide +kernel
theorem dX1_rightAbout_45 : decode cX1_rightAbout 45 = .ok (.iaload, 1) := by decide +kernel
theorem dX1_rightAbout_46 : decode cX1_rightAbout 46 = .ok (.invokevirtual 74, 3) := by decide +kernel
theorem dX1_rightAbout_49 : decode cX1_rightAbout 49 = .ok (.iadd, 1) := by decide +kernel
theorem dX1_rightAbout_50 : decode cX1_rightAbout 50 = .ok (.istore_n 3, 1) := by decide +kernel
theorem dX1_rightAbout_51 : decode cX1_rightAbout 51 = .ok (.iinc 4 1, 3) := by decide +kernel
theorem dX1_rightAbout_54 : decode cX1_rightAbout 54 = .ok (.goto (-43), 3) := by decide +kernel
theorem dX1_rightAbout_57 : decode cX1_rightAbout 57 = .ok (.iload_n 3, 1) := by decide +kernel
theorem dX1_rightAbout_58 : decode cX1_rightAbout 58 = .ok (.ireturn, 1) := by decide +kernel
theorem dX1_send_0 : decode cX1_send 0 = .ok (.aload_n 0, 1) := by decide +kernel
theorem dX1_send_1 : decode cX1_send 1 = .ok (.getfield 24, 3) := by decide +kernel
theorem dX1_send_4 : decode cX1_send 4 = .ok (.iconst 0, 1) := by decide +kernel
theorem dX1_send_5 : decode cX1_send 5 = .ok (.iload_n 2, 1) := by decide +kernel
theorem dX1_send_6 : decode cX1_send 6 = .ok (.iastore, 1) := by decide +kernel
theorem dX1_send_7 : decode cX1_send 7 = .ok (.iconst 0, 1) := by decide +kernel
theorem dX1_send_8 : decode cX1_send 8 = .ok (.istore_n 3, 1) := by decide +kernel
theorem dX1_send_9 : decode cX1_send 9 = .ok (.iload_n 3, 1) := by decide +kernel
theorem dX1_send_10 : decode cX1_send 10 = .ok (.aload_n 0, 1) := by decide +kernel
theorem dX1_send_11 : decode cX1_send 11 = .ok (.getfield 30, 3) := by decide +kernel
theorem dX1_send_14 : decode cX1_send 14 = .ok (.if_icmp .ge 67, 3) := by decide +kernel
theorem dX1_send_17 : decode cX1_send 17 = .ok (.aload_n 0, 1) := by decide +kernel
theorem dX1_send_18 : decode cX1_send 18 = .ok (.iload_n 3, 1) := by decide +kernel
theorem dX1_send_19 : decode cX1_send 19 = .ok (.invokevirtual 77, 3) := by decide +kernel
theorem dX1_send_22 : decode cX1_send 22 = .ok (.istore 4, 2) := by decide +kernel
theorem dX1_send_24 : decode cX1_send 24 = .ok (.iload 4, 2) := by decide +kernel
theorem dX1_send_26 : decode cX1_send 26 = .ok (.ifCond .lt 49, 3) := by decide +kernel
theorem dX1_send_29 : decode cX1_send 29 = .ok (.aload_n 1, 1) := by decide +kernel
theorem dX1_send_30 : decode cX1_send 30 = .ok (.aload_n 0, 1) := by decide +kernel
theorem dX1_send_31 : decode cX1_send 31 = .ok (.getfield 24, 3) := by decide +kernel
theorem dX1_send_34 : decode cX1_send 34 = .ok (.iload_n 3, 1) := by decide +kernel
theorem dX1_send_35 : decode cX1_send 35 = .ok (.iaload, 1) := by decide +kernel
theorem dX1_send_36 : decode cX1_send 36 = .ok (.aload_n 0, 1) := by decide +kernel
theorem dX1_send_37 : decode cX1_send 37 = .ok (.getfield 9, 3) := by decide +kernel
theorem dX1_send_40 : decode cX1_send 40 = .ok (.iload_n 3, 1) := by decide +kernel
theorem dX1_send_41 : decode cX1_send 41 = .ok (.iaload, 1) := by decide +kernel
theorem dX1_send_42 : decode cX1_send 42 = .ok (.invokevirtual 67, 3) := by decide +kernel
theorem dX1_send_45 : decode cX1_send 45 = .ok (.istore 5, 2) := by decide +kernel
theorem dX1_send_47 : decode cX1_send 47 = .ok (.aload_n 0, 1) := by decide +kernel
theorem dX1_send_48 : decode cX1_send 48 = .ok (.getfield 24, 3) := by decide +kernel
theorem dX1_send_51 : decode cX1_send 51 = .ok (.iload_n 3, 1) := by decide +kernel
theorem dX1_send_52 : decode cX1_send 52 = .ok (.iconst 1, 1) := by decide +kernel
theorem dX1_send_53 : decode cX1_send 53 = .ok (.iadd, 1) := by decide +kernel
theorem dX1_send_54 : decode cX1_send 54 = .ok (.iload 5, 2) := by decide +kernel
theorem dX1_send_56 : decode cX1_send 56 = .ok (.iastore, 1) := by decide +kernel
theorem dX1_send_57 : decode cX1_send 57 = .ok (.aload_n 0, 1) := by decide +kernel
theorem dX1_send_58 : decode cX1_send 58 = .ok (.getfield 24, 3) := by decide +kernel
theorem dX1_send_61 : decode cX1_send 61 = .ok (.iload 4, 2) := by decide +kernel
theorem dX1_send_63 : decode cX1_send 63 = .ok (.aload_n 0, 1) := by decide +kernel
theorem dX1_send_64 : decode cX1_send 64 = .ok (.getfield 24, 3) := by decide +kernel
theorem dX1_send_67 : decode cX1_send 67 = .ok (.iload_n 3, 1) := by decide +kernel
theorem dX1_send_68 : decode cX1_send 68 = .ok (.iaload, 1) := by decide +kernel
theorem dX1_send_69 : decode cX1_send 69 = .ok (.iload 5, 2) := by decide +kernel
theorem dX1_send_71 : decode cX1_send 71 = .ok (.iconst (-1), 1) := by decide +kernel
theorem dX1_send_72 : decode cX1_send 72 = .ok (.ixor, 1) := by decide +kernel
theorem dX1_send_73 : decode cX1_send 73 = .ok (.iand, 1) := by decide +kernel
theorem dX1_send_74 : decode cX1_send 74 = .ok (.iastore, 1) := by decide +kernel
theorem dX1_send_75 : decode cX1_send 75 = .ok (.iinc 3 1, 3) := by decide +kernel
theorem dX1_send_78 : decode cX1_send 78 = .ok (.goto (-69), 3) := by decide +kernel
theorem dX1_send_81 : decode cX1_send 81 = .ok (.return_, 1) := by decide +kernel
theorem dX1_sortFor_0 : decode cX1_sortFor 0 = .ok (.iconst 0, 1) := by decide +kernel
theorem dX1_sortFor_1 : decode cX1_sortFor 1 = .ok (.istore 4, 2) := by decide +kernel
theorem dX1_sortFor_3 : decode cX1_sortFor 3 = .ok (.aload_n 0, 1) := by decide +kernel
theorem dX1_sortFor_4 : decode cX1_sortFor 4 = .ok (.iconst 0, 1) := by decide +kernel
theorem dX1_sortFor_5 : decode cX1_sortFor 5 = .ok (.invokevirtual 77, 3) := by decide +kernel
theorem dX1_sortFor_8 : decode cX1_sortFor 8 = .ok (.istore 5, 2) := by decide +kernel
theorem dX1_sortFor_10 : decode cX1_sortFor 10 = .ok (.iconst 0, 1) := by decide +kernel
theorem dX1_sortFor_11 : decode cX1_sortFor 11 = .ok (.istore 6, 2) := by decide +kernel
theorem dX1_sortFor_13 : decode cX1_sortFor 13 = .ok (.iload 6, 2) := by decide +kernel
theorem dX1_sortFor_15 : decode cX1_sortFor 15 = .ok (.iconst 5, 1) := by decide +kernel
theorem dX1_sortFor_16 : decode cX1_sortFor 16 = .ok (.if_icmp .ge 82, 3) := by decide +kernel
theorem dX1_sortFor_19 : decode cX1_sortFor 19 = .ok (.iload 5, 2) := by decide +kernel
theorem dX1_sortFor_21 : decode cX1_sortFor 21 = .ok (.ifCond .lt 77, 3) := by decide +kernel
theorem dX1_sortFor_24 : decode cX1_sortFor 24 = .ok (.aload_n 0, 1) := by decide +kernel
theorem dX1_sortFor_25 : decode cX1_sortFor 25 = .ok (.getfield 9, 3) := by decide +kernel
theorem dX1_sortFor_28 : decode cX1_sortFor 28 = .ok (.iload 4, 2) := by decide +kernel
theorem dX1_sortFor_30 : decode cX1_sortFor 30 = .ok (.iaload, 1) := by decide +kernel
theorem dX1_sortFor_31 : decode cX1_sortFor 31 = .ok (.invokestatic 83, 3) := by decide +kernel
theorem dX1_sortFor_34 : decode cX1_sortFor 34 = .ok (.istore 7, 2) := by decide +kernel
theorem dX1_sortFor_36 : decode cX1_sortFor 36 = .ok (.iload 7, 2) := by decide +kernel
theorem dX1_sortFor_38 : decode cX1_sortFor 38 = .ok (.ifCond .ne 7, 3) := by decide +kernel
theorem dX1_sortFor_41 : decode cX1_sortFor 41 = .ok (.iload_n 1, 1) := by decide +kernel
theorem dX1_sortFor_42 : decode cX1_sortFor 42 = .ok (.goto 14, 3) := by decide +kernel
theorem dX1_sortFor_45 : decode cX1_sortFor 45 = .ok (.iload 7, 2) := by decide +kernel
theorem dX1_sortFor_47 : decode cX1_sortFor 47 = .ok (.iconst 1, 1) := by decide +kernel
theorem dX1_sortFor_48 : decode cX1_sortFor 48 = .ok (.if_icmp .ne 7, 3) := by decide +kernel
theorem dX1_sortFor_51 : decode cX1_sortFor 51 = .ok (.iload_n 2, 1) := by decide +kernel
theorem dX1_sortFor_52 : decode cX1_sortFor 52 = .ok (.goto 4, 3) := by decide +kernel
theorem dX1_sortFor_55 : decode cX1_sortFor 55 = .ok (.iload_n 3, 1) := by decide +kernel
theorem dX1_sortFor_56 : decode cX1_sortFor 56 = .ok (.istore 8, 2) := by decide +kernel
theorem dX1_sortFor_58 : decode cX1_sortFor 58 = .ok (.iload 8, 2) := by decide +kernel
theorem dX1_sortFor_60 : decode cX1_sortFor 60 = .ok (.aload_n 0, 1) := by decide +kernel
theorem dX1_sortFor_61 : decode cX1_sortFor 61 = .ok (.getfield 9, 3) := by decide +kernel
theorem dX1_sortFor_64 : decode cX1_sortFor 64 = .ok (.iload 4, 2) := by decide +kernel
theorem dX1_sortFor_66 : decode cX1_sortFor 66 = .ok (.iaload, 1) := by decide +kernel
theorem dX1_sortFor_67 : decode cX1_sortFor 67 = .ok (.invokestatic 86, 3) := by decide +kernel
theorem dX1_sortFor_70 : decode cX1_sortFor 70 = .ok (.if_icmp .gt 10, 3) := by decide +kernel
theorem dX1_sortFor_73 : decode cX1_sortFor 73 = .ok (.iload 4, 2) := by decide +kernel
theorem dX1_sortFor_75 : decode cX1_sortFor 75 = .ok (.iconst 1, 1) := by decide +kernel
theorem dX1_sortFor_76 : decode cX1_sortFor 76 = .ok (.iadd, 1) := by decide +kernel
theorem dX1_sortFor_77 : decode cX1_sortFor 77 = .ok (.goto 5, 3) := by decide +kernel
theorem dX1_sortFor_80 : decode cX1_sortFor 80 = .ok (.iload 5, 2) := by decide +kernel
theorem dX1_sortFor_82 : decode cX1_sortFor 82 = .ok (.istore 4, 2) := by decide +kernel
theorem dX1_sortFor_84 : decode cX1_sortFor 84 = .ok (.aload_n 0, 1) := by decide +kernel
theorem dX1_sortFor_85 : decode cX1_sortFor 85 = .ok (.iload 4, 2) := by decide +kernel
theorem dX1_sortFor_87 : decode cX1_sortFor 87 = .ok (.invokevirtual 77, 3) := by decide +kernel
theorem dX1_sortFor_90 : decode cX1_sortFor 90 = .ok (.istore 5, 2) := by decide +kernel
theorem dX1_sortFor_92 : decode cX1_sortFor 92 = .ok (.iinc 6 1, 3) := by decide +kernel
theorem dX1_sortFor_95 : decode cX1_sortFor 95 = .ok (.goto (-82), 3) := by decide +kernel
theorem dX1_sortFor_98 : decode cX1_sortFor 98 = .ok (.aload_n 0, 1) := by decide +kernel
theorem dX1_sortFor_99 : decode cX1_sortFor 99 = .ok (.getfield 15, 3) := by decide +kernel
theorem dX1_sortFor_102 : decode cX1_sortFor 102 = .ok (.iload 4, 2) := by decide +kernel
theorem dX1_sortFor_104 : decode cX1_sortFor 104 = .ok (.iaload, 1) := by decide +kernel
theorem dX1_sortFor_105 : decode cX1_sortFor 105 = .ok (.ireturn, 1) := by decide +kernel
theorem dX1_hasPlace_0 : decode cX1_hasPlace 0 = .ok (.iload_n 1, 1) := by decide +kernel
theorem dX1_hasPlace_1 : decode cX1_hasPlace 1 = .ok (.ifCond .lt 15, 3) := by decide +kernel
theorem dX1_hasPlace_4 : decode cX1_hasPlace 4 = .ok (.iload_n 1, 1) := by decide +kernel
theorem dX1_hasPlace_5 : decode cX1_hasPlace 5 = .ok (.aload_n 0, 1) := by decide +kernel
theorem dX1_hasPlace_6 : decode cX1_hasPlace 6 = .ok (.getfield 30, 3) := by decide +kernel
theorem dX1_hasPlace_9 : decode cX1_hasPlace 9 = .ok (.if_icmp .ge 7, 3) := by decide +kernel
theorem dX1_hasPlace_12 : decode cX1_hasPlace 12 = .ok (.iconst 1, 1) := by decide +kernel
theorem dX1_hasPlace_13 : decode cX1_hasPlace 13 = .ok (.goto 4, 3) := by decide +kernel
theorem dX1_hasPlace_16 : decode cX1_hasPlace 16 = .ok (.iconst 0, 1) := by decide +kernel
theorem dX1_hasPlace_17 : decode cX1_hasPlace 17 = .ok (.ireturn, 1) := by decide +kernel
theorem dX1_measureAt_0 : decode cX1_measureAt 0 = .ok (.aload_n 0, 1) := by decide +kernel
theorem dX1_measureAt_1 : decode cX1_measureAt 1 = .ok (.getfield 9, 3) := by decide +kernel
theorem dX1_measureAt_4 : decode cX1_measureAt 4 = .ok (.iload_n 1, 1) := by decide +kernel
theorem dX1_measureAt_5 : decode cX1_measureAt 5 = .ok (.iaload, 1) := by decide +kernel
theorem dX1_measureAt_6 : decode cX1_measureAt 6 = .ok (.invokestatic 83, 3) := by decide +kernel
theorem dX1_measureAt_9 : decode cX1_measureAt 9 = .ok (.ireturn, 1) := by decide +kernel
theorem dX1_numberAt_0 : decode cX1_numberAt 0 = .ok (.aload_n 0, 1) := by decide +kernel
theorem dX1_numberAt_1 : decode cX1_numberAt 1 = .ok (.getfield 9, 3) := by decide +kernel
theorem dX1_numberAt_4 : decode cX1_numberAt 4 = .ok (.iload_n 1, 1) := by decide +kernel
theorem dX1_numberAt_5 : decode cX1_numberAt 5 = .ok (.iaload, 1) := by decide +kernel
theorem dX1_numberAt_6 : decode cX1_numberAt 6 = .ok (.invokestatic 86, 3) := by decide +kernel
theorem dX1_numberAt_9 : decode cX1_numberAt 9 = .ok (.ireturn, 1) := by decide +kernel
theorem dX1_sortAt_0 : decode cX1_sortAt 0 = .ok (.aload_n 0, 1) := by decide +kernel
theorem dX1_sortAt_1 : decode cX1_sortAt 1 = .ok (.getfield 15, 3) := by decide +kernel
theorem dX1_sortAt_4 : decode cX1_sortAt 4 = .ok (.iload_n 1, 1) := by decide +kernel
theorem dX1_sortAt_5 : decode cX1_sortAt 5 = .ok (.iaload, 1) := by decide +kernel
theorem dX1_sortAt_6 : decode cX1_sortAt 6 = .ok (.ireturn, 1) := by decide +kernel
theorem dX1_grownAt_0 : decode cX1_grownAt 0 = .ok (.aload_n 0, 1) := by decide +kernel
theorem dX1_grownAt_1 : decode cX1_grownAt 1 = .ok (.getfield 18, 3) := by decide +kernel
theorem dX1_grownAt_4 : decode cX1_grownAt 4 = .ok (.iload_n 1, 1) := by decide +kernel
theorem dX1_grownAt_5 : decode cX1_grownAt 5 = .ok (.iaload, 1) := by decide +kernel
theorem dX1_grownAt_6 : decode cX1_grownAt 6 = .ok (.ireturn, 1) := by decide +kernel
theorem dX1_depthAt_0 : decode cX1_depthAt 0 = .ok (.aload_n 0, 1) := by decide +kernel
theorem dX1_depthAt_1 : decode cX1_depthAt 1 = .ok (.getfield 21, 3) := by decide +kernel
theorem dX1_depthAt_4 : decode cX1_depthAt 4 = .ok (.iload_n 1, 1) := by decide +kernel
theorem dX1_depthAt_5 : decode cX1_depthAt 5 = .ok (.iaload, 1) := by decide +kernel
theorem dX1_depthAt_6 : decode cX1_depthAt 6 = .ok (.ireturn, 1) := by decide +kernel
theorem dX1_lowPartAt_0 : decode cX1_lowPartAt 0 = .ok (.aload_n 0, 1) := by decide +kernel
theorem dX1_lowPartAt_1 : decode cX1_lowPartAt 1 = .ok (.getfield 9, 3) := by decide +kernel
theorem dX1_lowPartAt_4 : decode cX1_lowPartAt 4 = .ok (.iload_n 1, 1) := by decide +kernel
theorem dX1_lowPartAt_5 : decode cX1_lowPartAt 5 = .ok (.iaload, 1) := by decide +kernel
theorem dX1_lowPartAt_6 : decode cX1_lowPartAt 6 = .ok (.ifCond .ge 7, 3) := by decide +kernel
theorem dX1_lowPartAt_9 : decode cX1_lowPartAt 9 = .ok (.iconst (-1), 1) := by decide +kernel
theorem dX1_lowPartAt_10 : decode cX1_lowPartAt 10 = .ok (.goto 6, 3) := by decide +kernel
theorem dX1_lowPartAt_13 : decode cX1_lowPartAt 13 = .ok (.iload_n 1, 1) := by decide +kernel
theorem dX1_lowPartAt_14 : decode cX1_lowPartAt 14 = .ok (.iconst 1, 1) := by decide +kernel
theorem dX1_lowPartAt_15 : decode cX1_lowPartAt 15 = .ok (.iadd, 1) := by decide +kernel
theorem dX1_lowPartAt_16 : decode cX1_lowPartAt 16 = .ok (.ireturn, 1) := by decide +kernel
theorem dX1_highPartAt_0 : decode cX1_highPartAt 0 = .ok (.aload_n 0, 1) := by decide +kernel
theorem dX1_highPartAt_1 : decode cX1_highPartAt 1 = .ok (.getfield 9, 3) := by decide +kernel
theorem dX1_highPartAt_4 : decode cX1_highPartAt 4 = .ok (.iload_n 1, 1) := by decide +kernel
theorem dX1_highPartAt_5 : decode cX1_highPartAt 5 = .ok (.iaload, 1) := by decide +kernel
theorem dX1_highPartAt_6 : decode cX1_highPartAt 6 = .ok (.ifCond .ge 5, 3) := by decide +kernel
theorem dX1_highPartAt_9 : decode cX1_highPartAt 9 = .ok (.iconst (-1), 1) := by decide +kernel
theorem dX1_highPartAt_10 : decode cX1_highPartAt 10 = .ok (.ireturn, 1) := by decide +kernel
theorem dX1_highPartAt_11 : decode cX1_highPartAt 11 = .ok (.iload_n 1, 1) := by decide +kernel
theorem dX1_highPartAt_12 : decode cX1_highPartAt 12 = .ok (.iconst 2, 1) := by decide +kernel
theorem dX1_highPartAt_13 : decode cX1_highPartAt 13 = .ok (.iadd, 1) := by decide +kernel
theorem dX1_highPartAt_14 : decode cX1_highPartAt 14 = .ok (.istore_n 2, 1) := by decide +kernel
theorem dX1_highPartAt_15 : decode cX1_highPartAt 15 = .ok (.iload_n 2, 1) := by decide +kernel
theorem dX1_highPartAt_16 : decode cX1_highPartAt 16 = .ok (.aload_n 0, 1) := by decide +kernel
theorem dX1_highPartAt_17 : decode cX1_highPartAt 17 = .ok (.getfield 30, 3) := by decide +kernel
theorem dX1_highPartAt_20 : decode cX1_highPartAt 20 = .ok (.if_icmp .ge 28, 3) := by decide +kernel
theorem dX1_highPartAt_23 : decode cX1_highPartAt 23 = .ok (.aload_n 0, 1) := by decide +kernel
theorem dX1_highPartAt_24 : decode cX1_highPartAt 24 = .ok (.getfield 21, 3) := by decide +kernel
theorem dX1_highPartAt_27 : decode cX1_highPartAt 27 = .ok (.iload_n 2, 1) := by decide +kernel
theorem dX1_highPartAt_28 : decode cX1_highPartAt 28 = .ok (.iaload, 1) := by decide +kernel
theorem dX1_highPartAt_29 : decode cX1_highPartAt 29 = .ok (.aload_n 0, 1) := by decide +kernel
theorem dX1_highPartAt_30 : decode cX1_highPartAt 30 = .ok (.getfield 21, 3) := by decide +kernel
theorem dX1_highPartAt_33 : decode cX1_highPartAt 33 = .ok (.iload_n 1, 1) := by decide +kernel
theorem dX1_highPartAt_34 : decode cX1_highPartAt 34 = .ok (.iaload, 1) := by decide +kernel
theorem dX1_highPartAt_35 : decode cX1_highPartAt 35 = .ok (.iconst 1, 1) := by decide +kernel
theorem dX1_highPartAt_36 : decode cX1_highPartAt 36 = .ok (.iadd, 1) := by decide +kernel
theorem dX1_highPartAt_37 : decode cX1_highPartAt 37 = .ok (.if_icmp .ne 5, 3) := by decide +kernel
theorem dX1_highPartAt_40 : decode cX1_highPartAt 40 = .ok (.iload_n 2, 1) := by decide +kernel
theorem dX1_highPartAt_41 : decode cX1_highPartAt 41 = .ok (.ireturn, 1) := by decide +kernel
theorem dX1_highPartAt_42 : decode cX1_highPartAt 42 = .ok (.iinc 2 1, 3) := by decide +kernel
theorem dX1_highPartAt_45 : decode cX1_highPartAt 45 = .ok (.goto (-30), 3) := by decide +kernel
theorem dX1_highPartAt_48 : decode cX1_highPartAt 48 = .ok (.iconst (-1), 1) := by decide +kernel
theorem dX1_highPartAt_49 : decode cX1_highPartAt 49 = .ok (.ireturn, 1) := by decide +kernel
theorem dX1_howManyNodes_0 : decode cX1_howManyNodes 0 = .ok (.aload_n 0, 1) := by decide +kernel
theorem dX1_howManyNodes_1 : decode cX1_howManyNodes 1 = .ok (.getfield 30, 3) := by decide +kernel
theorem dX1_howManyNodes_4 : decode cX1_howManyNodes 4 = .ok (.ireturn, 1) := by decide +kernel
theorem dX1_howManyLeaves_0 : decode cX1_howManyLeaves 0 = .ok (.iconst 0, 1) := by decide +kernel
theorem dX1_howManyLeaves_1 : decode cX1_howManyLeaves 1 = .ok (.istore_n 1, 1) := by decide +kernel
theorem dX1_howManyLeaves_2 : decode cX1_howManyLeaves 2 = .ok (.iconst 0, 1) := by decide +kernel
theorem dX1_howManyLeaves_3 : decode cX1_howManyLeaves 3 = .ok (.istore_n 2, 1) := by decide +kernel
theorem dX1_howManyLeaves_4 : decode cX1_howManyLeaves 4 = .ok (.iload_n 2, 1) := by decide +kernel
theorem dX1_howManyLeaves_5 : decode cX1_howManyLeaves 5 = .ok (.aload_n 0, 1) := by decide +kernel
theorem dX1_howManyLeaves_6 : decode cX1_howManyLeaves 6 = .ok (.getfield 30, 3) := by decide +kernel
theorem dX1_howManyLeaves_9 : decode cX1_howManyLeaves 9 = .ok (.if_icmp .ge 21, 3) := by decide +kernel
theorem dX1_howManyLeaves_12 : decode cX1_howManyLeaves 12 = .ok (.aload_n 0, 1) := by decide +kernel
theorem dX1_howManyLeaves_13 : decode cX1_howManyLeaves 13 = .ok (.getfield 9, 3) := by decide +kernel
theorem dX1_howManyLeaves_16 : decode cX1_howManyLeaves 16 = .ok (.iload_n 2, 1) := by decide +kernel
theorem dX1_howManyLeaves_17 : decode cX1_howManyLeaves 17 = .ok (.iaload, 1) := by decide +kernel
theorem dX1_howManyLeaves_18 : decode cX1_howManyLeaves 18 = .ok (.ifCond .ge 6, 3) := by decide +kernel
theorem dX1_howManyLeaves_21 : decode cX1_howManyLeaves 21 = .ok (.iinc 1 1, 3) := by decide +kernel
theorem dX1_howManyLeaves_24 : decode cX1_howManyLeaves 24 = .ok (.iinc 2 1, 3) := by decide +kernel
theorem dX1_howManyLeaves_27 : decode cX1_howManyLeaves 27 = .ok (.goto (-23), 3) := by decide +kernel
theorem dX1_howManyLeaves_30 : decode cX1_howManyLeaves 30 = .ok (.iload_n 1, 1) := by decide +kernel
theorem dX1_howManyLeaves_31 : decode cX1_howManyLeaves 31 = .ok (.ireturn, 1) := by decide +kernel
theorem dX1_deepest_0 : decode cX1_deepest 0 = .ok (.iconst 0, 1) := by decide +kernel
theorem dX1_deepest_1 : decode cX1_deepest 1 = .ok (.istore_n 1, 1) := by decide +kernel
theorem dX1_deepest_2 : decode cX1_deepest 2 = .ok (.iconst 0, 1) := by decide +kernel
theorem dX1_deepest_3 : decode cX1_deepest 3 = .ok (.istore_n 2, 1) := by decide +kernel
theorem dX1_deepest_4 : decode cX1_deepest 4 = .ok (.iload_n 2, 1) := by decide +kernel
theorem dX1_deepest_5 : decode cX1_deepest 5 = .ok (.aload_n 0, 1) := by decide +kernel
theorem dX1_deepest_6 : decode cX1_deepest 6 = .ok (.getfield 30, 3) := by decide +kernel
theorem dX1_deepest_9 : decode cX1_deepest 9 = .ok (.if_icmp .ge 20, 3) := by decide +kernel
theorem dX1_deepest_12 : decode cX1_deepest 12 = .ok (.iload_n 1, 1) := by decide +kernel
theorem dX1_deepest_13 : decode cX1_deepest 13 = .ok (.aload_n 0, 1) := by decide +kernel
theorem dX1_deepest_14 : decode cX1_deepest 14 = .ok (.getfield 21, 3) := by decide +kernel
theorem dX1_deepest_17 : decode cX1_deepest 17 = .ok (.iload_n 2, 1) := by decide +kernel
theorem dX1_deepest_18 : decode cX1_deepest 18 = .ok (.iaload, 1) := by decide +kernel
theorem dX1_deepest_19 : decode cX1_deepest 19 = .ok (.invokestatic 89, 3) := by decide +kernel
theorem dX1_deepest_22 : decode cX1_deepest 22 = .ok (.istore_n 1, 1) := by decide +kernel
theorem dX1_deepest_23 : decode cX1_deepest 23 = .ok (.iinc 2 1, 3) := by decide +kernel
theorem dX1_deepest_26 : decode cX1_deepest 26 = .ok (.goto (-22), 3) := by decide +kernel
theorem dX1_deepest_29 : decode cX1_deepest 29 = .ok (.iload_n 1, 1) := by decide +kernel
theorem dX1_deepest_30 : decode cX1_deepest 30 = .ok (.ireturn, 1) := by decide +kernel
theorem dJ6_bitCount_0f7a4_0 : decode cJ6_bitCount_0f7a4 0 = .ok (.iload_n 0, 1) := by decide +kernel
theorem dJ6_bitCount_0f7a4_1 : decode cJ6_bitCount_0f7a4 1 = .ok (.iload_n 0, 1) := by decide +kernel
theorem dJ6_bitCount_0f7a4_2 : decode cJ6_bitCount_0f7a4 2 = .ok (.iconst 1, 1) := by decide +kernel
theorem dJ6_bitCount_0f7a4_3 : decode cJ6_bitCount_0f7a4 3 = .ok (.iushr, 1) := by decide +kernel
theorem dJ6_bitCount_0f7a4_4 : decode cJ6_bitCount_0f7a4 4 = .ok (.ldc_w 265, 3) := by decide +kernel
theorem dJ6_bitCount_0f7a4_7 : decode cJ6_bitCount_0f7a4 7 = .ok (.iand, 1) := by decide +kernel
theorem dJ6_bitCount_0f7a4_8 : decode cJ6_bitCount_0f7a4 8 = .ok (.isub, 1) := by decide +kernel
theorem dJ6_bitCount_0f7a4_9 : decode cJ6_bitCount_0f7a4 9 = .ok (.istore_n 0, 1) := by decide +kernel
theorem dJ6_bitCount_0f7a4_10 : decode cJ6_bitCount_0f7a4 10 = .ok (.iload_n 0, 1) := by decide +kernel
theorem dJ6_bitCount_0f7a4_11 : decode cJ6_bitCount_0f7a4 11 = .ok (.ldc_w 266, 3) := by decide +kernel
theorem dJ6_bitCount_0f7a4_14 : decode cJ6_bitCount_0f7a4 14 = .ok (.iand, 1) := by decide +kernel
theorem dJ6_bitCount_0f7a4_15 : decode cJ6_bitCount_0f7a4 15 = .ok (.iload_n 0, 1) := by decide +kernel
theorem dJ6_bitCount_0f7a4_16 : decode cJ6_bitCount_0f7a4 16 = .ok (.iconst 2, 1) := by decide +kernel
theorem dJ6_bitCount_0f7a4_17 : decode cJ6_bitCount_0f7a4 17 = .ok (.iushr, 1) := by decide +kernel
theorem dJ6_bitCount_0f7a4_18 : decode cJ6_bitCount_0f7a4 18 = .ok (.ldc_w 266, 3) := by decide +kernel
theorem dJ6_bitCount_0f7a4_21 : decode cJ6_bitCount_0f7a4 21 = .ok (.iand, 1) := by decide +kernel
theorem dJ6_bitCount_0f7a4_22 : decode cJ6_bitCount_0f7a4 22 = .ok (.iadd, 1) := by decide +kernel
theorem dJ6_bitCount_0f7a4_23 : decode cJ6_bitCount_0f7a4 23 = .ok (.istore_n 0, 1) := by decide +kernel
theorem dJ6_bitCount_0f7a4_24 : decode cJ6_bitCount_0f7a4 24 = .ok (.iload_n 0, 1) := by decide +kernel
theorem dJ6_bitCount_0f7a4_25 : decode cJ6_bitCount_0f7a4 25 = .ok (.iload_n 0, 1) := by decide +kernel
theorem dJ6_bitCount_0f7a4_26 : decode cJ6_bitCount_0f7a4 26 = .ok (.iconst 4, 1) := by decide +kernel
theorem dJ6_bitCount_0f7a4_27 : decode cJ6_bitCount_0f7a4 27 = .ok (.iushr, 1) := by decide +kernel
theorem dJ6_bitCount_0f7a4_28 : decode cJ6_bitCount_0f7a4 28 = .ok (.iadd, 1) := by decide +kernel
theorem dJ6_bitCount_0f7a4_29 : decode cJ6_bitCount_0f7a4 29 = .ok (.ldc_w 267, 3) := by decide +kernel
theorem dJ6_bitCount_0f7a4_32 : decode cJ6_bitCount_0f7a4 32 = .ok (.iand, 1) := by decide +kernel
theorem dJ6_bitCount_0f7a4_33 : decode cJ6_bitCount_0f7a4 33 = .ok (.istore_n 0, 1) := by decide +kernel
theorem dJ6_bitCount_0f7a4_34 : decode cJ6_bitCount_0f7a4 34 = .ok (.iload_n 0, 1) := by decide +kernel
theorem dJ6_bitCount_0f7a4_35 : decode cJ6_bitCount_0f7a4 35 = .ok (.iload_n 0, 1) := by decide +kernel
theorem dJ6_bitCount_0f7a4_36 : decode cJ6_bitCount_0f7a4 36 = .ok (.bipush 8, 2) := by decide +kernel
theorem dJ6_bitCount_0f7a4_38 : decode cJ6_bitCount_0f7a4 38 = .ok (.iushr, 1) := by decide +kernel
theorem dJ6_bitCount_0f7a4_39 : decode cJ6_bitCount_0f7a4 39 = .ok (.iadd, 1) := by decide +kernel
theorem dJ6_bitCount_0f7a4_40 : decode cJ6_bitCount_0f7a4 40 = .ok (.istore_n 0, 1) := by decide +kernel
theorem dJ6_bitCount_0f7a4_41 : decode cJ6_bitCount_0f7a4 41 = .ok (.iload_n 0, 1) := by decide +kernel
end
section
theorem dJ6_bitCount_0f7a4_42 : decode cJ6_bitCount_0f7a4 42 = .ok (.iload_n 0, 1) := by decide +kernel
theorem dJ6_bitCount_0f7a4_43 : decode cJ6_bitCount_0f7a4 43 = .ok (.bipush 16, 2) := by decide +kernel
theorem dJ6_bitCount_0f7a4_45 : decode cJ6_bitCount_0f7a4 45 = .ok (.iushr, 1) := by decide +kernel
theorem dJ6_bitCount_0f7a4_46 : decode cJ6_bitCount_0f7a4 46 = .ok (.iadd, 1) := by decide +kernel
theorem dJ6_bitCount_0f7a4_47 : decode cJ6_bitCount_0f7a4 47 = .ok (.istore_n 0, 1) := by decide +kernel
theorem dJ6_bitCount_0f7a4_48 : decode cJ6_bitCount_0f7a4 48 = .ok (.iload_n 0, 1) := by decide +kernel
theorem dJ6_bitCount_0f7a4_49 : decode cJ6_bitCount_0f7a4 49 = .ok (.bipush 63, 2) := by decide +kernel
theorem dJ6_bitCount_0f7a4_51 : decode cJ6_bitCount_0f7a4 51 = .ok (.iand, 1) := by decide +kernel
theorem dJ6_bitCount_0f7a4_52 : decode cJ6_bitCount_0f7a4 52 = .ok (.ireturn, 1) := by decide +kernel
theorem dJ9_max_7cf53_0 : decode cJ9_max_7cf53 0 = .ok (.iload_n 0, 1) := by decide +kernel
theorem dJ9_max_7cf53_1 : decode cJ9_max_7cf53 1 = .ok (.iload_n 1, 1) := by decide +kernel
theorem dJ9_max_7cf53_2 : decode cJ9_max_7cf53 2 = .ok (.if_icmp .lt 7, 3) := by decide +kernel
theorem dJ9_max_7cf53_5 : decode cJ9_max_7cf53 5 = .ok (.iload_n 0, 1) := by decide +kernel
theorem dJ9_max_7cf53_6 : decode cJ9_max_7cf53 6 = .ok (.goto 4, 3) := by decide +kernel
theorem dJ9_max_7cf53_9 : decode cJ9_max_7cf53 9 = .ok (.iload_n 1, 1) := by decide +kernel
theorem dJ9_max_7cf53_10 : decode cJ9_max_7cf53 10 = .ok (.ireturn, 1) := by decide +kernel
theorem dJ9_min_7cf53_0 : decode cJ9_min_7cf53 0 = .ok (.iload_n 0, 1) := by decide +kernel
theorem dJ9_min_7cf53_1 : decode cJ9_min_7cf53 1 = .ok (.iload_n 1, 1) := by decide +kernel
theorem dJ9_min_7cf53_2 : decode cJ9_min_7cf53 2 = .ok (.if_icmp .gt 7, 3) := by decide +kernel
theorem dJ9_min_7cf53_5 : decode cJ9_min_7cf53 5 = .ok (.iload_n 0, 1) := by decide +kernel
theorem dJ9_min_7cf53_6 : decode cJ9_min_7cf53 6 = .ok (.goto 4, 3) := by decide +kernel
theorem dJ9_min_7cf53_9 : decode cJ9_min_7cf53 9 = .ok (.iload_n 1, 1) := by decide +kernel
theorem dJ9_min_7cf53_10 : decode cJ9_min_7cf53 10 = .ok (.ireturn, 1) := by decide +kernel
theorem dX2_init_0 : decode cX2_init 0 = .ok (.aload_n 0, 1) := by decide +kernel
theorem dX2_init_1 : decode cX2_init 1 = .ok (.invokespecial 3, 3) := by decide +kernel
theorem dX2_init_4 : decode cX2_init 4 = .ok (.aload_n 0, 1) := by decide +kernel
theorem dX2_init_5 : decode cX2_init 5 = .ok (.new 9, 3) := by decide +kernel
theorem dX2_init_8 : decode cX2_init 8 = .ok (.dup, 1) := by decide +kernel
theorem dX2_init_9 : decode cX2_init 9 = .ok (.invokespecial 11, 3) := by decide +kernel
theorem dX2_init_12 : decode cX2_init 12 = .ok (.putfield 12, 3) := by decide +kernel
theorem dX2_init_15 : decode cX2_init 15 = .ok (.aload_n 0, 1) := by decide +kernel
theorem dX2_init_16 : decode cX2_init 16 = .ok (.iconst 5, 1) := by decide +kernel
theorem dX2_init_17 : decode cX2_init 17 = .ok (.anewarray 16, 3) := by decide +kernel
theorem dX2_init_20 : decode cX2_init 20 = .ok (.putfield 18, 3) := by decide +kernel
theorem dX2_init_23 : decode cX2_init 23 = .ok (.aload_n 0, 1) := by decide +kernel
theorem dX2_init_24 : decode cX2_init 24 = .ok (.new 16, 3) := by decide +kernel
theorem dX2_init_27 : decode cX2_init 27 = .ok (.dup, 1) := by decide +kernel
theorem dX2_init_28 : decode cX2_init 28 = .ok (.invokespecial 22, 3) := by decide +kernel
theorem dX2_init_31 : decode cX2_init 31 = .ok (.putfield 23, 3) := by decide +kernel
theorem dX2_init_34 : decode cX2_init 34 = .ok (.aload_n 0, 1) := by decide +kernel
theorem dX2_init_35 : decode cX2_init 35 = .ok (.iconst 0, 1) := by decide +kernel
theorem dX2_init_36 : decode cX2_init 36 = .ok (.putfield 27, 3) := by decide +kernel
theorem dX2_init_39 : decode cX2_init 39 = .ok (.aload_n 0, 1) := by decide +kernel
theorem dX2_init_40 : decode cX2_init 40 = .ok (.iconst 3, 1) := by decide +kernel
theorem dX2_init_41 : decode cX2_init 41 = .ok (.putfield 31, 3) := by decide +kernel
theorem dX2_init_44 : decode cX2_init 44 = .ok (.aload_n 0, 1) := by decide +kernel
theorem dX2_init_45 : decode cX2_init 45 = .ok (.iconst 1, 1) := by decide +kernel
theorem dX2_init_46 : decode cX2_init 46 = .ok (.putfield 34, 3) := by decide +kernel
theorem dX2_init_49 : decode cX2_init 49 = .ok (.iconst 0, 1) := by decide +kernel
theorem dX2_init_50 : decode cX2_init 50 = .ok (.istore_n 1, 1) := by decide +kernel
theorem dX2_init_51 : decode cX2_init 51 = .ok (.iload_n 1, 1) := by decide +kernel
theorem dX2_init_52 : decode cX2_init 52 = .ok (.iconst 5, 1) := by decide +kernel
theorem dX2_init_53 : decode cX2_init 53 = .ok (.if_icmp .ge 22, 3) := by decide +kernel
theorem dX2_init_56 : decode cX2_init 56 = .ok (.aload_n 0, 1) := by decide +kernel
theorem dX2_init_57 : decode cX2_init 57 = .ok (.getfield 18, 3) := by decide +kernel
theorem dX2_init_60 : decode cX2_init 60 = .ok (.iload_n 1, 1) := by decide +kernel
theorem dX2_init_61 : decode cX2_init 61 = .ok (.new 16, 3) := by decide +kernel
theorem dX2_init_64 : decode cX2_init 64 = .ok (.dup, 1) := by decide +kernel
theorem dX2_init_65 : decode cX2_init 65 = .ok (.invokespecial 22, 3) := by decide +kernel
theorem dX2_init_68 : decode cX2_init 68 = .ok (.aastore, 1) := by decide +kernel
theorem dX2_init_69 : decode cX2_init 69 = .ok (.iinc 1 1, 3) := by decide +kernel
theorem dX2_init_72 : decode cX2_init 72 = .ok (.goto (-21), 3) := by decide +kernel
theorem dX2_init_75 : decode cX2_init 75 = .ok (.return_, 1) := by decide +kernel
theorem dX2_bean_0 : decode cX2_bean 0 = .ok (.iload_n 1, 1) := by decide +kernel
theorem dX2_bean_1 : decode cX2_bean 1 = .ok (.iload_n 2, 1) := by decide +kernel
theorem dX2_bean_2 : decode cX2_bean 2 = .ok (.iload_n 3, 1) := by decide +kernel
theorem dX2_bean_3 : decode cX2_bean 3 = .ok (.invokestatic 37, 3) := by decide +kernel
theorem dX2_bean_6 : decode cX2_bean 6 = .ok (.ifCond .ne 13, 3) := by decide +kernel
theorem dX2_bean_9 : decode cX2_bean 9 = .ok (.new 41, 3) := by decide +kernel
theorem dX2_bean_12 : decode cX2_bean 12 = .ok (.dup, 1) := by decide +kernel
theorem dX2_bean_13 : decode cX2_bean 13 = .ok (.ldc 43, 2) := by decide +kernel
theorem dX2_bean_15 : decode cX2_bean 15 = .ok (.invokespecial 45, 3) := by decide +kernel
theorem dX2_bean_18 : decode cX2_bean 18 = .ok (.athrow, 1) := by decide +kernel
theorem dX2_bean_19 : decode cX2_bean 19 = .ok (.iload 4, 2) := by decide +kernel
theorem dX2_bean_21 : decode cX2_bean 21 = .ok (.invokestatic 48, 3) := by decide +kernel
theorem dX2_bean_24 : decode cX2_bean 24 = .ok (.ifCond .ne 13, 3) := by decide +kernel
theorem dX2_bean_27 : decode cX2_bean 27 = .ok (.new 41, 3) := by decide +kernel
theorem dX2_bean_30 : decode cX2_bean 30 = .ok (.dup, 1) := by decide +kernel
theorem dX2_bean_31 : decode cX2_bean 31 = .ok (.ldc 52, 2) := by decide +kernel
theorem dX2_bean_33 : decode cX2_bean 33 = .ok (.invokespecial 45, 3) := by decide +kernel
theorem dX2_bean_36 : decode cX2_bean 36 = .ok (.athrow, 1) := by decide +kernel
theorem dX2_bean_37 : decode cX2_bean 37 = .ok (.aload_n 0, 1) := by decide +kernel
theorem dX2_bean_38 : decode cX2_bean 38 = .ok (.getfield 12, 3) := by decide +kernel
theorem dX2_bean_41 : decode cX2_bean 41 = .ok (.invokevirtual 54, 3) := by decide +kernel
theorem dX2_bean_44 : decode cX2_bean 44 = .ok (.bipush 20, 2) := by decide +kernel
theorem dX2_bean_46 : decode cX2_bean 46 = .ok (.if_icmp .lt 13, 3) := by decide +kernel
theorem dX2_bean_49 : decode cX2_bean 49 = .ok (.new 58, 3) := by decide +kernel
theorem dX2_bean_52 : decode cX2_bean 52 = .ok (.dup, 1) := by decide +kernel
theorem dX2_bean_53 : decode cX2_bean 53 = .ok (.ldc 60, 2) := by decide +kernel
theorem dX2_bean_55 : decode cX2_bean 55 = .ok (.invokespecial 62, 3) := by decide +kernel
theorem dX2_bean_58 : decode cX2_bean 58 = .ok (.athrow, 1) := by decide +kernel
theorem dX2_bean_59 : decode cX2_bean 59 = .ok (.aload_n 0, 1) := by decide +kernel
theorem dX2_bean_60 : decode cX2_bean 60 = .ok (.getfield 12, 3) := by decide +kernel
theorem dX2_bean_63 : decode cX2_bean 63 = .ok (.iload_n 1, 1) := by decide +kernel
theorem dX2_bean_64 : decode cX2_bean 64 = .ok (.iload_n 2, 1) := by decide +kernel
theorem dX2_bean_65 : decode cX2_bean 65 = .ok (.iload_n 3, 1) := by decide +kernel
theorem dX2_bean_66 : decode cX2_bean 66 = .ok (.iload 4, 2) := by decide +kernel
theorem dX2_bean_68 : decode cX2_bean 68 = .ok (.invokevirtual 63, 3) := by decide +kernel
theorem dX2_bean_71 : decode cX2_bean 71 = .ok (.ireturn, 1) := by decide +kernel
theorem dX2_check_0 : decode cX2_check 0 = .ok (.aload_n 0, 1) := by decide +kernel
theorem dX2_check_1 : decode cX2_check 1 = .ok (.iload_n 1, 1) := by decide +kernel
theorem dX2_check_2 : decode cX2_check 2 = .ok (.invokevirtual 67, 3) := by decide +kernel
theorem dX2_check_5 : decode cX2_check 5 = .ok (.ifCond .ne 13, 3) := by decide +kernel
theorem dX2_check_8 : decode cX2_check 8 = .ok (.new 70, 3) := by decide +kernel
theorem dX2_check_11 : decode cX2_check 11 = .ok (.dup, 1) := by decide +kernel
theorem dX2_check_12 : decode cX2_check 12 = .ok (.ldc 72, 2) := by decide +kernel
theorem dX2_check_14 : decode cX2_check 14 = .ok (.invokespecial 74, 3) := by decide +kernel
theorem dX2_check_17 : decode cX2_check 17 = .ok (.athrow, 1) := by decide +kernel
theorem dX2_check_18 : decode cX2_check 18 = .ok (.aload_n 0, 1) := by decide +kernel
theorem dX2_check_19 : decode cX2_check 19 = .ok (.getfield 12, 3) := by decide +kernel
theorem dX2_check_22 : decode cX2_check 22 = .ok (.iload_n 1, 1) := by decide +kernel
theorem dX2_check_23 : decode cX2_check 23 = .ok (.invokevirtual 83, 3) := by decide +kernel
theorem dX2_check_26 : decode cX2_check 26 = .ok (.istore_n 3, 1) := by decide +kernel
theorem dX2_check_27 : decode cX2_check 27 = .ok (.aload_n 0, 1) := by decide +kernel
theorem dX2_check_28 : decode cX2_check 28 = .ok (.getfield 12, 3) := by decide +kernel
theorem dX2_check_31 : decode cX2_check 31 = .ok (.iload_n 1, 1) := by decide +kernel
theorem dX2_check_32 : decode cX2_check 32 = .ok (.iload_n 2, 1) := by decide +kernel
theorem dX2_check_33 : decode cX2_check 33 = .ok (.invokevirtual 86, 3) := by decide +kernel
theorem dX2_check_36 : decode cX2_check 36 = .ok (.iload_n 3, 1) := by decide +kernel
theorem dX2_check_37 : decode cX2_check 37 = .ok (.ireturn, 1) := by decide +kernel
theorem dX2_setDepth_0 : decode cX2_setDepth 0 = .ok (.iload_n 1, 1) := by decide +kernel
theorem dX2_setDepth_1 : decode cX2_setDepth 1 = .ok (.invokestatic 90, 3) := by decide +kernel
theorem dX2_setDepth_4 : decode cX2_setDepth 4 = .ok (.ifCond .ne 13, 3) := by decide +kernel
theorem dX2_setDepth_7 : decode cX2_setDepth 7 = .ok (.new 41, 3) := by decide +kernel
theorem dX2_setDepth_10 : decode cX2_setDepth 10 = .ok (.dup, 1) := by decide +kernel
theorem dX2_setDepth_11 : decode cX2_setDepth 11 = .ok (.ldc 93, 2) := by decide +kernel
theorem dX2_setDepth_13 : decode cX2_setDepth 13 = .ok (.invokespecial 45, 3) := by decide +kernel
theorem dX2_setDepth_16 : decode cX2_setDepth 16 = .ok (.athrow, 1) := by decide +kernel
theorem dX2_setDepth_17 : decode cX2_setDepth 17 = .ok (.aload_n 0, 1) := by decide +kernel
theorem dX2_setDepth_18 : decode cX2_setDepth 18 = .ok (.getfield 31, 3) := by decide +kernel
theorem dX2_setDepth_21 : decode cX2_setDepth 21 = .ok (.istore_n 2, 1) := by decide +kernel
theorem dX2_setDepth_22 : decode cX2_setDepth 22 = .ok (.aload_n 0, 1) := by decide +kernel
theorem dX2_setDepth_23 : decode cX2_setDepth 23 = .ok (.iload_n 1, 1) := by decide +kernel
theorem dX2_setDepth_24 : decode cX2_setDepth 24 = .ok (.putfield 31, 3) := by decide +kernel
theorem dX2_setDepth_27 : decode cX2_setDepth 27 = .ok (.iload_n 2, 1) := by decide +kernel
theorem dX2_setDepth_28 : decode cX2_setDepth 28 = .ok (.ireturn, 1) := by decide +kernel
theorem dX2_setLeast_0 : decode cX2_setLeast 0 = .ok (.iload_n 1, 1) := by decide +kernel
theorem dX2_setLeast_1 : decode cX2_setLeast 1 = .ok (.invokestatic 95, 3) := by decide +kernel
theorem dX2_setLeast_4 : decode cX2_setLeast 4 = .ok (.ifCond .ne 13, 3) := by decide +kernel
theorem dX2_setLeast_7 : decode cX2_setLeast 7 = .ok (.new 41, 3) := by decide +kernel
theorem dX2_setLeast_10 : decode cX2_setLeast 10 = .ok (.dup, 1) := by decide +kernel
theorem dX2_setLeast_11 : decode cX2_setLeast 11 = .ok (.ldc 98, 2) := by decide +kernel
theorem dX2_setLeast_13 : decode cX2_setLeast 13 = .ok (.invokespecial 45, 3) := by decide +kernel
theorem dX2_setLeast_16 : decode cX2_setLeast 16 = .ok (.athrow, 1) := by decide +kernel
theorem dX2_setLeast_17 : decode cX2_setLeast 17 = .ok (.aload_n 0, 1) := by decide +kernel
theorem dX2_setLeast_18 : decode cX2_setLeast 18 = .ok (.getfield 34, 3) := by decide +kernel
theorem dX2_setLeast_21 : decode cX2_setLeast 21 = .ok (.istore_n 2, 1) := by decide +kernel
theorem dX2_setLeast_22 : decode cX2_setLeast 22 = .ok (.aload_n 0, 1) := by decide +kernel
theorem dX2_setLeast_23 : decode cX2_setLeast 23 = .ok (.iload_n 1, 1) := by decide +kernel
theorem dX2_setLeast_24 : decode cX2_setLeast 24 = .ok (.putfield 34, 3) := by decide +kernel
theorem dX2_setLeast_27 : decode cX2_setLeast 27 = .ok (.iload_n 2, 1) := by decide +kernel
theorem dX2_setLeast_28 : decode cX2_setLeast 28 = .ok (.ireturn, 1) := by decide +kernel
theorem dX2_plant_0 : decode cX2_plant 0 = .ok (.iload_n 1, 1) := by decide +kernel
theorem dX2_plant_1 : decode cX2_plant 1 = .ok (.iconst 1, 1) := by decide +kernel
theorem dX2_plant_2 : decode cX2_plant 2 = .ok (.if_icmp .lt 8, 3) := by decide +kernel
theorem dX2_plant_5 : decode cX2_plant 5 = .ok (.iload_n 1, 1) := by decide +kernel
theorem dX2_plant_6 : decode cX2_plant 6 = .ok (.iconst 5, 1) := by decide +kernel
theorem dX2_plant_7 : decode cX2_plant 7 = .ok (.if_icmp .le 13, 3) := by decide +kernel
theorem dX2_plant_10 : decode cX2_plant 10 = .ok (.new 41, 3) := by decide +kernel
theorem dX2_plant_13 : decode cX2_plant 13 = .ok (.dup, 1) := by decide +kernel
theorem dX2_plant_14 : decode cX2_plant 14 = .ok (.ldc 100, 2) := by decide +kernel
theorem dX2_plant_16 : decode cX2_plant 16 = .ok (.invokespecial 45, 3) := by decide +kernel
theorem dX2_plant_19 : decode cX2_plant 19 = .ok (.athrow, 1) := by decide +kernel
theorem dX2_plant_20 : decode cX2_plant 20 = .ok (.iload_n 2, 1) := by decide +kernel
theorem dX2_plant_21 : decode cX2_plant 21 = .ok (.iconst (-1), 1) := by decide +kernel
theorem dX2_plant_22 : decode cX2_plant 22 = .ok (.if_icmp .lt 8, 3) := by decide +kernel
theorem dX2_plant_25 : decode cX2_plant 25 = .ok (.iload_n 2, 1) := by decide +kernel
theorem dX2_plant_26 : decode cX2_plant 26 = .ok (.iload_n 1, 1) := by decide +kernel
theorem dX2_plant_27 : decode cX2_plant 27 = .ok (.if_icmp .lt 13, 3) := by decide +kernel
theorem dX2_plant_30 : decode cX2_plant 30 = .ok (.new 41, 3) := by decide +kernel
theorem dX2_plant_33 : decode cX2_plant 33 = .ok (.dup, 1) := by decide +kernel
theorem dX2_plant_34 : decode cX2_plant 34 = .ok (.ldc 102, 2) := by decide +kernel
theorem dX2_plant_36 : decode cX2_plant 36 = .ok (.invokespecial 45, 3) := by decide +kernel
theorem dX2_plant_39 : decode cX2_plant 39 = .ok (.athrow, 1) := by decide +kernel
theorem dX2_plant_40 : decode cX2_plant 40 = .ok (.aload_n 0, 1) := by decide +kernel
theorem dX2_plant_41 : decode cX2_plant 41 = .ok (.getfield 27, 3) := by decide +kernel
theorem dX2_plant_44 : decode cX2_plant 44 = .ok (.iconst 5, 1) := by decide +kernel
theorem dX2_plant_45 : decode cX2_plant 45 = .ok (.if_icmp .lt 13, 3) := by decide +kernel
theorem dX2_plant_48 : decode cX2_plant 48 = .ok (.new 58, 3) := by decide +kernel
theorem dX2_plant_51 : decode cX2_plant 51 = .ok (.dup, 1) := by decide +kernel
theorem dX2_plant_52 : decode cX2_plant 52 = .ok (.ldc 104, 2) := by decide +kernel
theorem dX2_plant_54 : decode cX2_plant 54 = .ok (.invokespecial 62, 3) := by decide +kernel
theorem dX2_plant_57 : decode cX2_plant 57 = .ok (.athrow, 1) := by decide +kernel
theorem dX2_plant_58 : decode cX2_plant 58 = .ok (.aload_n 0, 1) := by decide +kernel
theorem dX2_plant_59 : decode cX2_plant 59 = .ok (.getfield 12, 3) := by decide +kernel
theorem dX2_plant_62 : decode cX2_plant 62 = .ok (.iload_n 1, 1) := by decide +kernel
theorem dX2_plant_63 : decode cX2_plant 63 = .ok (.iload_n 2, 1) := by decide +kernel
theorem dX2_plant_64 : decode cX2_plant 64 = .ok (.invokevirtual 106, 3) := by decide +kernel
theorem dX2_plant_67 : decode cX2_plant 67 = .ok (.istore_n 3, 1) := by decide +kernel
theorem dX2_plant_68 : decode cX2_plant 68 = .ok (.iload_n 3, 1) := by decide +kernel
theorem dX2_plant_69 : decode cX2_plant 69 = .ok (.ifCond .ne 13, 3) := by decide +kernel
theorem dX2_plant_72 : decode cX2_plant 72 = .ok (.new 58, 3) := by decide +kernel
theorem dX2_plant_75 : decode cX2_plant 75 = .ok (.dup, 1) := by decide +kernel
theorem dX2_plant_76 : decode cX2_plant 76 = .ok (.ldc 110, 2) := by decide +kernel
theorem dX2_plant_78 : decode cX2_plant 78 = .ok (.invokespecial 62, 3) := by decide +kernel
theorem dX2_plant_81 : decode cX2_plant 81 = .ok (.athrow, 1) := by decide +kernel
theorem dX2_plant_82 : decode cX2_plant 82 = .ok (.aload_n 0, 1) := by decide +kernel
theorem dX2_plant_83 : decode cX2_plant 83 = .ok (.getfield 18, 3) := by decide +kernel
theorem dX2_plant_86 : decode cX2_plant 86 = .ok (.aload_n 0, 1) := by decide +kernel
theorem dX2_plant_87 : decode cX2_plant 87 = .ok (.getfield 27, 3) := by decide +kernel
theorem dX2_plant_90 : decode cX2_plant 90 = .ok (.aaload, 1) := by decide +kernel
theorem dX2_plant_91 : decode cX2_plant 91 = .ok (.astore 4, 2) := by decide +kernel
theorem dX2_plant_93 : decode cX2_plant 93 = .ok (.aload 4, 2) := by decide +kernel
theorem dX2_plant_95 : decode cX2_plant 95 = .ok (.aload_n 0, 1) := by decide +kernel
theorem dX2_plant_96 : decode cX2_plant 96 = .ok (.getfield 12, 3) := by decide +kernel
theorem dX2_plant_99 : decode cX2_plant 99 = .ok (.iload_n 3, 1) := by decide +kernel
theorem dX2_plant_100 : decode cX2_plant 100 = .ok (.aload_n 0, 1) := by decide +kernel
theorem dX2_plant_101 : decode cX2_plant 101 = .ok (.getfield 31, 3) := by decide +kernel
theorem dX2_plant_104 : decode cX2_plant 104 = .ok (.aload_n 0, 1) := by decide +kernel
theorem dX2_plant_105 : decode cX2_plant 105 = .ok (.getfield 34, 3) := by decide +kernel
theorem dX2_plant_108 : decode cX2_plant 108 = .ok (.invokevirtual 112, 3) := by decide +kernel
theorem dX2_plant_111 : decode cX2_plant 111 = .ok (.aload 4, 2) := by decide +kernel
theorem dX2_plant_113 : decode cX2_plant 113 = .ok (.iload_n 1, 1) := by decide +kernel
theorem dX2_plant_114 : decode cX2_plant 114 = .ok (.iload_n 2, 1) := by decide +kernel
theorem dX2_plant_115 : decode cX2_plant 115 = .ok (.invokevirtual 116, 3) := by decide +kernel
theorem dX2_plant_118 : decode cX2_plant 118 = .ok (.aload_n 0, 1) := by decide +kernel
theorem dX2_plant_119 : decode cX2_plant 119 = .ok (.dup, 1) := by decide +kernel
theorem dX2_plant_120 : decode cX2_plant 120 = .ok (.getfield 27, 3) := by decide +kernel
theorem dX2_plant_123 : decode cX2_plant 123 = .ok (.iconst 1, 1) := by decide +kernel
theorem dX2_plant_124 : decode cX2_plant 124 = .ok (.iadd, 1) := by decide +kernel
theorem dX2_plant_125 : decode cX2_plant 125 = .ok (.putfield 27, 3) := by decide +kernel
theorem dX2_plant_128 : decode cX2_plant 128 = .ok (.aload_n 0, 1) := by decide +kernel
theorem dX2_plant_129 : decode cX2_plant 129 = .ok (.getfield 27, 3) := by decide +kernel
theorem dX2_plant_132 : decode cX2_plant 132 = .ok (.iconst 1, 1) := by decide +kernel
theorem dX2_plant_133 : decode cX2_plant 133 = .ok (.isub, 1) := by decide +kernel
theorem dX2_plant_134 : decode cX2_plant 134 = .ok (.ireturn, 1) := by decide +kernel
theorem dX2_fell_0 : decode cX2_fell 0 = .ok (.aload_n 0, 1) := by decide +kernel
theorem dX2_fell_1 : decode cX2_fell 1 = .ok (.iload_n 1, 1) := by decide +kernel
theorem dX2_fell_2 : decode cX2_fell 2 = .ok (.invokevirtual 119, 3) := by decide +kernel
theorem dX2_fell_5 : decode cX2_fell 5 = .ok (.ifCond .ne 13, 3) := by decide +kernel
theorem dX2_fell_8 : decode cX2_fell 8 = .ok (.new 70, 3) := by decide +kernel
theorem dX2_fell_11 : decode cX2_fell 11 = .ok (.dup, 1) := by decide +kernel
theorem dX2_fell_12 : decode cX2_fell 12 = .ok (.ldc 122, 2) := by decide +kernel
theorem dX2_fell_14 : decode cX2_fell 14 = .ok (.invokespecial 74, 3) := by decide +kernel
theorem dX2_fell_17 : decode cX2_fell 17 = .ok (.athrow, 1) := by decide +kernel
theorem dX2_fell_18 : decode cX2_fell 18 = .ok (.aload_n 0, 1) := by decide +kernel
theorem dX2_fell_19 : decode cX2_fell 19 = .ok (.getfield 18, 3) := by decide +kernel
theorem dX2_fell_22 : decode cX2_fell 22 = .ok (.iload_n 1, 1) := by decide +kernel
theorem dX2_fell_23 : decode cX2_fell 23 = .ok (.aaload, 1) := by decide +kernel
theorem dX2_fell_24 : decode cX2_fell 24 = .ok (.astore_n 2, 1) := by decide +kernel
theorem dX2_fell_25 : decode cX2_fell 25 = .ok (.aload_n 0, 1) := by decide +kernel
theorem dX2_fell_26 : decode cX2_fell 26 = .ok (.dup, 1) := by decide +kernel
theorem dX2_fell_27 : decode cX2_fell 27 = .ok (.getfield 27, 3) := by decide +kernel
theorem dX2_fell_30 : decode cX2_fell 30 = .ok (.iconst 1, 1) := by decide +kernel
theorem dX2_fell_31 : decode cX2_fell 31 = .ok (.isub, 1) := by decide +kernel
theorem dX2_fell_32 : decode cX2_fell 32 = .ok (.putfield 27, 3) := by decide +kernel
theorem dX2_fell_35 : decode cX2_fell 35 = .ok (.iload_n 1, 1) := by decide +kernel
theorem dX2_fell_36 : decode cX2_fell 36 = .ok (.istore_n 3, 1) := by decide +kernel
theorem dX2_fell_37 : decode cX2_fell 37 = .ok (.iload_n 3, 1) := by decide +kernel
theorem dX2_fell_38 : decode cX2_fell 38 = .ok (.aload_n 0, 1) := by decide +kernel
theorem dX2_fell_39 : decode cX2_fell 39 = .ok (.getfield 27, 3) := by decide +kernel
theorem dX2_fell_42 : decode cX2_fell 42 = .ok (.if_icmp .ge 23, 3) := by decide +kernel
theorem dX2_fell_45 : decode cX2_fell 45 = .ok (.aload_n 0, 1) := by decide +kernel
theorem dX2_fell_46 : decode cX2_fell 46 = .ok (.getfield 18, 3) := by decide +kernel
theorem dX2_fell_49 : decode cX2_fell 49 = .ok (.iload_n 3, 1) := by decide +kernel
theorem dX2_fell_50 : decode cX2_fell 50 = .ok (.aload_n 0, 1) := by decide +kernel
theorem dX2_fell_51 : decode cX2_fell 51 = .ok (.getfield 18, 3) := by decide +kernel
theorem dX2_fell_54 : decode cX2_fell 54 = .ok (.iload_n 3, 1) := by decide +kernel
theorem dX2_fell_55 : decode cX2_fell 55 = .ok (.iconst 1, 1) := by decide +kernel
theorem dX2_fell_56 : decode cX2_fell 56 = .ok (.iadd, 1) := by decide +kernel
theorem dX2_fell_57 : decode cX2_fell 57 = .ok (.aaload, 1) := by decide +kernel
theorem dX2_fell_58 : decode cX2_fell 58 = .ok (.aastore, 1) := by decide +kernel
theorem dX2_fell_59 : decode cX2_fell 59 = .ok (.iinc 3 1, 3) := by decide +kernel
theorem dX2_fell_62 : decode cX2_fell 62 = .ok (.goto (-25), 3) := by decide +kernel
theorem dX2_fell_65 : decode cX2_fell 65 = .ok (.aload_n 0, 1) := by decide +kernel
theorem dX2_fell_66 : decode cX2_fell 66 = .ok (.getfield 18, 3) := by decide +kernel
theorem dX2_fell_69 : decode cX2_fell 69 = .ok (.aload_n 0, 1) := by decide +kernel
theorem dX2_fell_70 : decode cX2_fell 70 = .ok (.getfield 27, 3) := by decide +kernel
theorem dX2_fell_73 : decode cX2_fell 73 = .ok (.aload_n 2, 1) := by decide +kernel
theorem dX2_fell_74 : decode cX2_fell 74 = .ok (.aastore, 1) := by decide +kernel
theorem dX2_fell_75 : decode cX2_fell 75 = .ok (.aload_n 0, 1) := by decide +kernel
theorem dX2_fell_76 : decode cX2_fell 76 = .ok (.getfield 27, 3) := by decide +kernel
theorem dX2_fell_79 : decode cX2_fell 79 = .ok (.ireturn, 1) := by decide +kernel
theorem dX2_prune_0 : decode cX2_prune 0 = .ok (.aload_n 0, 1) := by decide +kernel
theorem dX2_prune_1 : decode cX2_prune 1 = .ok (.iload_n 1, 1) := by decide +kernel
theorem dX2_prune_2 : decode cX2_prune 2 = .ok (.invokevirtual 119, 3) := by decide +kernel
theorem dX2_prune_5 : decode cX2_prune 5 = .ok (.ifCond .ne 13, 3) := by decide +kernel
theorem dX2_prune_8 : decode cX2_prune 8 = .ok (.new 70, 3) := by decide +kernel
theorem dX2_prune_11 : decode cX2_prune 11 = .ok (.dup, 1) := by decide +kernel
theorem dX2_prune_12 : decode cX2_prune 12 = .ok (.ldc 122, 2) := by decide +kernel
theorem dX2_prune_14 : decode cX2_prune 14 = .ok (.invokespecial 74, 3) := by decide +kernel
theorem dX2_prune_17 : decode cX2_prune 17 = .ok (.athrow, 1) := by decide +kernel
theorem dX2_prune_18 : decode cX2_prune 18 = .ok (.aload_n 0, 1) := by decide +kernel
theorem dX2_prune_19 : decode cX2_prune 19 = .ok (.getfield 18, 3) := by decide +kernel
theorem dX2_prune_22 : decode cX2_prune 22 = .ok (.iload_n 1, 1) := by decide +kernel
theorem dX2_prune_23 : decode cX2_prune 23 = .ok (.aaload, 1) := by decide +kernel
theorem dX2_prune_24 : decode cX2_prune 24 = .ok (.aload_n 0, 1) := by decide +kernel
theorem dX2_prune_25 : decode cX2_prune 25 = .ok (.getfield 12, 3) := by decide +kernel
theorem dX2_prune_28 : decode cX2_prune 28 = .ok (.aload_n 0, 1) := by decide +kernel
theorem dX2_prune_29 : decode cX2_prune 29 = .ok (.getfield 12, 3) := by decide +kernel
theorem dX2_prune_32 : decode cX2_prune 32 = .ok (.invokevirtual 124, 3) := by decide +kernel
theorem dX2_prune_35 : decode cX2_prune 35 = .ok (.invokevirtual 127, 3) := by decide +kernel
theorem dX2_prune_38 : decode cX2_prune 38 = .ok (.ireturn, 1) := by decide +kernel
theorem dX2_node_0 : decode cX2_node 0 = .ok (.aload_n 0, 1) := by decide +kernel
theorem dX2_node_1 : decode cX2_node 1 = .ok (.iload_n 1, 1) := by decide +kernel
theorem dX2_node_2 : decode cX2_node 2 = .ok (.invokevirtual 119, 3) := by decide +kernel
theorem dX2_node_5 : decode cX2_node 5 = .ok (.ifCond .eq 16, 3) := by decide +kernel
theorem dX2_node_8 : decode cX2_node 8 = .ok (.aload_n 0, 1) := by decide +kernel
theorem dX2_node_9 : decode cX2_node 9 = .ok (.getfield 18, 3) := by decide +kernel
theorem dX2_node_12 : decode cX2_node 12 = .ok (.iload_n 1, 1) := by decide +kernel
theorem dX2_node_13 : decode cX2_node 13 = .ok (.aaload, 1) := by decide +kernel
theorem dX2_node_14 : decode cX2_node 14 = .ok (.iload_n 2, 1) := by decide +kernel
theorem dX2_node_15 : decode cX2_node 15 = .ok (.invokevirtual 131, 3) := by decide +kernel
theorem dX2_node_18 : decode cX2_node 18 = .ok (.ifCond .ne 13, 3) := by decide +kernel
theorem dX2_node_21 : decode cX2_node 21 = .ok (.new 70, 3) := by decide +kernel
theorem dX2_node_24 : decode cX2_node 24 = .ok (.dup, 1) := by decide +kernel
theorem dX2_node_25 : decode cX2_node 25 = .ok (.ldc 134, 2) := by decide +kernel
theorem dX2_node_27 : decode cX2_node 27 = .ok (.invokespecial 74, 3) := by decide +kernel
theorem dX2_node_30 : decode cX2_node 30 = .ok (.athrow, 1) := by decide +kernel
theorem dX2_node_31 : decode cX2_node 31 = .ok (.iload_n 3, 1) := by decide +kernel
theorem dX2_node_32 : decode cX2_node 32 = .ok (.ifCond .lt 9, 3) := by decide +kernel
theorem dX2_node_35 : decode cX2_node 35 = .ok (.iload_n 3, 1) := by decide +kernel
theorem dX2_node_36 : decode cX2_node 36 = .ok (.bipush 6, 2) := by decide +kernel
theorem dX2_node_38 : decode cX2_node 38 = .ok (.if_icmp .le 13, 3) := by decide +kernel
theorem dX2_node_41 : decode cX2_node 41 = .ok (.new 70, 3) := by decide +kernel
theorem dX2_node_44 : decode cX2_node 44 = .ok (.dup, 1) := by decide +kernel
theorem dX2_node_45 : decode cX2_node 45 = .ok (.ldc 136, 2) := by decide +kernel
theorem dX2_node_47 : decode cX2_node 47 = .ok (.invokespecial 74, 3) := by decide +kernel
theorem dX2_node_50 : decode cX2_node 50 = .ok (.athrow, 1) := by decide +kernel
theorem dX2_node_51 : decode cX2_node 51 = .ok (.aload_n 0, 1) := by decide +kernel
theorem dX2_node_52 : decode cX2_node 52 = .ok (.getfield 18, 3) := by decide +kernel
theorem dX2_node_55 : decode cX2_node 55 = .ok (.iload_n 1, 1) := by decide +kernel
theorem dX2_node_56 : decode cX2_node 56 = .ok (.aaload, 1) := by decide +kernel
theorem dX2_node_57 : decode cX2_node 57 = .ok (.astore 4, 2) := by decide +kernel
theorem dX2_node_59 : decode cX2_node 59 = .ok (.iload_n 3, 1) := by decide +kernel
theorem dX2_node_60 : decode cX2_node 60 = .ok (.tableswitch 82 0 5 #[40, 47, 54, 61, 68, 75], 40) := by decide +kernel
theorem dX2_node_100 : decode cX2_node 100 = .ok (.aload 4, 2) := by decide +kernel
theorem dX2_node_102 : decode cX2_node 102 = .ok (.iload_n 2, 1) := by decide +kernel
theorem dX2_node_103 : decode cX2_node 103 = .ok (.invokevirtual 138, 3) := by decide +kernel
theorem dX2_node_106 : decode cX2_node 106 = .ok (.ireturn, 1) := by decide +kernel
theorem dX2_node_107 : decode cX2_node 107 = .ok (.aload 4, 2) := by decide +kernel
theorem dX2_node_109 : decode cX2_node 109 = .ok (.iload_n 2, 1) := by decide +kernel
theorem dX2_node_110 : decode cX2_node 110 = .ok (.invokevirtual 141, 3) := by decide +kernel
theorem dX2_node_113 : decode cX2_node 113 = .ok (.ireturn, 1) := by decide +kernel
theorem dX2_node_114 : decode cX2_node 114 = .ok (.aload 4, 2) := by decide +kernel
theorem dX2_node_116 : decode cX2_node 116 = .ok (.iload_n 2, 1) := by decide +kernel
theorem dX2_node_117 : decode cX2_node 117 = .ok (.invokevirtual 144, 3) := by decide +kernel
theorem dX2_node_120 : decode cX2_node 120 = .ok (.ireturn, 1) := by decide +kernel
theorem dX2_node_121 : decode cX2_node 121 = .ok (.aload 4, 2) := by decide +kernel
theorem dX2_node_123 : decode cX2_node 123 = .ok (.iload_n 2, 1) := by decide +kernel
theorem dX2_node_124 : decode cX2_node 124 = .ok (.invokevirtual 147, 3) := by decide +kernel
theorem dX2_node_127 : decode cX2_node 127 = .ok (.ireturn, 1) := by decide +kernel
theorem dX2_node_128 : decode cX2_node 128 = .ok (.aload 4, 2) := by decide +kernel
theorem dX2_node_130 : decode cX2_node 130 = .ok (.iload_n 2, 1) := by decide +kernel
theorem dX2_node_131 : decode cX2_node 131 = .ok (.invokevirtual 150, 3) := by decide +kernel
theorem dX2_node_134 : decode cX2_node 134 = .ok (.ireturn, 1) := by decide +kernel
theorem dX2_node_135 : decode cX2_node 135 = .ok (.aload 4, 2) := by decide +kernel
theorem dX2_node_137 : decode cX2_node 137 = .ok (.iload_n 2, 1) := by decide +kernel
theorem dX2_node_138 : decode cX2_node 138 = .ok (.invokevirtual 153, 3) := by decide +kernel
theorem dX2_node_141 : decode cX2_node 141 = .ok (.ireturn, 1) := by decide +kernel
theorem dX2_node_142 : decode cX2_node 142 = .ok (.aload 4, 2) := by decide +kernel
theorem dX2_node_144 : decode cX2_node 144 = .ok (.iload_n 2, 1) := by decide +kernel
theorem dX2_node_145 : decode cX2_node 145 = .ok (.invokevirtual 156, 3) := by decide +kernel
theorem dX2_node_148 : decode cX2_node 148 = .ok (.ireturn, 1) := by decide +kernel
theorem dX2_about_0 : decode cX2_about 0 = .ok (.aload_n 0, 1) := by decide +kernel
theorem dX2_about_1 : decode cX2_about 1 = .ok (.iload_n 1, 1) := by decide +kernel
theorem dX2_about_2 : decode cX2_about 2 = .ok (.invokevirtual 119, 3) := by decide +kernel
theorem dX2_about_5 : decode cX2_about 5 = .ok (.ifCond .ne 13, 3) := by decide +kernel
theorem dX2_about_8 : decode cX2_about 8 = .ok (.new 70, 3) := by decide +kernel
theorem dX2_about_11 : decode cX2_about 11 = .ok (.dup, 1) := by decide +kernel
theorem dX2_about_12 : decode cX2_about 12 = .ok (.ldc 122, 2) := by decide +kernel
theorem dX2_about_14 : decode cX2_about 14 = .ok (.invokespecial 74, 3) := by decide +kernel
theorem dX2_about_17 : decode cX2_about 17 = .ok (.athrow, 1) := by decide +kernel
theorem dX2_about_18 : decode cX2_about 18 = .ok (.iload_n 2, 1) := by decide +kernel
theorem dX2_about_19 : decode cX2_about 19 = .ok (.ifCond .lt 9, 3) := by decide +kernel
theorem dX2_about_22 : decode cX2_about 22 = .ok (.iload_n 2, 1) := by decide +kernel
theorem dX2_about_23 : decode cX2_about 23 = .ok (.bipush 6, 2) := by decide +kernel
theorem dX2_about_25 : decode cX2_about 25 = .ok (.if_icmp .le 13, 3) := by decide +kernel
theorem dX2_about_28 : decode cX2_about 28 = .ok (.new 70, 3) := by decide +kernel
theorem dX2_about_31 : decode cX2_about 31 = .ok (.dup, 1) := by decide +kernel
theorem dX2_about_32 : decode cX2_about 32 = .ok (.ldc 136, 2) := by decide +kernel
theorem dX2_about_34 : decode cX2_about 34 = .ok (.invokespecial 74, 3) := by decide +kernel
theorem dX2_about_37 : decode cX2_about 37 = .ok (.athrow, 1) := by decide +kernel
theorem dX2_about_38 : decode cX2_about 38 = .ok (.aload_n 0, 1) := by decide +kernel
theorem dX2_about_39 : decode cX2_about 39 = .ok (.getfield 18, 3) := by decide +kernel
theorem dX2_about_42 : decode cX2_about 42 = .ok (.iload_n 1, 1) := by decide +kernel
theorem dX2_about_43 : decode cX2_about 43 = .ok (.aaload, 1) := by decide +kernel
theorem dX2_about_44 : decode cX2_about 44 = .ok (.astore_n 3, 1) := by decide +kernel
theorem dX2_about_45 : decode cX2_about 45 = .ok (.iload_n 2, 1) := by decide +kernel
theorem dX2_about_46 : decode cX2_about 46 = .ok (.tableswitch 90 0 5 #[38, 43, 48, 53, 69, 85], 38) := by decide +kernel
theorem dX2_about_84 : decode cX2_about 84 = .ok (.aload_n 3, 1) := by decide +kernel
theorem dX2_about_85 : decode cX2_about 85 = .ok (.invokevirtual 159, 3) := by decide +kernel
theorem dX2_about_88 : decode cX2_about 88 = .ok (.ireturn, 1) := by decide +kernel
theorem dX2_about_89 : decode cX2_about 89 = .ok (.aload_n 3, 1) := by decide +kernel
theorem dX2_about_90 : decode cX2_about 90 = .ok (.invokevirtual 162, 3) := by decide +kernel
theorem dX2_about_93 : decode cX2_about 93 = .ok (.ireturn, 1) := by decide +kernel
theorem dX2_about_94 : decode cX2_about 94 = .ok (.aload_n 3, 1) := by decide +kernel
theorem dX2_about_95 : decode cX2_about 95 = .ok (.invokevirtual 165, 3) := by decide +kernel
theorem dX2_about_98 : decode cX2_about 98 = .ok (.ireturn, 1) := by decide +kernel
theorem dX2_about_99 : decode cX2_about 99 = .ok (.aload_n 3, 1) := by decide +kernel
theorem dX2_about_100 : decode cX2_about 100 = .ok (.aload_n 0, 1) := by decide +kernel
theorem dX2_about_101 : decode cX2_about 101 = .ok (.getfield 12, 3) := by decide +kernel
theorem dX2_about_104 : decode cX2_about 104 = .ok (.aload_n 0, 1) := by decide +kernel
theorem dX2_about_105 : decode cX2_about 105 = .ok (.getfield 12, 3) := by decide +kernel
theorem dX2_about_108 : decode cX2_about 108 = .ok (.invokevirtual 168, 3) := by decide +kernel
theorem dX2_about_111 : decode cX2_about 111 = .ok (.invokevirtual 171, 3) := by decide +kernel
theorem dX2_about_114 : decode cX2_about 114 = .ok (.ireturn, 1) := by decide +kernel
theorem dX2_about_115 : decode cX2_about 115 = .ok (.aload_n 3, 1) := by decide +kernel
theorem dX2_about_116 : decode cX2_about 116 = .ok (.aload_n 0, 1) := by decide +kernel
theorem dX2_about_117 : decode cX2_about 117 = .ok (.getfield 12, 3) := by decide +kernel
theorem dX2_about_120 : decode cX2_about 120 = .ok (.aload_n 0, 1) := by decide +kernel
theorem dX2_about_121 : decode cX2_about 121 = .ok (.getfield 12, 3) := by decide +kernel
theorem dX2_about_124 : decode cX2_about 124 = .ok (.invokevirtual 124, 3) := by decide +kernel
theorem dX2_about_127 : decode cX2_about 127 = .ok (.invokevirtual 171, 3) := by decide +kernel
theorem dX2_about_130 : decode cX2_about 130 = .ok (.ireturn, 1) := by decide +kernel
theorem dX2_about_131 : decode cX2_about 131 = .ok (.aload_n 3, 1) := by decide +kernel
theorem dX2_about_132 : decode cX2_about 132 = .ok (.invokevirtual 174, 3) := by decide +kernel
theorem dX2_about_135 : decode cX2_about 135 = .ok (.ireturn, 1) := by decide +kernel
theorem dX2_about_136 : decode cX2_about 136 = .ok (.aload_n 3, 1) := by decide +kernel
theorem dX2_about_137 : decode cX2_about 137 = .ok (.invokevirtual 177, 3) := by decide +kernel
theorem dX2_about_140 : decode cX2_about 140 = .ok (.ireturn, 1) := by decide +kernel
theorem dX2_told_0 : decode cX2_told 0 = .ok (.aload_n 0, 1) := by decide +kernel
theorem dX2_told_1 : decode cX2_told 1 = .ok (.iload_n 1, 1) := by decide +kernel
theorem dX2_told_2 : decode cX2_told 2 = .ok (.invokevirtual 67, 3) := by decide +kernel
theorem dX2_told_5 : decode cX2_told 5 = .ok (.ifCond .ne 13, 3) := by decide +kernel
theorem dX2_told_8 : decode cX2_told 8 = .ok (.new 70, 3) := by decide +kernel
theorem dX2_told_11 : decode cX2_told 11 = .ok (.dup, 1) := by decide +kernel
theorem dX2_told_12 : decode cX2_told 12 = .ok (.ldc 72, 2) := by decide +kernel
theorem dX2_told_14 : decode cX2_told 14 = .ok (.invokespecial 74, 3) := by decide +kernel
theorem dX2_told_17 : decode cX2_told 17 = .ok (.athrow, 1) := by decide +kernel
theorem dX2_told_18 : decode cX2_told 18 = .ok (.iload_n 2, 1) := by decide +kernel
theorem dX2_told_19 : decode cX2_told 19 = .ok (.ifCond .lt 8, 3) := by decide +kernel
theorem dX2_told_22 : decode cX2_told 22 = .ok (.iload_n 2, 1) := by decide +kernel
theorem dX2_told_23 : decode cX2_told 23 = .ok (.iconst 4, 1) := by decide +kernel
theorem dX2_told_24 : decode cX2_told 24 = .ok (.if_icmp .le 13, 3) := by decide +kernel
theorem dX2_told_27 : decode cX2_told 27 = .ok (.new 70, 3) := by decide +kernel
theorem dX2_told_30 : decode cX2_told 30 = .ok (.dup, 1) := by decide +kernel
theorem dX2_told_31 : decode cX2_told 31 = .ok (.ldc 180, 2) := by decide +kernel
theorem dX2_told_33 : decode cX2_told 33 = .ok (.invokespecial 74, 3) := by decide +kernel
theorem dX2_told_36 : decode cX2_told 36 = .ok (.athrow, 1) := by decide +kernel
theorem dX2_told_37 : decode cX2_told 37 = .ok (.iload_n 2, 1) := by decide +kernel
theorem dX2_told_38 : decode cX2_told 38 = .ok (.iconst 3, 1) := by decide +kernel
theorem dX2_told_39 : decode cX2_told 39 = .ok (.if_icmp .ge 13, 3) := by decide +kernel
theorem dX2_told_42 : decode cX2_told 42 = .ok (.aload_n 0, 1) := by decide +kernel
theorem dX2_told_43 : decode cX2_told 43 = .ok (.getfield 12, 3) := by decide +kernel
theorem dX2_told_46 : decode cX2_told 46 = .ok (.iload_n 1, 1) := by decide +kernel
theorem dX2_told_47 : decode cX2_told 47 = .ok (.iload_n 2, 1) := by decide +kernel
theorem dX2_told_48 : decode cX2_told 48 = .ok (.invokevirtual 182, 3) := by decide +kernel
theorem dX2_told_51 : decode cX2_told 51 = .ok (.ireturn, 1) := by decide +kernel
theorem dX2_told_52 : decode cX2_told 52 = .ok (.iload_n 2, 1) := by decide +kernel
theorem dX2_told_53 : decode cX2_told 53 = .ok (.iconst 3, 1) := by decide +kernel
theorem dX2_told_54 : decode cX2_told 54 = .ok (.if_icmp .ne 12, 3) := by decide +kernel
theorem dX2_told_57 : decode cX2_told 57 = .ok (.aload_n 0, 1) := by decide +kernel
theorem dX2_told_58 : decode cX2_told 58 = .ok (.getfield 12, 3) := by decide +kernel
theorem dX2_told_61 : decode cX2_told 61 = .ok (.iload_n 1, 1) := by decide +kernel
theorem dX2_told_62 : decode cX2_told 62 = .ok (.invokevirtual 75, 3) := by decide +kernel
theorem dX2_told_65 : decode cX2_told 65 = .ok (.ireturn, 1) := by decide +kernel
theorem dX2_told_66 : decode cX2_told 66 = .ok (.aload_n 0, 1) := by decide +kernel
theorem dX2_told_67 : decode cX2_told 67 = .ok (.getfield 12, 3) := by decide +kernel
theorem dX2_told_70 : decode cX2_told 70 = .ok (.iload_n 1, 1) := by decide +kernel
theorem dX2_told_71 : decode cX2_told 71 = .ok (.invokevirtual 83, 3) := by decide +kernel
theorem dX2_told_74 : decode cX2_told 74 = .ok (.ifCond .eq 7, 3) := by decide +kernel
theorem dX2_told_77 : decode cX2_told 77 = .ok (.iconst 1, 1) := by decide +kernel
theorem dX2_told_78 : decode cX2_told 78 = .ok (.goto 4, 3) := by decide +kernel
theorem dX2_told_81 : decode cX2_told 81 = .ok (.iconst 0, 1) := by decide +kernel
theorem dX2_told_82 : decode cX2_told 82 = .ok (.ireturn, 1) := by decide +kernel
theorem dX2_count_0 : decode cX2_count 0 = .ok (.iload_n 1, 1) := by decide +kernel
theorem dX2_count_1 : decode cX2_count 1 = .ok (.ifCond .lt 9, 3) := by decide +kernel
theorem dX2_count_4 : decode cX2_count 4 = .ok (.iload_n 1, 1) := by decide +kernel
theorem dX2_count_5 : decode cX2_count 5 = .ok (.bipush 6, 2) := by decide +kernel
theorem dX2_count_7 : decode cX2_count 7 = .ok (.if_icmp .le 13, 3) := by decide +kernel
theorem dX2_count_10 : decode cX2_count 10 = .ok (.new 70, 3) := by decide +kernel
theorem dX2_count_13 : decode cX2_count 13 = .ok (.dup, 1) := by decide +kernel
theorem dX2_count_14 : decode cX2_count 14 = .ok (.ldc 136, 2) := by decide +kernel
theorem dX2_count_16 : decode cX2_count 16 = .ok (.invokespecial 74, 3) := by decide +kernel
theorem dX2_count_19 : decode cX2_count 19 = .ok (.athrow, 1) := by decide +kernel
theorem dX2_count_20 : decode cX2_count 20 = .ok (.iload_n 1, 1) := by decide +kernel
theorem dX2_count_21 : decode cX2_count 21 = .ok (.tableswitch 92 0 5 #[39, 47, 58, 63, 75, 87], 39) := by decide +kernel
theorem dX2_count_60 : decode cX2_count 60 = .ok (.aload_n 0, 1) := by decide +kernel
theorem dX2_count_61 : decode cX2_count 61 = .ok (.getfield 12, 3) := by decide +kernel
theorem dX2_count_64 : decode cX2_count 64 = .ok (.invokevirtual 54, 3) := by decide +kernel
theorem dX2_count_67 : decode cX2_count 67 = .ok (.ireturn, 1) := by decide +kernel
theorem dX2_count_68 : decode cX2_count 68 = .ok (.aload_n 0, 1) := by decide +kernel
theorem dX2_count_69 : decode cX2_count 69 = .ok (.getfield 12, 3) := by decide +kernel
theorem dX2_count_72 : decode cX2_count 72 = .ok (.invokevirtual 124, 3) := by decide +kernel
theorem dX2_count_75 : decode cX2_count 75 = .ok (.invokestatic 192, 3) := by decide +kernel
theorem dX2_count_78 : decode cX2_count 78 = .ok (.ireturn, 1) := by decide +kernel
theorem dX2_count_79 : decode cX2_count 79 = .ok (.aload_n 0, 1) := by decide +kernel
theorem dX2_count_80 : decode cX2_count 80 = .ok (.getfield 27, 3) := by decide +kernel
theorem dX2_count_83 : decode cX2_count 83 = .ok (.ireturn, 1) := by decide +kernel
theorem dX2_count_84 : decode cX2_count 84 = .ok (.aload_n 0, 1) := by decide +kernel
theorem dX2_count_85 : decode cX2_count 85 = .ok (.aload_n 0, 1) := by decide +kernel
theorem dX2_count_86 : decode cX2_count 86 = .ok (.getfield 12, 3) := by decide +kernel
theorem dX2_count_89 : decode cX2_count 89 = .ok (.invokevirtual 168, 3) := by decide +kernel
theorem dX2_count_92 : decode cX2_count 92 = .ok (.invokevirtual 197, 3) := by decide +kernel
theorem dX2_count_95 : decode cX2_count 95 = .ok (.ireturn, 1) := by decide +kernel
theorem dX2_count_96 : decode cX2_count 96 = .ok (.aload_n 0, 1) := by decide +kernel
theorem dX2_count_97 : decode cX2_count 97 = .ok (.aload_n 0, 1) := by decide +kernel
theorem dX2_count_98 : decode cX2_count 98 = .ok (.getfield 12, 3) := by decide +kernel
theorem dX2_count_101 : decode cX2_count 101 = .ok (.invokevirtual 124, 3) := by decide +kernel
theorem dX2_count_104 : decode cX2_count 104 = .ok (.invokevirtual 197, 3) := by decide +kernel
theorem dX2_count_107 : decode cX2_count 107 = .ok (.ireturn, 1) := by decide +kernel
theorem dX2_count_108 : decode cX2_count 108 = .ok (.aload_n 0, 1) := by decide +kernel
theorem dX2_count_109 : decode cX2_count 109 = .ok (.getfield 31, 3) := by decide +kernel
theorem dX2_count_112 : decode cX2_count 112 = .ok (.ireturn, 1) := by decide +kernel
theorem dX2_count_113 : decode cX2_count 113 = .ok (.aload_n 0, 1) := by decide +kernel
theorem dX2_count_114 : decode cX2_count 114 = .ok (.getfield 34, 3) := by decide +kernel
theorem dX2_count_117 : decode cX2_count 117 = .ok (.ireturn, 1) := by decide +kernel
theorem dX2_gain_0 : decode cX2_gain 0 = .ok (.iload_n 1, 1) := by decide +kernel
theorem dX2_gain_1 : decode cX2_gain 1 = .ok (.ifCond .lt 8, 3) := by decide +kernel
theorem dX2_gain_4 : decode cX2_gain 4 = .ok (.iload_n 1, 1) := by decide +kernel
theorem dX2_gain_5 : decode cX2_gain 5 = .ok (.iconst 3, 1) := by decide +kernel
theorem dX2_gain_6 : decode cX2_gain 6 = .ok (.if_icmp .lt 13, 3) := by decide +kernel
theorem dX2_gain_9 : decode cX2_gain 9 = .ok (.new 70, 3) := by decide +kernel
theorem dX2_gain_12 : decode cX2_gain 12 = .ok (.dup, 1) := by decide +kernel
theorem dX2_gain_13 : decode cX2_gain 13 = .ok (.ldc 200, 2) := by decide +kernel
theorem dX2_gain_15 : decode cX2_gain 15 = .ok (.invokespecial 74, 3) := by decide +kernel
theorem dX2_gain_18 : decode cX2_gain 18 = .ok (.athrow, 1) := by decide +kernel
theorem dX2_gain_19 : decode cX2_gain 19 = .ok (.iload_n 3, 1) := by decide +kernel
theorem dX2_gain_20 : decode cX2_gain 20 = .ok (.ifCond .lt 8, 3) := by decide +kernel
theorem dX2_gain_23 : decode cX2_gain 23 = .ok (.iload_n 3, 1) := by decide +kernel
theorem dX2_gain_24 : decode cX2_gain 24 = .ok (.iconst 1, 1) := by decide +kernel
theorem dX2_gain_25 : decode cX2_gain 25 = .ok (.if_icmp .le 13, 3) := by decide +kernel
theorem dX2_gain_28 : decode cX2_gain 28 = .ok (.new 70, 3) := by decide +kernel
theorem dX2_gain_31 : decode cX2_gain 31 = .ok (.dup, 1) := by decide +kernel
theorem dX2_gain_32 : decode cX2_gain 32 = .ok (.ldc 202, 2) := by decide +kernel
theorem dX2_gain_34 : decode cX2_gain 34 = .ok (.invokespecial 74, 3) := by decide +kernel
theorem dX2_gain_37 : decode cX2_gain 37 = .ok (.athrow, 1) := by decide +kernel
theorem dX2_gain_38 : decode cX2_gain 38 = .ok (.iload_n 2, 1) := by decide +kernel
theorem dX2_gain_39 : decode cX2_gain 39 = .ok (.invokestatic 204, 3) := by decide +kernel
theorem dX2_gain_42 : decode cX2_gain 42 = .ok (.ifCond .ne 13, 3) := by decide +kernel
theorem dX2_gain_45 : decode cX2_gain 45 = .ok (.new 41, 3) := by decide +kernel
theorem dX2_gain_48 : decode cX2_gain 48 = .ok (.dup, 1) := by decide +kernel
theorem dX2_gain_49 : decode cX2_gain 49 = .ok (.ldc 207, 2) := by decide +kernel
theorem dX2_gain_51 : decode cX2_gain 51 = .ok (.invokespecial 45, 3) := by decide +kernel
theorem dX2_gain_54 : decode cX2_gain 54 = .ok (.athrow, 1) := by decide +kernel
theorem dX2_gain_55 : decode cX2_gain 55 = .ok (.aload_n 0, 1) := by decide +kernel
theorem dX2_gain_56 : decode cX2_gain 56 = .ok (.getfield 12, 3) := by decide +kernel
theorem dX2_gain_59 : decode cX2_gain 59 = .ok (.invokevirtual 168, 3) := by decide +kernel
theorem dX2_gain_62 : decode cX2_gain 62 = .ok (.istore 4, 2) := by decide +kernel
theorem dX2_gain_64 : decode cX2_gain 64 = .ok (.aload_n 0, 1) := by decide +kernel
theorem dX2_gain_65 : decode cX2_gain 65 = .ok (.getfield 12, 3) := by decide +kernel
theorem dX2_gain_68 : decode cX2_gain 68 = .ok (.iload 4, 2) := by decide +kernel
theorem dX2_gain_70 : decode cX2_gain 70 = .ok (.iload_n 1, 1) := by decide +kernel
theorem dX2_gain_71 : decode cX2_gain 71 = .ok (.bipush 51, 2) := by decide +kernel
theorem dX2_gain_73 : decode cX2_gain 73 = .ok (.imul, 1) := by decide +kernel
theorem dX2_gain_74 : decode cX2_gain 74 = .ok (.iload_n 2, 1) := by decide +kernel
theorem dX2_gain_75 : decode cX2_gain 75 = .ok (.iadd, 1) := by decide +kernel
theorem dX2_gain_76 : decode cX2_gain 76 = .ok (.invokevirtual 209, 3) := by decide +kernel
theorem dX2_gain_79 : decode cX2_gain 79 = .ok (.istore 5, 2) := by decide +kernel
theorem dX2_gain_81 : decode cX2_gain 81 = .ok (.aload_n 0, 1) := by decide +kernel
theorem dX2_gain_82 : decode cX2_gain 82 = .ok (.getfield 12, 3) := by decide +kernel
theorem dX2_gain_85 : decode cX2_gain 85 = .ok (.iload 4, 2) := by decide +kernel
theorem dX2_gain_87 : decode cX2_gain 87 = .ok (.iload 5, 2) := by decide +kernel
theorem dX2_gain_89 : decode cX2_gain 89 = .ok (.invokevirtual 212, 3) := by decide +kernel
theorem dX2_gain_92 : decode cX2_gain 92 = .ok (.istore 6, 2) := by decide +kernel
theorem dX2_gain_94 : decode cX2_gain 94 = .ok (.iload 6, 2) := by decide +kernel
theorem dX2_gain_96 : decode cX2_gain 96 = .ok (.ifCond .ne 13, 3) := by decide +kernel
theorem dX2_gain_99 : decode cX2_gain 99 = .ok (.iload_n 3, 1) := by decide +kernel
theorem dX2_gain_100 : decode cX2_gain 100 = .ok (.ifCond .ne 7, 3) := by decide +kernel
theorem dX2_gain_103 : decode cX2_gain 103 = .ok (.iconst 0, 1) := by decide +kernel
theorem dX2_gain_104 : decode cX2_gain 104 = .ok (.goto 4, 3) := by decide +kernel
theorem dX2_gain_107 : decode cX2_gain 107 = .ok (.iconst 1, 1) := by decide +kernel
theorem dX2_gain_108 : decode cX2_gain 108 = .ok (.ireturn, 1) := by decide +kernel
theorem dX2_gain_109 : decode cX2_gain 109 = .ok (.iload 4, 2) := by decide +kernel
theorem dX2_gain_111 : decode cX2_gain 111 = .ok (.iload 5, 2) := by decide +kernel
theorem dX2_gain_113 : decode cX2_gain 113 = .ok (.invokestatic 215, 3) := by decide +kernel
theorem dX2_gain_116 : decode cX2_gain 116 = .ok (.istore 7, 2) := by decide +kernel
theorem dX2_gain_118 : decode cX2_gain 118 = .ok (.iload_n 3, 1) := by decide +kernel
theorem dX2_gain_119 : decode cX2_gain 119 = .ok (.ifCond .ne 8, 3) := by decide +kernel
theorem dX2_gain_122 : decode cX2_gain 122 = .ok (.iload 6, 2) := by decide +kernel
theorem dX2_gain_124 : decode cX2_gain 124 = .ok (.goto 5, 3) := by decide +kernel
theorem dX2_gain_127 : decode cX2_gain 127 = .ok (.iload 7, 2) := by decide +kernel
theorem dX2_gain_129 : decode cX2_gain 129 = .ok (.iload 6, 2) := by decide +kernel
theorem dX2_gain_131 : decode cX2_gain 131 = .ok (.iload 7, 2) := by decide +kernel
theorem dX2_gain_133 : decode cX2_gain 133 = .ok (.invokestatic 218, 3) := by decide +kernel
theorem dX2_gain_136 : decode cX2_gain 136 = .ok (.idiv, 1) := by decide +kernel
theorem dX2_gain_137 : decode cX2_gain 137 = .ok (.ireturn, 1) := by decide +kernel
theorem dX2_best_0 : decode cX2_best 0 = .ok (.iload_n 1, 1) := by decide +kernel
theorem dX2_best_1 : decode cX2_best 1 = .ok (.ifCond .lt 8, 3) := by decide +kernel
theorem dX2_best_4 : decode cX2_best 4 = .ok (.iload_n 1, 1) := by decide +kernel
theorem dX2_best_5 : decode cX2_best 5 = .ok (.iconst 1, 1) := by decide +kernel
theorem dX2_best_6 : decode cX2_best 6 = .ok (.if_icmp .le 13, 3) := by decide +kernel
theorem dX2_best_9 : decode cX2_best 9 = .ok (.new 70, 3) := by decide +kernel
theorem dX2_best_12 : decode cX2_best 12 = .ok (.dup, 1) := by decide +kernel
theorem dX2_best_13 : decode cX2_best 13 = .ok (.ldc 202, 2) := by decide +kernel
theorem dX2_best_15 : decode cX2_best 15 = .ok (.invokespecial 74, 3) := by decide +kernel
theorem dX2_best_18 : decode cX2_best 18 = .ok (.athrow, 1) := by decide +kernel
theorem dX2_best_19 : decode cX2_best 19 = .ok (.aload_n 0, 1) := by decide +kernel
theorem dX2_best_20 : decode cX2_best 20 = .ok (.getfield 12, 3) := by decide +kernel
theorem dX2_best_23 : decode cX2_best 23 = .ok (.aload_n 0, 1) := by decide +kernel
theorem dX2_best_24 : decode cX2_best 24 = .ok (.getfield 12, 3) := by decide +kernel
theorem dX2_best_27 : decode cX2_best 27 = .ok (.invokevirtual 168, 3) := by decide +kernel
theorem dX2_best_30 : decode cX2_best 30 = .ok (.aload_n 0, 1) := by decide +kernel
theorem dX2_best_31 : decode cX2_best 31 = .ok (.getfield 34, 3) := by decide +kernel
theorem dX2_best_34 : decode cX2_best 34 = .ok (.invokevirtual 221, 3) := by decide +kernel
theorem dX2_best_37 : decode cX2_best 37 = .ok (.istore_n 2, 1) := by decide +kernel
theorem dX2_best_38 : decode cX2_best 38 = .ok (.iload_n 1, 1) := by decide +kernel
theorem dX2_best_39 : decode cX2_best 39 = .ok (.ifCond .ne 10, 3) := by decide +kernel
theorem dX2_best_42 : decode cX2_best 42 = .ok (.iload_n 2, 1) := by decide +kernel
theorem dX2_best_43 : decode cX2_best 43 = .ok (.invokestatic 224, 3) := by decide +kernel
theorem dX2_best_46 : decode cX2_best 46 = .ok (.goto 7, 3) := by decide +kernel
theorem dX2_best_49 : decode cX2_best 49 = .ok (.iload_n 2, 1) := by decide +kernel
theorem dX2_best_50 : decode cX2_best 50 = .ok (.invokestatic 227, 3) := by decide +kernel
theorem dX2_best_53 : decode cX2_best 53 = .ok (.ireturn, 1) := by decide +kernel
theorem dX2_would_0 : decode cX2_would 0 = .ok (.iload_n 1, 1) := by decide +kernel
theorem dX2_would_1 : decode cX2_would 1 = .ok (.invokestatic 90, 3) := by decide +kernel
theorem dX2_would_4 : decode cX2_would 4 = .ok (.ifCond .ne 13, 3) := by decide +kernel
theorem dX2_would_7 : decode cX2_would 7 = .ok (.new 41, 3) := by decide +kernel
theorem dX2_would_10 : decode cX2_would 10 = .ok (.dup, 1) := by decide +kernel
theorem dX2_would_11 : decode cX2_would 11 = .ok (.ldc 93, 2) := by decide +kernel
theorem dX2_would_13 : decode cX2_would 13 = .ok (.invokespecial 45, 3) := by decide +kernel
theorem dX2_would_16 : decode cX2_would 16 = .ok (.athrow, 1) := by decide +kernel
theorem dX2_would_17 : decode cX2_would 17 = .ok (.iload_n 2, 1) := by decide +kernel
theorem dX2_would_18 : decode cX2_would 18 = .ok (.invokestatic 95, 3) := by decide +kernel
theorem dX2_would_21 : decode cX2_would 21 = .ok (.ifCond .ne 13, 3) := by decide +kernel
theorem dX2_would_24 : decode cX2_would 24 = .ok (.new 41, 3) := by decide +kernel
theorem dX2_would_27 : decode cX2_would 27 = .ok (.dup, 1) := by decide +kernel
theorem dX2_would_28 : decode cX2_would 28 = .ok (.ldc 98, 2) := by decide +kernel
theorem dX2_would_30 : decode cX2_would 30 = .ok (.invokespecial 45, 3) := by decide +kernel
theorem dX2_would_33 : decode cX2_would 33 = .ok (.athrow, 1) := by decide +kernel
theorem dX2_would_34 : decode cX2_would 34 = .ok (.iload_n 3, 1) := by decide +kernel
theorem dX2_would_35 : decode cX2_would 35 = .ok (.ifCond .lt 8, 3) := by decide +kernel
theorem dX2_would_38 : decode cX2_would 38 = .ok (.iload_n 3, 1) := by decide +kernel
theorem dX2_would_39 : decode cX2_would 39 = .ok (.iconst 2, 1) := by decide +kernel
theorem dX2_would_40 : decode cX2_would 40 = .ok (.if_icmp .le 13, 3) := by decide +kernel
theorem dX2_would_43 : decode cX2_would 43 = .ok (.new 70, 3) := by decide +kernel
theorem dX2_would_46 : decode cX2_would 46 = .ok (.dup, 1) := by decide +kernel
theorem dX2_would_47 : decode cX2_would 47 = .ok (.ldc 230, 2) := by decide +kernel
theorem dX2_would_49 : decode cX2_would 49 = .ok (.invokespecial 74, 3) := by decide +kernel
theorem dX2_would_52 : decode cX2_would 52 = .ok (.athrow, 1) := by decide +kernel
theorem dX2_would_53 : decode cX2_would 53 = .ok (.aload_n 0, 1) := by decide +kernel
theorem dX2_would_54 : decode cX2_would 54 = .ok (.getfield 12, 3) := by decide +kernel
theorem dX2_would_57 : decode cX2_would 57 = .ok (.invokevirtual 168, 3) := by decide +kernel
theorem dX2_would_60 : decode cX2_would 60 = .ok (.istore 4, 2) := by decide +kernel
theorem dX2_would_62 : decode cX2_would 62 = .ok (.iload 4, 2) := by decide +kernel
theorem dX2_would_64 : decode cX2_would 64 = .ok (.ifCond .ne 5, 3) := by decide +kernel
theorem dX2_would_67 : decode cX2_would 67 = .ok (.iconst 0, 1) := by decide +kernel
theorem dX2_would_68 : decode cX2_would 68 = .ok (.ireturn, 1) := by decide +kernel
theorem dX2_would_69 : decode cX2_would 69 = .ok (.aload_n 0, 1) := by decide +kernel
theorem dX2_would_70 : decode cX2_would 70 = .ok (.getfield 23, 3) := by decide +kernel
theorem dX2_would_73 : decode cX2_would 73 = .ok (.aload_n 0, 1) := by decide +kernel
theorem dX2_would_74 : decode cX2_would 74 = .ok (.getfield 12, 3) := by decide +kernel
theorem dX2_would_77 : decode cX2_would 77 = .ok (.iload 4, 2) := by decide +kernel
theorem dX2_would_79 : decode cX2_would 79 = .ok (.iload_n 1, 1) := by decide +kernel
theorem dX2_would_80 : decode cX2_would 80 = .ok (.iload_n 2, 1) := by decide +kernel
theorem dX2_would_81 : decode cX2_would 81 = .ok (.invokevirtual 112, 3) := by decide +kernel
theorem dX2_would_84 : decode cX2_would 84 = .ok (.iload_n 3, 1) := by decide +kernel
theorem dX2_would_85 : decode cX2_would 85 = .ok (.lookupswitch 49 #[(0, 27), (1, 35)], 27) := by decide +kernel
theorem dX2_would_112 : decode cX2_would 112 = .ok (.aload_n 0, 1) := by decide +kernel
theorem dX2_would_113 : decode cX2_would 113 = .ok (.getfield 23, 3) := by decide +kernel
theorem dX2_would_116 : decode cX2_would 116 = .ok (.invokevirtual 159, 3) := by decide +kernel
theorem dX2_would_119 : decode cX2_would 119 = .ok (.ireturn, 1) := by decide +kernel
theorem dX2_would_120 : decode cX2_would 120 = .ok (.aload_n 0, 1) := by decide +kernel
theorem dX2_would_121 : decode cX2_would 121 = .ok (.getfield 23, 3) := by decide +kernel
theorem dX2_would_124 : decode cX2_would 124 = .ok (.aload_n 0, 1) := by decide +kernel
theorem dX2_would_125 : decode cX2_would 125 = .ok (.getfield 12, 3) := by decide +kernel
theorem dX2_would_128 : decode cX2_would 128 = .ok (.iload 4, 2) := by decide +kernel
theorem dX2_would_130 : decode cX2_would 130 = .ok (.invokevirtual 171, 3) := by decide +kernel
theorem dX2_would_133 : decode cX2_would 133 = .ok (.ireturn, 1) := by decide +kernel
theorem dX2_would_134 : decode cX2_would 134 = .ok (.aload_n 0, 1) := by decide +kernel
theorem dX2_would_135 : decode cX2_would 135 = .ok (.getfield 23, 3) := by decide +kernel
theorem dX2_would_138 : decode cX2_would 138 = .ok (.aload_n 0, 1) := by decide +kernel
theorem dX2_would_139 : decode cX2_would 139 = .ok (.getfield 12, 3) := by decide +kernel
theorem dX2_would_142 : decode cX2_would 142 = .ok (.aload_n 0, 1) := by decide +kernel
theorem dX2_would_143 : decode cX2_would 143 = .ok (.getfield 12, 3) := by decide +kernel
theorem dX2_would_146 : decode cX2_would 146 = .ok (.invokevirtual 124, 3) := by decide +kernel
theorem dX2_would_149 : decode cX2_would 149 = .ok (.invokevirtual 171, 3) := by decide +kernel
theorem dX2_would_152 : decode cX2_would 152 = .ok (.ireturn, 1) := by decide +kernel
theorem dX2_advise_0 : decode cX2_advise 0 = .ok (.aload_n 0, 1) := by decide +kernel
theorem dX2_advise_1 : decode cX2_advise 1 = .ok (.getfield 12, 3) := by decide +kernel
theorem dX2_advise_4 : decode cX2_advise 4 = .ok (.invokevirtual 168, 3) := by decide +kernel
theorem dX2_advise_7 : decode cX2_advise 7 = .ok (.istore_n 1, 1) := by decide +kernel
theorem dX2_advise_8 : decode cX2_advise 8 = .ok (.iload_n 1, 1) := by decide +kernel
theorem dX2_advise_9 : decode cX2_advise 9 = .ok (.ifCond .ne 5, 3) := by decide +kernel
theorem dX2_advise_12 : decode cX2_advise 12 = .ok (.iconst (-1), 1) := by decide +kernel
theorem dX2_advise_13 : decode cX2_advise 13 = .ok (.ireturn, 1) := by decide +kernel
theorem dX2_advise_14 : decode cX2_advise 14 = .ok (.iconst (-1), 1) := by decide +kernel
theorem dX2_advise_15 : decode cX2_advise 15 = .ok (.istore_n 2, 1) := by decide +kernel
theorem dX2_advise_16 : decode cX2_advise 16 = .ok (.iconst (-1), 1) := by decide +kernel
theorem dX2_advise_17 : decode cX2_advise 17 = .ok (.istore_n 3, 1) := by decide +kernel
theorem dX2_advise_18 : decode cX2_advise 18 = .ok (.iconst 1, 1) := by decide +kernel
theorem dX2_advise_19 : decode cX2_advise 19 = .ok (.istore 4, 2) := by decide +kernel
theorem dX2_advise_21 : decode cX2_advise 21 = .ok (.iload 4, 2) := by decide +kernel
theorem dX2_advise_23 : decode cX2_advise 23 = .ok (.iconst 5, 1) := by decide +kernel
theorem dX2_advise_24 : decode cX2_advise 24 = .ok (.if_icmp .gt 59, 3) := by decide +kernel
theorem dX2_advise_27 : decode cX2_advise 27 = .ok (.aload_n 0, 1) := by decide +kernel
theorem dX2_advise_28 : decode cX2_advise 28 = .ok (.getfield 23, 3) := by decide +kernel
theorem dX2_advise_31 : decode cX2_advise 31 = .ok (.aload_n 0, 1) := by decide +kernel
theorem dX2_advise_32 : decode cX2_advise 32 = .ok (.getfield 12, 3) := by decide +kernel
theorem dX2_advise_35 : decode cX2_advise 35 = .ok (.iload_n 1, 1) := by decide +kernel
theorem dX2_advise_36 : decode cX2_advise 36 = .ok (.iload 4, 2) := by decide +kernel
theorem dX2_advise_38 : decode cX2_advise 38 = .ok (.aload_n 0, 1) := by decide +kernel
theorem dX2_advise_39 : decode cX2_advise 39 = .ok (.getfield 34, 3) := by decide +kernel
theorem dX2_advise_42 : decode cX2_advise 42 = .ok (.invokevirtual 112, 3) := by decide +kernel
theorem dX2_advise_45 : decode cX2_advise 45 = .ok (.aload_n 0, 1) := by decide +kernel
theorem dX2_advise_46 : decode cX2_advise 46 = .ok (.getfield 23, 3) := by decide +kernel
theorem dX2_advise_49 : decode cX2_advise 49 = .ok (.aload_n 0, 1) := by decide +kernel
theorem dX2_advise_50 : decode cX2_advise 50 = .ok (.getfield 12, 3) := by decide +kernel
theorem dX2_advise_53 : decode cX2_advise 53 = .ok (.aload_n 0, 1) := by decide +kernel
theorem dX2_advise_54 : decode cX2_advise 54 = .ok (.getfield 12, 3) := by decide +kernel
theorem dX2_advise_57 : decode cX2_advise 57 = .ok (.invokevirtual 124, 3) := by decide +kernel
theorem dX2_advise_60 : decode cX2_advise 60 = .ok (.invokevirtual 171, 3) := by decide +kernel
theorem dX2_advise_63 : decode cX2_advise 63 = .ok (.istore 5, 2) := by decide +kernel
theorem dX2_advise_65 : decode cX2_advise 65 = .ok (.iload 5, 2) := by decide +kernel
theorem dX2_advise_67 : decode cX2_advise 67 = .ok (.iload_n 3, 1) := by decide +kernel
theorem dX2_advise_68 : decode cX2_advise 68 = .ok (.if_icmp .le 9, 3) := by decide +kernel
theorem dX2_advise_71 : decode cX2_advise 71 = .ok (.iload 5, 2) := by decide +kernel
theorem dX2_advise_73 : decode cX2_advise 73 = .ok (.istore_n 3, 1) := by decide +kernel
theorem dX2_advise_74 : decode cX2_advise 74 = .ok (.iload 4, 2) := by decide +kernel
theorem dX2_advise_76 : decode cX2_advise 76 = .ok (.istore_n 2, 1) := by decide +kernel
theorem dX2_advise_77 : decode cX2_advise 77 = .ok (.iinc 4 1, 3) := by decide +kernel
theorem dX2_advise_80 : decode cX2_advise 80 = .ok (.goto (-59), 3) := by decide +kernel
theorem dX2_advise_83 : decode cX2_advise 83 = .ok (.iload_n 2, 1) := by decide +kernel
theorem dX2_advise_84 : decode cX2_advise 84 = .ok (.ireturn, 1) := by decide +kernel
theorem dX2_mean_0 : decode cX2_mean 0 = .ok (.aload_n 0, 1) := by decide +kernel
theorem dX2_mean_1 : decode cX2_mean 1 = .ok (.getfield 27, 3) := by decide +kernel
theorem dX2_mean_4 : decode cX2_mean 4 = .ok (.ifCond .ne 5, 3) := by decide +kernel
theorem dX2_mean_7 : decode cX2_mean 7 = .ok (.dconst 0, 1) := by decide +kernel
theorem dX2_mean_8 : decode cX2_mean 8 = .ok (.dreturn, 1) := by decide +kernel
theorem dX2_mean_9 : decode cX2_mean 9 = .ok (.iconst 0, 1) := by decide +kernel
theorem dX2_mean_10 : decode cX2_mean 10 = .ok (.istore_n 1, 1) := by decide +kernel
theorem dX2_mean_11 : decode cX2_mean 11 = .ok (.iconst 0, 1) := by decide +kernel
theorem dX2_mean_12 : decode cX2_mean 12 = .ok (.istore_n 2, 1) := by decide +kernel
theorem dX2_mean_13 : decode cX2_mean 13 = .ok (.iload_n 2, 1) := by decide +kernel
theorem dX2_mean_14 : decode cX2_mean 14 = .ok (.aload_n 0, 1) := by decide +kernel
theorem dX2_mean_15 : decode cX2_mean 15 = .ok (.getfield 27, 3) := by decide +kernel
theorem dX2_mean_18 : decode cX2_mean 18 = .ok (.if_icmp .ge 21, 3) := by decide +kernel
theorem dX2_mean_21 : decode cX2_mean 21 = .ok (.iload_n 1, 1) := by decide +kernel
theorem dX2_mean_22 : decode cX2_mean 22 = .ok (.aload_n 0, 1) := by decide +kernel
theorem dX2_mean_23 : decode cX2_mean 23 = .ok (.getfield 18, 3) := by decide +kernel
theorem dX2_mean_26 : decode cX2_mean 26 = .ok (.iload_n 2, 1) := by decide +kernel
theorem dX2_mean_27 : decode cX2_mean 27 = .ok (.aaload, 1) := by decide +kernel
theorem dX2_mean_28 : decode cX2_mean 28 = .ok (.invokevirtual 159, 3) := by decide +kernel
theorem dX2_mean_31 : decode cX2_mean 31 = .ok (.iadd, 1) := by decide +kernel
theorem dX2_mean_32 : decode cX2_mean 32 = .ok (.istore_n 1, 1) := by decide +kernel
theorem dX2_mean_33 : decode cX2_mean 33 = .ok (.iinc 2 1, 3) := by decide +kernel
theorem dX2_mean_36 : decode cX2_mean 36 = .ok (.goto (-23), 3) := by decide +kernel
theorem dX2_mean_39 : decode cX2_mean 39 = .ok (.iload_n 1, 1) := by decide +kernel
theorem dX2_mean_40 : decode cX2_mean 40 = .ok (.i2d, 1) := by decide +kernel
theorem dX2_mean_41 : decode cX2_mean 41 = .ok (.aload_n 0, 1) := by decide +kernel
theorem dX2_mean_42 : decode cX2_mean 42 = .ok (.getfield 27, 3) := by decide +kernel
theorem dX2_mean_45 : decode cX2_mean 45 = .ok (.i2d, 1) := by decide +kernel
theorem dX2_mean_46 : decode cX2_mean 46 = .ok (.ddiv, 1) := by decide +kernel
theorem dX2_mean_47 : decode cX2_mean 47 = .ok (.dreturn, 1) := by decide +kernel
theorem dX2_digest_0 : decode cX2_digest 0 = .ok (.ldc2_w 232, 3) := by decide +kernel
theorem dX2_digest_3 : decode cX2_digest 3 = .ok (.lstore_n 1, 1) := by decide +kernel
theorem dX2_digest_4 : decode cX2_digest 4 = .ok (.iconst 0, 1) := by decide +kernel
theorem dX2_digest_5 : decode cX2_digest 5 = .ok (.istore_n 3, 1) := by decide +kernel
theorem dX2_digest_6 : decode cX2_digest 6 = .ok (.iload_n 3, 1) := by decide +kernel
theorem dX2_digest_7 : decode cX2_digest 7 = .ok (.bipush 6, 2) := by decide +kernel
theorem dX2_digest_9 : decode cX2_digest 9 = .ok (.if_icmp .gt 22, 3) := by decide +kernel
theorem dX2_digest_12 : decode cX2_digest 12 = .ok (.lload_n 1, 1) := by decide +kernel
theorem dX2_digest_13 : decode cX2_digest 13 = .ok (.ldc2_w 234, 3) := by decide +kernel
theorem dX2_digest_16 : decode cX2_digest 16 = .ok (.lmul, 1) := by decide +kernel
theorem dX2_digest_17 : decode cX2_digest 17 = .ok (.aload_n 0, 1) := by decide +kernel
theorem dX2_digest_18 : decode cX2_digest 18 = .ok (.iload_n 3, 1) := by decide +kernel
theorem dX2_digest_19 : decode cX2_digest 19 = .ok (.invokevirtual 236, 3) := by decide +kernel
theorem dX2_digest_22 : decode cX2_digest 22 = .ok (.i2l, 1) := by decide +kernel
theorem dX2_digest_23 : decode cX2_digest 23 = .ok (.ladd, 1) := by decide +kernel
theorem dX2_digest_24 : decode cX2_digest 24 = .ok (.lstore_n 1, 1) := by decide +kernel
theorem dX2_digest_25 : decode cX2_digest 25 = .ok (.iinc 3 1, 3) := by decide +kernel
theorem dX2_digest_28 : decode cX2_digest 28 = .ok (.goto (-22), 3) := by decide +kernel
theorem dX2_digest_31 : decode cX2_digest 31 = .ok (.iconst 0, 1) := by decide +kernel
theorem dX2_digest_32 : decode cX2_digest 32 = .ok (.istore_n 3, 1) := by decide +kernel
theorem dX2_digest_33 : decode cX2_digest 33 = .ok (.iload_n 3, 1) := by decide +kernel
theorem dX2_digest_34 : decode cX2_digest 34 = .ok (.aload_n 0, 1) := by decide +kernel
theorem dX2_digest_35 : decode cX2_digest 35 = .ok (.getfield 12, 3) := by decide +kernel
theorem dX2_digest_38 : decode cX2_digest 38 = .ok (.invokevirtual 54, 3) := by decide +kernel
theorem dX2_digest_41 : decode cX2_digest 41 = .ok (.if_icmp .ge 39, 3) := by decide +kernel
theorem dX2_digest_44 : decode cX2_digest 44 = .ok (.iconst 0, 1) := by decide +kernel
theorem dX2_digest_45 : decode cX2_digest 45 = .ok (.istore 4, 2) := by decide +kernel
theorem dX2_digest_47 : decode cX2_digest 47 = .ok (.iload 4, 2) := by decide +kernel
theorem dX2_digest_49 : decode cX2_digest 49 = .ok (.iconst 4, 1) := by decide +kernel
theorem dX2_digest_50 : decode cX2_digest 50 = .ok (.if_icmp .gt 24, 3) := by decide +kernel
theorem dX2_digest_53 : decode cX2_digest 53 = .ok (.lload_n 1, 1) := by decide +kernel
theorem dX2_digest_54 : decode cX2_digest 54 = .ok (.ldc2_w 234, 3) := by decide +kernel
theorem dX2_digest_57 : decode cX2_digest 57 = .ok (.lmul, 1) := by decide +kernel
theorem dX2_digest_58 : decode cX2_digest 58 = .ok (.aload_n 0, 1) := by decide +kernel
theorem dX2_digest_59 : decode cX2_digest 59 = .ok (.iload_n 3, 1) := by decide +kernel
theorem dX2_digest_60 : decode cX2_digest 60 = .ok (.iload 4, 2) := by decide +kernel
theorem dX2_digest_62 : decode cX2_digest 62 = .ok (.invokevirtual 239, 3) := by decide +kernel
theorem dX2_digest_65 : decode cX2_digest 65 = .ok (.i2l, 1) := by decide +kernel
theorem dX2_digest_66 : decode cX2_digest 66 = .ok (.ladd, 1) := by decide +kernel
theorem dX2_digest_67 : decode cX2_digest 67 = .ok (.lstore_n 1, 1) := by decide +kernel
theorem dX2_digest_68 : decode cX2_digest 68 = .ok (.iinc 4 1, 3) := by decide +kernel
theorem dX2_digest_71 : decode cX2_digest 71 = .ok (.goto (-24), 3) := by decide +kernel
theorem dX2_digest_74 : decode cX2_digest 74 = .ok (.iinc 3 1, 3) := by decide +kernel
theorem dX2_digest_77 : decode cX2_digest 77 = .ok (.goto (-44), 3) := by decide +kernel
theorem dX2_digest_80 : decode cX2_digest 80 = .ok (.iconst 0, 1) := by decide +kernel
theorem dX2_digest_81 : decode cX2_digest 81 = .ok (.istore_n 3, 1) := by decide +kernel
theorem dX2_digest_82 : decode cX2_digest 82 = .ok (.iload_n 3, 1) := by decide +kernel
theorem dX2_digest_83 : decode cX2_digest 83 = .ok (.aload_n 0, 1) := by decide +kernel
theorem dX2_digest_84 : decode cX2_digest 84 = .ok (.getfield 27, 3) := by decide +kernel
theorem dX2_digest_87 : decode cX2_digest 87 = .ok (.if_icmp .ge 16, 3) := by decide +kernel
theorem dX2_digest_90 : decode cX2_digest 90 = .ok (.aload_n 0, 1) := by decide +kernel
theorem dX2_digest_91 : decode cX2_digest 91 = .ok (.lload_n 1, 1) := by decide +kernel
theorem dX2_digest_92 : decode cX2_digest 92 = .ok (.iload_n 3, 1) := by decide +kernel
theorem dX2_digest_93 : decode cX2_digest 93 = .ok (.invokevirtual 242, 3) := by decide +kernel
theorem dX2_digest_96 : decode cX2_digest 96 = .ok (.lstore_n 1, 1) := by decide +kernel
theorem dX2_digest_97 : decode cX2_digest 97 = .ok (.iinc 3 1, 3) := by decide +kernel
theorem dX2_digest_100 : decode cX2_digest 100 = .ok (.goto (-18), 3) := by decide +kernel
theorem dX2_digest_103 : decode cX2_digest 103 = .ok (.lload_n 1, 1) := by decide +kernel
theorem dX2_digest_104 : decode cX2_digest 104 = .ok (.lreturn, 1) := by decide +kernel
theorem dX2_digestTree_0 : decode cX2_digestTree 0 = .ok (.lload_n 1, 1) := by decide +kernel
theorem dX2_digestTree_1 : decode cX2_digestTree 1 = .ok (.lstore 4, 2) := by decide +kernel
theorem dX2_digestTree_3 : decode cX2_digestTree 3 = .ok (.iconst 0, 1) := by decide +kernel
theorem dX2_digestTree_4 : decode cX2_digestTree 4 = .ok (.istore 6, 2) := by decide +kernel
theorem dX2_digestTree_6 : decode cX2_digestTree 6 = .ok (.iload 6, 2) := by decide +kernel
theorem dX2_digestTree_8 : decode cX2_digestTree 8 = .ok (.bipush 6, 2) := by decide +kernel
theorem dX2_digestTree_10 : decode cX2_digestTree 10 = .ok (.if_icmp .gt 26, 3) := by decide +kernel
theorem dX2_digestTree_13 : decode cX2_digestTree 13 = .ok (.lload 4, 2) := by decide +kernel
theorem dX2_digestTree_15 : decode cX2_digestTree 15 = .ok (.ldc2_w 234, 3) := by decide +kernel
theorem dX2_digestTree_18 : decode cX2_digestTree 18 = .ok (.lmul, 1) := by decide +kernel
theorem dX2_digestTree_19 : decode cX2_digestTree 19 = .ok (.aload_n 0, 1) := by decide +kernel
theorem dX2_digestTree_20 : decode cX2_digestTree 20 = .ok (.iload_n 3, 1) := by decide +kernel
theorem dX2_digestTree_21 : decode cX2_digestTree 21 = .ok (.iload 6, 2) := by decide +kernel
theorem dX2_digestTree_23 : decode cX2_digestTree 23 = .ok (.invokevirtual 246, 3) := by decide +kernel
theorem dX2_digestTree_26 : decode cX2_digestTree 26 = .ok (.i2l, 1) := by decide +kernel
theorem dX2_digestTree_27 : decode cX2_digestTree 27 = .ok (.ladd, 1) := by decide +kernel
theorem dX2_digestTree_28 : decode cX2_digestTree 28 = .ok (.lstore 4, 2) := by decide +kernel
theorem dX2_digestTree_30 : decode cX2_digestTree 30 = .ok (.iinc 6 1, 3) := by decide +kernel
theorem dX2_digestTree_33 : decode cX2_digestTree 33 = .ok (.goto (-27), 3) := by decide +kernel
theorem dX2_digestTree_36 : decode cX2_digestTree 36 = .ok (.iconst 0, 1) := by decide +kernel
theorem dX2_digestTree_37 : decode cX2_digestTree 37 = .ok (.istore 6, 2) := by decide +kernel
theorem dX2_digestTree_39 : decode cX2_digestTree 39 = .ok (.iload 6, 2) := by decide +kernel
theorem dX2_digestTree_41 : decode cX2_digestTree 41 = .ok (.aload_n 0, 1) := by decide +kernel
theorem dX2_digestTree_42 : decode cX2_digestTree 42 = .ok (.getfield 18, 3) := by decide +kernel
theorem dX2_digestTree_45 : decode cX2_digestTree 45 = .ok (.iload_n 3, 1) := by decide +kernel
theorem dX2_digestTree_46 : decode cX2_digestTree 46 = .ok (.aaload, 1) := by decide +kernel
theorem dX2_digestTree_47 : decode cX2_digestTree 47 = .ok (.invokevirtual 159, 3) := by decide +kernel
theorem dX2_digestTree_50 : decode cX2_digestTree 50 = .ok (.if_icmp .ge 44, 3) := by decide +kernel
theorem dX2_digestTree_53 : decode cX2_digestTree 53 = .ok (.iconst 0, 1) := by decide +kernel
theorem dX2_digestTree_54 : decode cX2_digestTree 54 = .ok (.istore 7, 2) := by decide +kernel
theorem dX2_digestTree_56 : decode cX2_digestTree 56 = .ok (.iload 7, 2) := by decide +kernel
theorem dX2_digestTree_58 : decode cX2_digestTree 58 = .ok (.bipush 6, 2) := by decide +kernel
theorem dX2_digestTree_60 : decode cX2_digestTree 60 = .ok (.if_icmp .gt 28, 3) := by decide +kernel
theorem dX2_digestTree_63 : decode cX2_digestTree 63 = .ok (.lload 4, 2) := by decide +kernel
theorem dX2_digestTree_65 : decode cX2_digestTree 65 = .ok (.ldc2_w 234, 3) := by decide +kernel
theorem dX2_digestTree_68 : decode cX2_digestTree 68 = .ok (.lmul, 1) := by decide +kernel
theorem dX2_digestTree_69 : decode cX2_digestTree 69 = .ok (.aload_n 0, 1) := by decide +kernel
theorem dX2_digestTree_70 : decode cX2_digestTree 70 = .ok (.iload_n 3, 1) := by decide +kernel
theorem dX2_digestTree_71 : decode cX2_digestTree 71 = .ok (.iload 6, 2) := by decide +kernel
theorem dX2_digestTree_73 : decode cX2_digestTree 73 = .ok (.iload 7, 2) := by decide +kernel
theorem dX2_digestTree_75 : decode cX2_digestTree 75 = .ok (.invokevirtual 249, 3) := by decide +kernel
theorem dX2_digestTree_78 : decode cX2_digestTree 78 = .ok (.i2l, 1) := by decide +kernel
theorem dX2_digestTree_79 : decode cX2_digestTree 79 = .ok (.ladd, 1) := by decide +kernel
theorem dX2_digestTree_80 : decode cX2_digestTree 80 = .ok (.lstore 4, 2) := by decide +kernel
theorem dX2_digestTree_82 : decode cX2_digestTree 82 = .ok (.iinc 7 1, 3) := by decide +kernel
theorem dX2_digestTree_85 : decode cX2_digestTree 85 = .ok (.goto (-29), 3) := by decide +kernel
theorem dX2_digestTree_88 : decode cX2_digestTree 88 = .ok (.iinc 6 1, 3) := by decide +kernel
theorem dX2_digestTree_91 : decode cX2_digestTree 91 = .ok (.goto (-52), 3) := by decide +kernel
theorem dX2_digestTree_94 : decode cX2_digestTree 94 = .ok (.lload 4, 2) := by decide +kernel
theorem dX2_digestTree_96 : decode cX2_digestTree 96 = .ok (.lreturn, 1) := by decide +kernel
theorem dX2_votedFor_0 : decode cX2_votedFor 0 = .ok (.iconst (-1), 1) := by decide +kernel
theorem dX2_votedFor_1 : decode cX2_votedFor 1 = .ok (.istore 4, 2) := by decide +kernel
theorem dX2_votedFor_3 : decode cX2_votedFor 3 = .ok (.iconst 0, 1) := by decide +kernel
theorem dX2_votedFor_4 : decode cX2_votedFor 4 = .ok (.istore 5, 2) := by decide +kernel
theorem dX2_votedFor_6 : decode cX2_votedFor 6 = .ok (.iconst 0, 1) := by decide +kernel
theorem dX2_votedFor_7 : decode cX2_votedFor 7 = .ok (.istore 6, 2) := by decide +kernel
theorem dX2_votedFor_9 : decode cX2_votedFor 9 = .ok (.iload 6, 2) := by decide +kernel
theorem dX2_votedFor_11 : decode cX2_votedFor 11 = .ok (.iconst 3, 1) := by decide +kernel
theorem dX2_votedFor_12 : decode cX2_votedFor 12 = .ok (.if_icmp .ge 66, 3) := by decide +kernel
theorem dX2_votedFor_15 : decode cX2_votedFor 15 = .ok (.iconst 0, 1) := by decide +kernel
theorem dX2_votedFor_16 : decode cX2_votedFor 16 = .ok (.istore 7, 2) := by decide +kernel
theorem dX2_votedFor_18 : decode cX2_votedFor 18 = .ok (.iconst 0, 1) := by decide +kernel
theorem dX2_votedFor_19 : decode cX2_votedFor 19 = .ok (.istore 8, 2) := by decide +kernel
theorem dX2_votedFor_21 : decode cX2_votedFor 21 = .ok (.iload 8, 2) := by decide +kernel
theorem dX2_votedFor_23 : decode cX2_votedFor 23 = .ok (.aload_n 0, 1) := by decide +kernel
theorem dX2_votedFor_24 : decode cX2_votedFor 24 = .ok (.getfield 27, 3) := by decide +kernel
theorem dX2_votedFor_27 : decode cX2_votedFor 27 = .ok (.if_icmp .ge 30, 3) := by decide +kernel
theorem dX2_votedFor_30 : decode cX2_votedFor 30 = .ok (.aload_n 0, 1) := by decide +kernel
theorem dX2_votedFor_31 : decode cX2_votedFor 31 = .ok (.getfield 18, 3) := by decide +kernel
theorem dX2_votedFor_34 : decode cX2_votedFor 34 = .ok (.iload 8, 2) := by decide +kernel
theorem dX2_votedFor_36 : decode cX2_votedFor 36 = .ok (.aaload, 1) := by decide +kernel
theorem dX2_votedFor_37 : decode cX2_votedFor 37 = .ok (.iload_n 1, 1) := by decide +kernel
theorem dX2_votedFor_38 : decode cX2_votedFor 38 = .ok (.iload_n 2, 1) := by decide +kernel
theorem dX2_votedFor_39 : decode cX2_votedFor 39 = .ok (.iload_n 3, 1) := by decide +kernel
theorem dX2_votedFor_40 : decode cX2_votedFor 40 = .ok (.invokevirtual 185, 3) := by decide +kernel
theorem dX2_votedFor_43 : decode cX2_votedFor 43 = .ok (.iload 6, 2) := by decide +kernel
theorem dX2_votedFor_45 : decode cX2_votedFor 45 = .ok (.if_icmp .ne 6, 3) := by decide +kernel
theorem dX2_votedFor_48 : decode cX2_votedFor 48 = .ok (.iinc 7 1, 3) := by decide +kernel
theorem dX2_votedFor_51 : decode cX2_votedFor 51 = .ok (.iinc 8 1, 3) := by decide +kernel
theorem dX2_votedFor_54 : decode cX2_votedFor 54 = .ok (.goto (-33), 3) := by decide +kernel
theorem dX2_votedFor_57 : decode cX2_votedFor 57 = .ok (.iload 7, 2) := by decide +kernel
theorem dX2_votedFor_59 : decode cX2_votedFor 59 = .ok (.iload 5, 2) := by decide +kernel
theorem dX2_votedFor_61 : decode cX2_votedFor 61 = .ok (.if_icmp .le 11, 3) := by decide +kernel
theorem dX2_votedFor_64 : decode cX2_votedFor 64 = .ok (.iload 7, 2) := by decide +kernel
theorem dX2_votedFor_66 : decode cX2_votedFor 66 = .ok (.istore 5, 2) := by decide +kernel
theorem dX2_votedFor_68 : decode cX2_votedFor 68 = .ok (.iload 6, 2) := by decide +kernel
theorem dX2_votedFor_70 : decode cX2_votedFor 70 = .ok (.istore 4, 2) := by decide +kernel
theorem dX2_votedFor_72 : decode cX2_votedFor 72 = .ok (.iinc 6 1, 3) := by decide +kernel
theorem dX2_votedFor_75 : decode cX2_votedFor 75 = .ok (.goto (-66), 3) := by decide +kernel
theorem dX2_votedFor_78 : decode cX2_votedFor 78 = .ok (.iload 4, 2) := by decide +kernel
theorem dX2_votedFor_80 : decode cX2_votedFor 80 = .ok (.ireturn, 1) := by decide +kernel
theorem dX2_votedRight_0 : decode cX2_votedRight 0 = .ok (.iconst 0, 1) := by decide +kernel
theorem dX2_votedRight_1 : decode cX2_votedRight 1 = .ok (.istore_n 2, 1) := by decide +kernel
theorem dX2_votedRight_2 : decode cX2_votedRight 2 = .ok (.iconst 0, 1) := by decide +kernel
theorem dX2_votedRight_3 : decode cX2_votedRight 3 = .ok (.istore_n 3, 1) := by decide +kernel
theorem dX2_votedRight_4 : decode cX2_votedRight 4 = .ok (.iload_n 3, 1) := by decide +kernel
theorem dX2_votedRight_5 : decode cX2_votedRight 5 = .ok (.aload_n 0, 1) := by decide +kernel
theorem dX2_votedRight_6 : decode cX2_votedRight 6 = .ok (.getfield 12, 3) := by decide +kernel
theorem dX2_votedRight_9 : decode cX2_votedRight 9 = .ok (.invokevirtual 54, 3) := by decide +kernel
theorem dX2_votedRight_12 : decode cX2_votedRight 12 = .ok (.if_icmp .ge 74, 3) := by decide +kernel
theorem dX2_votedRight_15 : decode cX2_votedRight 15 = .ok (.aload_n 0, 1) := by decide +kernel
theorem dX2_votedRight_16 : decode cX2_votedRight 16 = .ok (.getfield 12, 3) := by decide +kernel
theorem dX2_votedRight_19 : decode cX2_votedRight 19 = .ok (.iload_n 3, 1) := by decide +kernel
theorem dX2_votedRight_20 : decode cX2_votedRight 20 = .ok (.iconst 0, 1) := by decide +kernel
theorem dX2_votedRight_21 : decode cX2_votedRight 21 = .ok (.invokevirtual 182, 3) := by decide +kernel
theorem dX2_votedRight_24 : decode cX2_votedRight 24 = .ok (.istore 4, 2) := by decide +kernel
theorem dX2_votedRight_26 : decode cX2_votedRight 26 = .ok (.aload_n 0, 1) := by decide +kernel
theorem dX2_votedRight_27 : decode cX2_votedRight 27 = .ok (.getfield 12, 3) := by decide +kernel
theorem dX2_votedRight_30 : decode cX2_votedRight 30 = .ok (.iload_n 3, 1) := by decide +kernel
theorem dX2_votedRight_31 : decode cX2_votedRight 31 = .ok (.iconst 1, 1) := by decide +kernel
theorem dX2_votedRight_32 : decode cX2_votedRight 32 = .ok (.invokevirtual 182, 3) := by decide +kernel
theorem dX2_votedRight_35 : decode cX2_votedRight 35 = .ok (.istore 5, 2) := by decide +kernel
theorem dX2_votedRight_37 : decode cX2_votedRight 37 = .ok (.aload_n 0, 1) := by decide +kernel
theorem dX2_votedRight_38 : decode cX2_votedRight 38 = .ok (.getfield 12, 3) := by decide +kernel
theorem dX2_votedRight_41 : decode cX2_votedRight 41 = .ok (.iload_n 3, 1) := by decide +kernel
theorem dX2_votedRight_42 : decode cX2_votedRight 42 = .ok (.iconst 2, 1) := by decide +kernel
theorem dX2_votedRight_43 : decode cX2_votedRight 43 = .ok (.invokevirtual 182, 3) := by decide +kernel
theorem dX2_votedRight_46 : decode cX2_votedRight 46 = .ok (.istore 6, 2) := by decide +kernel
theorem dX2_votedRight_48 : decode cX2_votedRight 48 = .ok (.iload_n 1, 1) := by decide +kernel
theorem dX2_votedRight_49 : decode cX2_votedRight 49 = .ok (.iload_n 3, 1) := by decide +kernel
theorem dX2_votedRight_50 : decode cX2_votedRight 50 = .ok (.invokestatic 252, 3) := by decide +kernel
theorem dX2_votedRight_53 : decode cX2_votedRight 53 = .ok (.ifCond .eq 27, 3) := by decide +kernel
theorem dX2_votedRight_56 : decode cX2_votedRight 56 = .ok (.aload_n 0, 1) := by decide +kernel
theorem dX2_votedRight_57 : decode cX2_votedRight 57 = .ok (.iload 4, 2) := by decide +kernel
theorem dX2_votedRight_59 : decode cX2_votedRight 59 = .ok (.iload 5, 2) := by decide +kernel
theorem dX2_votedRight_61 : decode cX2_votedRight 61 = .ok (.iload 6, 2) := by decide +kernel
theorem dX2_votedRight_63 : decode cX2_votedRight 63 = .ok (.invokevirtual 189, 3) := by decide +kernel
theorem dX2_votedRight_66 : decode cX2_votedRight 66 = .ok (.aload_n 0, 1) := by decide +kernel
theorem dX2_votedRight_67 : decode cX2_votedRight 67 = .ok (.getfield 12, 3) := by decide +kernel
theorem dX2_votedRight_70 : decode cX2_votedRight 70 = .ok (.iload_n 3, 1) := by decide +kernel
theorem dX2_votedRight_71 : decode cX2_votedRight 71 = .ok (.invokevirtual 75, 3) := by decide +kernel
theorem dX2_votedRight_74 : decode cX2_votedRight 74 = .ok (.if_icmp .ne 6, 3) := by decide +kernel
theorem dX2_votedRight_77 : decode cX2_votedRight 77 = .ok (.iinc 2 1, 3) := by decide +kernel
theorem dX2_votedRight_80 : decode cX2_votedRight 80 = .ok (.iinc 3 1, 3) := by decide +kernel
theorem dX2_votedRight_83 : decode cX2_votedRight 83 = .ok (.goto (-79), 3) := by decide +kernel
theorem dX2_votedRight_86 : decode cX2_votedRight 86 = .ok (.iload_n 2, 1) := by decide +kernel
theorem dX2_votedRight_87 : decode cX2_votedRight 87 = .ok (.ireturn, 1) := by decide +kernel
theorem dX2_isBean_0 : decode cX2_isBean 0 = .ok (.iload_n 1, 1) := by decide +kernel
theorem dX2_isBean_1 : decode cX2_isBean 1 = .ok (.ifCond .lt 18, 3) := by decide +kernel
theorem dX2_isBean_4 : decode cX2_isBean 4 = .ok (.iload_n 1, 1) := by decide +kernel
theorem dX2_isBean_5 : decode cX2_isBean 5 = .ok (.aload_n 0, 1) := by decide +kernel
theorem dX2_isBean_6 : decode cX2_isBean 6 = .ok (.getfield 12, 3) := by decide +kernel
theorem dX2_isBean_9 : decode cX2_isBean 9 = .ok (.invokevirtual 54, 3) := by decide +kernel
theorem dX2_isBean_12 : decode cX2_isBean 12 = .ok (.if_icmp .ge 7, 3) := by decide +kernel
theorem dX2_isBean_15 : decode cX2_isBean 15 = .ok (.iconst 1, 1) := by decide +kernel
theorem dX2_isBean_16 : decode cX2_isBean 16 = .ok (.goto 4, 3) := by decide +kernel
theorem dX2_isBean_19 : decode cX2_isBean 19 = .ok (.iconst 0, 1) := by decide +kernel
theorem dX2_isBean_20 : decode cX2_isBean 20 = .ok (.ireturn, 1) := by decide +kernel
theorem dX2_isTree_0 : decode cX2_isTree 0 = .ok (.iload_n 1, 1) := by decide +kernel
theorem dX2_isTree_1 : decode cX2_isTree 1 = .ok (.ifCond .lt 15, 3) := by decide +kernel
theorem dX2_isTree_4 : decode cX2_isTree 4 = .ok (.iload_n 1, 1) := by decide +kernel
theorem dX2_isTree_5 : decode cX2_isTree 5 = .ok (.aload_n 0, 1) := by decide +kernel
theorem dX2_isTree_6 : decode cX2_isTree 6 = .ok (.getfield 27, 3) := by decide +kernel
theorem dX2_isTree_9 : decode cX2_isTree 9 = .ok (.if_icmp .ge 7, 3) := by decide +kernel
theorem dX2_isTree_12 : decode cX2_isTree 12 = .ok (.iconst 1, 1) := by decide +kernel
theorem dX2_isTree_13 : decode cX2_isTree 13 = .ok (.goto 4, 3) := by decide +kernel
theorem dX2_isTree_16 : decode cX2_isTree 16 = .ok (.iconst 0, 1) := by decide +kernel
theorem dX2_isTree_17 : decode cX2_isTree 17 = .ok (.ireturn, 1) := by decide +kernel
theorem dX2_isMeasure_0 : decode cX2_isMeasure 0 = .ok (.iload_n 0, 1) := by decide +kernel
theorem dX2_isMeasure_1 : decode cX2_isMeasure 1 = .ok (.ifCond .lt 13, 3) := by decide +kernel
theorem dX2_isMeasure_4 : decode cX2_isMeasure 4 = .ok (.iload_n 0, 1) := by decide +kernel
theorem dX2_isMeasure_5 : decode cX2_isMeasure 5 = .ok (.bipush 50, 2) := by decide +kernel
theorem dX2_isMeasure_7 : decode cX2_isMeasure 7 = .ok (.if_icmp .gt 7, 3) := by decide +kernel
theorem dX2_isMeasure_10 : decode cX2_isMeasure 10 = .ok (.iconst 1, 1) := by decide +kernel
theorem dX2_isMeasure_11 : decode cX2_isMeasure 11 = .ok (.goto 4, 3) := by decide +kernel
theorem dX2_isMeasure_14 : decode cX2_isMeasure 14 = .ok (.iconst 0, 1) := by decide +kernel
theorem dX2_isMeasure_15 : decode cX2_isMeasure 15 = .ok (.ireturn, 1) := by decide +kernel
theorem dX2_areMeasures_0 : decode cX2_areMeasures 0 = .ok (.iload_n 0, 1) := by decide +kernel
theorem dX2_areMeasures_1 : decode cX2_areMeasures 1 = .ok (.invokestatic 204, 3) := by decide +kernel
theorem dX2_areMeasures_4 : decode cX2_areMeasures 4 = .ok (.ifCond .eq 21, 3) := by decide +kernel
theorem dX2_areMeasures_7 : decode cX2_areMeasures 7 = .ok (.iload_n 1, 1) := by decide +kernel
theorem dX2_areMeasures_8 : decode cX2_areMeasures 8 = .ok (.invokestatic 204, 3) := by decide +kernel
theorem dX2_areMeasures_11 : decode cX2_areMeasures 11 = .ok (.ifCond .eq 14, 3) := by decide +kernel
theorem dX2_areMeasures_14 : decode cX2_areMeasures 14 = .ok (.iload_n 2, 1) := by decide +kernel
theorem dX2_areMeasures_15 : decode cX2_areMeasures 15 = .ok (.invokestatic 204, 3) := by decide +kernel
theorem dX2_areMeasures_18 : decode cX2_areMeasures 18 = .ok (.ifCond .eq 7, 3) := by decide +kernel
theorem dX2_areMeasures_21 : decode cX2_areMeasures 21 = .ok (.iconst 1, 1) := by decide +kernel
theorem dX2_areMeasures_22 : decode cX2_areMeasures 22 = .ok (.goto 4, 3) := by decide +kernel
theorem dX2_areMeasures_25 : decode cX2_areMeasures 25 = .ok (.iconst 0, 1) := by decide +kernel
theorem dX2_areMeasures_26 : decode cX2_areMeasures 26 = .ok (.ireturn, 1) := by decide +kernel
theorem dX2_isSort_0 : decode cX2_isSort 0 = .ok (.iload_n 0, 1) := by decide +kernel
theorem dX2_isSort_1 : decode cX2_isSort 1 = .ok (.ifCond .lt 12, 3) := by decide +kernel
theorem dX2_isSort_4 : decode cX2_isSort 4 = .ok (.iload_n 0, 1) := by decide +kernel
theorem dX2_isSort_5 : decode cX2_isSort 5 = .ok (.iconst 3, 1) := by decide +kernel
theorem dX2_isSort_6 : decode cX2_isSort 6 = .ok (.if_icmp .ge 7, 3) := by decide +kernel
theorem dX2_isSort_9 : decode cX2_isSort 9 = .ok (.iconst 1, 1) := by decide +kernel
theorem dX2_isSort_10 : decode cX2_isSort 10 = .ok (.goto 4, 3) := by decide +kernel
theorem dX2_isSort_13 : decode cX2_isSort 13 = .ok (.iconst 0, 1) := by decide +kernel
theorem dX2_isSort_14 : decode cX2_isSort 14 = .ok (.ireturn, 1) := by decide +kernel
theorem dX2_isDepth_0 : decode cX2_isDepth 0 = .ok (.iload_n 0, 1) := by decide +kernel
theorem dX2_isDepth_1 : decode cX2_isDepth 1 = .ok (.iconst 1, 1) := by decide +kernel
theorem dX2_isDepth_2 : decode cX2_isDepth 2 = .ok (.if_icmp .lt 12, 3) := by decide +kernel
theorem dX2_isDepth_5 : decode cX2_isDepth 5 = .ok (.iload_n 0, 1) := by decide +kernel
theorem dX2_isDepth_6 : decode cX2_isDepth 6 = .ok (.iconst 5, 1) := by decide +kernel
theorem dX2_isDepth_7 : decode cX2_isDepth 7 = .ok (.if_icmp .gt 7, 3) := by decide +kernel
theorem dX2_isDepth_10 : decode cX2_isDepth 10 = .ok (.iconst 1, 1) := by decide +kernel
theorem dX2_isDepth_11 : decode cX2_isDepth 11 = .ok (.goto 4, 3) := by decide +kernel
theorem dX2_isDepth_14 : decode cX2_isDepth 14 = .ok (.iconst 0, 1) := by decide +kernel
theorem dX2_isDepth_15 : decode cX2_isDepth 15 = .ok (.ireturn, 1) := by decide +kernel
theorem dX2_isLeast_0 : decode cX2_isLeast 0 = .ok (.iload_n 0, 1) := by decide +kernel
theorem dX2_isLeast_1 : decode cX2_isLeast 1 = .ok (.iconst 1, 1) := by decide +kernel
theorem dX2_isLeast_2 : decode cX2_isLeast 2 = .ok (.if_icmp .lt 13, 3) := by decide +kernel
theorem dX2_isLeast_5 : decode cX2_isLeast 5 = .ok (.iload_n 0, 1) := by decide +kernel
theorem dX2_isLeast_6 : decode cX2_isLeast 6 = .ok (.bipush 6, 2) := by decide +kernel
theorem dX2_isLeast_8 : decode cX2_isLeast 8 = .ok (.if_icmp .gt 7, 3) := by decide +kernel
theorem dX2_isLeast_11 : decode cX2_isLeast 11 = .ok (.iconst 1, 1) := by decide +kernel
end
section
theorem dX2_isLeast_12 : decode cX2_isLeast 12 = .ok (.goto 4, 3) := by decide +kernel
theorem dX2_isLeast_15 : decode cX2_isLeast 15 = .ok (.iconst 0, 1) := by decide +kernel
theorem dX2_isLeast_16 : decode cX2_isLeast 16 = .ok (.ireturn, 1) := by decide +kernel
theorem dX2_isIn_0 : decode cX2_isIn 0 = .ok (.iload_n 0, 1) := by decide +kernel
theorem dX2_isIn_1 : decode cX2_isIn 1 = .ok (.iconst 1, 1) := by decide +kernel
theorem dX2_isIn_2 : decode cX2_isIn 2 = .ok (.iload_n 1, 1) := by decide +kernel
theorem dX2_isIn_3 : decode cX2_isIn 3 = .ok (.ishl, 1) := by decide +kernel
theorem dX2_isIn_4 : decode cX2_isIn 4 = .ok (.iand, 1) := by decide +kernel
theorem dX2_isIn_5 : decode cX2_isIn 5 = .ok (.ifCond .eq 7, 3) := by decide +kernel
theorem dX2_isIn_8 : decode cX2_isIn 8 = .ok (.iconst 1, 1) := by decide +kernel
theorem dX2_isIn_9 : decode cX2_isIn 9 = .ok (.goto 4, 3) := by decide +kernel
theorem dX2_isIn_12 : decode cX2_isIn 12 = .ok (.iconst 0, 1) := by decide +kernel
theorem dX2_isIn_13 : decode cX2_isIn 13 = .ok (.ireturn, 1) := by decide +kernel
theorem dX2_measureOfCut_0 : decode cX2_measureOfCut 0 = .ok (.iload_n 0, 1) := by decide +kernel
theorem dX2_measureOfCut_1 : decode cX2_measureOfCut 1 = .ok (.ifCond .ge 7, 3) := by decide +kernel
theorem dX2_measureOfCut_4 : decode cX2_measureOfCut 4 = .ok (.iconst (-1), 1) := by decide +kernel
theorem dX2_measureOfCut_5 : decode cX2_measureOfCut 5 = .ok (.goto 7, 3) := by decide +kernel
theorem dX2_measureOfCut_8 : decode cX2_measureOfCut 8 = .ok (.iload_n 0, 1) := by decide +kernel
theorem dX2_measureOfCut_9 : decode cX2_measureOfCut 9 = .ok (.bipush 51, 2) := by decide +kernel
theorem dX2_measureOfCut_11 : decode cX2_measureOfCut 11 = .ok (.idiv, 1) := by decide +kernel
theorem dX2_measureOfCut_12 : decode cX2_measureOfCut 12 = .ok (.ireturn, 1) := by decide +kernel
theorem dX2_numberOfCut_0 : decode cX2_numberOfCut 0 = .ok (.iload_n 0, 1) := by decide +kernel
theorem dX2_numberOfCut_1 : decode cX2_numberOfCut 1 = .ok (.ifCond .ge 7, 3) := by decide +kernel
theorem dX2_numberOfCut_4 : decode cX2_numberOfCut 4 = .ok (.iconst (-1), 1) := by decide +kernel
theorem dX2_numberOfCut_5 : decode cX2_numberOfCut 5 = .ok (.goto 7, 3) := by decide +kernel
theorem dX2_numberOfCut_8 : decode cX2_numberOfCut 8 = .ok (.iload_n 0, 1) := by decide +kernel
theorem dX2_numberOfCut_9 : decode cX2_numberOfCut 9 = .ok (.bipush 51, 2) := by decide +kernel
theorem dX2_numberOfCut_11 : decode cX2_numberOfCut 11 = .ok (.irem, 1) := by decide +kernel
theorem dX2_numberOfCut_12 : decode cX2_numberOfCut 12 = .ok (.ireturn, 1) := by decide +kernel
theorem dX2_gainBelow_0 : decode cX2_gainBelow 0 = .ok (.iload_n 0, 1) := by decide +kernel
theorem dX2_gainBelow_1 : decode cX2_gainBelow 1 = .ok (.invokestatic 192, 3) := by decide +kernel
theorem dX2_gainBelow_4 : decode cX2_gainBelow 4 = .ok (.iload_n 1, 1) := by decide +kernel
theorem dX2_gainBelow_5 : decode cX2_gainBelow 5 = .ok (.invokestatic 192, 3) := by decide +kernel
theorem dX2_gainBelow_8 : decode cX2_gainBelow 8 = .ok (.imul, 1) := by decide +kernel
theorem dX2_gainBelow_9 : decode cX2_gainBelow 9 = .ok (.iload_n 0, 1) := by decide +kernel
theorem dX2_gainBelow_10 : decode cX2_gainBelow 10 = .ok (.iload_n 1, 1) := by decide +kernel
theorem dX2_gainBelow_11 : decode cX2_gainBelow 11 = .ok (.iconst (-1), 1) := by decide +kernel
theorem dX2_gainBelow_12 : decode cX2_gainBelow 12 = .ok (.ixor, 1) := by decide +kernel
theorem dX2_gainBelow_13 : decode cX2_gainBelow 13 = .ok (.iand, 1) := by decide +kernel
theorem dX2_gainBelow_14 : decode cX2_gainBelow 14 = .ok (.invokestatic 192, 3) := by decide +kernel
theorem dX2_gainBelow_17 : decode cX2_gainBelow 17 = .ok (.imul, 1) := by decide +kernel
theorem dX2_gainBelow_18 : decode cX2_gainBelow 18 = .ok (.ireturn, 1) := by decide +kernel
theorem dX2_commonDivisor_0 : decode cX2_commonDivisor 0 = .ok (.iload_n 0, 1) := by decide +kernel
theorem dX2_commonDivisor_1 : decode cX2_commonDivisor 1 = .ok (.istore_n 2, 1) := by decide +kernel
theorem dX2_commonDivisor_2 : decode cX2_commonDivisor 2 = .ok (.iload_n 1, 1) := by decide +kernel
theorem dX2_commonDivisor_3 : decode cX2_commonDivisor 3 = .ok (.istore_n 3, 1) := by decide +kernel
theorem dX2_commonDivisor_4 : decode cX2_commonDivisor 4 = .ok (.iconst 0, 1) := by decide +kernel
theorem dX2_commonDivisor_5 : decode cX2_commonDivisor 5 = .ok (.istore 4, 2) := by decide +kernel
theorem dX2_commonDivisor_7 : decode cX2_commonDivisor 7 = .ok (.iload 4, 2) := by decide +kernel
theorem dX2_commonDivisor_9 : decode cX2_commonDivisor 9 = .ok (.bipush 47, 2) := by decide +kernel
theorem dX2_commonDivisor_11 : decode cX2_commonDivisor 11 = .ok (.if_icmp .ge 23, 3) := by decide +kernel
theorem dX2_commonDivisor_14 : decode cX2_commonDivisor 14 = .ok (.iload_n 3, 1) := by decide +kernel
theorem dX2_commonDivisor_15 : decode cX2_commonDivisor 15 = .ok (.ifCond .le 19, 3) := by decide +kernel
theorem dX2_commonDivisor_18 : decode cX2_commonDivisor 18 = .ok (.iload_n 2, 1) := by decide +kernel
theorem dX2_commonDivisor_19 : decode cX2_commonDivisor 19 = .ok (.iload_n 3, 1) := by decide +kernel
theorem dX2_commonDivisor_20 : decode cX2_commonDivisor 20 = .ok (.irem, 1) := by decide +kernel
theorem dX2_commonDivisor_21 : decode cX2_commonDivisor 21 = .ok (.istore 5, 2) := by decide +kernel
theorem dX2_commonDivisor_23 : decode cX2_commonDivisor 23 = .ok (.iload_n 3, 1) := by decide +kernel
theorem dX2_commonDivisor_24 : decode cX2_commonDivisor 24 = .ok (.istore_n 2, 1) := by decide +kernel
theorem dX2_commonDivisor_25 : decode cX2_commonDivisor 25 = .ok (.iload 5, 2) := by decide +kernel
theorem dX2_commonDivisor_27 : decode cX2_commonDivisor 27 = .ok (.istore_n 3, 1) := by decide +kernel
theorem dX2_commonDivisor_28 : decode cX2_commonDivisor 28 = .ok (.iinc 4 1, 3) := by decide +kernel
theorem dX2_commonDivisor_31 : decode cX2_commonDivisor 31 = .ok (.goto (-24), 3) := by decide +kernel
theorem dX2_commonDivisor_34 : decode cX2_commonDivisor 34 = .ok (.iload_n 2, 1) := by decide +kernel
theorem dX2_commonDivisor_35 : decode cX2_commonDivisor 35 = .ok (.iconst 1, 1) := by decide +kernel
theorem dX2_commonDivisor_36 : decode cX2_commonDivisor 36 = .ok (.if_icmp .ge 7, 3) := by decide +kernel
theorem dX2_commonDivisor_39 : decode cX2_commonDivisor 39 = .ok (.iconst 1, 1) := by decide +kernel
theorem dX2_commonDivisor_40 : decode cX2_commonDivisor 40 = .ok (.goto 4, 3) := by decide +kernel
theorem dX2_commonDivisor_43 : decode cX2_commonDivisor 43 = .ok (.iload_n 2, 1) := by decide +kernel
theorem dX2_commonDivisor_44 : decode cX2_commonDivisor 44 = .ok (.ireturn, 1) := by decide +kernel
end
section
theorem dL_below_0 : decode cL_below 0 = .ok (.iload_n 0, 1) := by decide +kernel
theorem dL_below_1 : decode cL_below 1 = .ok (.ldc 7, 2) := by decide +kernel
theorem dL_below_3 : decode cL_below 3 = .ok (.iand, 1) := by decide +kernel
theorem dL_below_4 : decode cL_below 4 = .ok (.iload_n 1, 1) := by decide +kernel
theorem dL_below_5 : decode cL_below 5 = .ok (.irem, 1) := by decide +kernel
theorem dL_below_6 : decode cL_below 6 = .ok (.ireturn, 1) := by decide +kernel
theorem dL_cell_0 : decode cL_cell 0 = .ok (.iload_n 1, 1) := by decide +kernel
theorem dL_cell_1 : decode cL_cell 1 = .ok (.aload_n 0, 1) := by decide +kernel
theorem dL_cell_2 : decode cL_cell 2 = .ok (.arraylength, 1) := by decide +kernel
theorem dL_cell_3 : decode cL_cell 3 = .ok (.if_icmp .ge 9, 3) := by decide +kernel
theorem dL_cell_6 : decode cL_cell 6 = .ok (.aload_n 0, 1) := by decide +kernel
theorem dL_cell_7 : decode cL_cell 7 = .ok (.iload_n 1, 1) := by decide +kernel
theorem dL_cell_8 : decode cL_cell 8 = .ok (.iaload, 1) := by decide +kernel
theorem dL_cell_9 : decode cL_cell 9 = .ok (.goto 9, 3) := by decide +kernel
theorem dL_cell_12 : decode cL_cell 12 = .ok (.ldc 8, 2) := by decide +kernel
theorem dL_cell_14 : decode cL_cell 14 = .ok (.iload_n 1, 1) := by decide +kernel
theorem dL_cell_15 : decode cL_cell 15 = .ok (.iconst 3, 1) := by decide +kernel
theorem dL_cell_16 : decode cL_cell 16 = .ok (.iadd, 1) := by decide +kernel
theorem dL_cell_17 : decode cL_cell 17 = .ok (.imul, 1) := by decide +kernel
theorem dL_cell_18 : decode cL_cell 18 = .ok (.ireturn, 1) := by decide +kernel
theorem dL_beansOf_0 : decode cL_beansOf 0 = .ok (.iconst 3, 1) := by decide +kernel
theorem dL_beansOf_1 : decode cL_beansOf 1 = .ok (.aload_n 0, 1) := by decide +kernel
theorem dL_beansOf_2 : decode cL_beansOf 2 = .ok (.iconst 0, 1) := by decide +kernel
theorem dL_beansOf_3 : decode cL_beansOf 3 = .ok (.invokestatic 9, 3) := by decide +kernel
theorem dL_beansOf_6 : decode cL_beansOf 6 = .ok (.bipush 18, 2) := by decide +kernel
theorem dL_beansOf_8 : decode cL_beansOf 8 = .ok (.invokestatic 15, 3) := by decide +kernel
theorem dL_beansOf_11 : decode cL_beansOf 11 = .ok (.iadd, 1) := by decide +kernel
theorem dL_beansOf_12 : decode cL_beansOf 12 = .ok (.ireturn, 1) := by decide +kernel
theorem dL_beanOf_0 : decode cL_beanOf 0 = .ok (.aload_n 0, 1) := by decide +kernel
theorem dL_beanOf_1 : decode cL_beanOf 1 = .ok (.iconst 1, 1) := by decide +kernel
theorem dL_beanOf_2 : decode cL_beanOf 2 = .ok (.iload_n 1, 1) := by decide +kernel
theorem dL_beanOf_3 : decode cL_beanOf 3 = .ok (.bipush 15, 2) := by decide +kernel
theorem dL_beanOf_5 : decode cL_beanOf 5 = .ok (.irem, 1) := by decide +kernel
theorem dL_beanOf_6 : decode cL_beanOf 6 = .ok (.iadd, 1) := by decide +kernel
theorem dL_beanOf_7 : decode cL_beanOf 7 = .ok (.invokestatic 9, 3) := by decide +kernel
theorem dL_beanOf_10 : decode cL_beanOf 10 = .ok (.iload_n 1, 1) := by decide +kernel
theorem dL_beanOf_11 : decode cL_beanOf 11 = .ok (.bipush 15, 2) := by decide +kernel
theorem dL_beanOf_13 : decode cL_beanOf 13 = .ok (.idiv, 1) := by decide +kernel
theorem dL_beanOf_14 : decode cL_beanOf 14 = .ok (.bipush 7, 2) := by decide +kernel
theorem dL_beanOf_16 : decode cL_beanOf 16 = .ok (.imul, 1) := by decide +kernel
theorem dL_beanOf_17 : decode cL_beanOf 17 = .ok (.ishr, 1) := by decide +kernel
theorem dL_beanOf_18 : decode cL_beanOf 18 = .ok (.istore_n 2, 1) := by decide +kernel
theorem dL_beanOf_19 : decode cL_beanOf 19 = .ok (.iload_n 2, 1) := by decide +kernel
theorem dL_beanOf_20 : decode cL_beanOf 20 = .ok (.iconst 2, 1) := by decide +kernel
theorem dL_beanOf_21 : decode cL_beanOf 21 = .ok (.ishr, 1) := by decide +kernel
theorem dL_beanOf_22 : decode cL_beanOf 22 = .ok (.iconst 3, 1) := by decide +kernel
theorem dL_beanOf_23 : decode cL_beanOf 23 = .ok (.invokestatic 15, 3) := by decide +kernel
theorem dL_beanOf_26 : decode cL_beanOf 26 = .ok (.istore_n 3, 1) := by decide +kernel
theorem dL_beanOf_27 : decode cL_beanOf 27 = .ok (.aload_n 0, 1) := by decide +kernel
theorem dL_beanOf_28 : decode cL_beanOf 28 = .ok (.iconst 1, 1) := by decide +kernel
theorem dL_beanOf_29 : decode cL_beanOf 29 = .ok (.invokestatic 9, 3) := by decide +kernel
theorem dL_beanOf_32 : decode cL_beanOf 32 = .ok (.iconst 3, 1) := by decide +kernel
theorem dL_beanOf_33 : decode cL_beanOf 33 = .ok (.invokestatic 15, 3) := by decide +kernel
theorem dL_beanOf_36 : decode cL_beanOf 36 = .ok (.ifCond .ne 8, 3) := by decide +kernel
theorem dL_beanOf_39 : decode cL_beanOf 39 = .ok (.bipush 51, 2) := by decide +kernel
theorem dL_beanOf_41 : decode cL_beanOf 41 = .ok (.goto 5, 3) := by decide +kernel
theorem dL_beanOf_44 : decode cL_beanOf 44 = .ok (.bipush 20, 2) := by decide +kernel
theorem dL_beanOf_46 : decode cL_beanOf 46 = .ok (.istore 4, 2) := by decide +kernel
theorem dL_beanOf_48 : decode cL_beanOf 48 = .ok (.iconst 5, 1) := by decide +kernel
theorem dL_beanOf_49 : decode cL_beanOf 49 = .ok (.newarray .int, 2) := by decide +kernel
theorem dL_beanOf_51 : decode cL_beanOf 51 = .ok (.dup, 1) := by decide +kernel
theorem dL_beanOf_52 : decode cL_beanOf 52 = .ok (.iconst 0, 1) := by decide +kernel
theorem dL_beanOf_53 : decode cL_beanOf 53 = .ok (.iload_n 2, 1) := by decide +kernel
theorem dL_beanOf_54 : decode cL_beanOf 54 = .ok (.iconst 1, 1) := by decide +kernel
theorem dL_beanOf_55 : decode cL_beanOf 55 = .ok (.ishr, 1) := by decide +kernel
theorem dL_beanOf_56 : decode cL_beanOf 56 = .ok (.iload 4, 2) := by decide +kernel
theorem dL_beanOf_58 : decode cL_beanOf 58 = .ok (.invokestatic 15, 3) := by decide +kernel
theorem dL_beanOf_61 : decode cL_beanOf 61 = .ok (.bipush 10, 2) := by decide +kernel
theorem dL_beanOf_63 : decode cL_beanOf 63 = .ok (.iload_n 3, 1) := by decide +kernel
theorem dL_beanOf_64 : decode cL_beanOf 64 = .ok (.imul, 1) := by decide +kernel
theorem dL_beanOf_65 : decode cL_beanOf 65 = .ok (.bipush 52, 2) := by decide +kernel
theorem dL_beanOf_67 : decode cL_beanOf 67 = .ok (.iload 4, 2) := by decide +kernel
theorem dL_beanOf_69 : decode cL_beanOf 69 = .ok (.isub, 1) := by decide +kernel
theorem dL_beanOf_70 : decode cL_beanOf 70 = .ok (.irem, 1) := by decide +kernel
theorem dL_beanOf_71 : decode cL_beanOf 71 = .ok (.iadd, 1) := by decide +kernel
theorem dL_beanOf_72 : decode cL_beanOf 72 = .ok (.iastore, 1) := by decide +kernel
theorem dL_beanOf_73 : decode cL_beanOf 73 = .ok (.dup, 1) := by decide +kernel
theorem dL_beanOf_74 : decode cL_beanOf 74 = .ok (.iconst 1, 1) := by decide +kernel
theorem dL_beanOf_75 : decode cL_beanOf 75 = .ok (.iload_n 2, 1) := by decide +kernel
theorem dL_beanOf_76 : decode cL_beanOf 76 = .ok (.iconst 4, 1) := by decide +kernel
theorem dL_beanOf_77 : decode cL_beanOf 77 = .ok (.ishr, 1) := by decide +kernel
theorem dL_beanOf_78 : decode cL_beanOf 78 = .ok (.iload 4, 2) := by decide +kernel
theorem dL_beanOf_80 : decode cL_beanOf 80 = .ok (.invokestatic 15, 3) := by decide +kernel
theorem dL_beanOf_83 : decode cL_beanOf 83 = .ok (.iastore, 1) := by decide +kernel
theorem dL_beanOf_84 : decode cL_beanOf 84 = .ok (.dup, 1) := by decide +kernel
theorem dL_beanOf_85 : decode cL_beanOf 85 = .ok (.iconst 2, 1) := by decide +kernel
theorem dL_beanOf_86 : decode cL_beanOf 86 = .ok (.iload_n 2, 1) := by decide +kernel
theorem dL_beanOf_87 : decode cL_beanOf 87 = .ok (.bipush 7, 2) := by decide +kernel
theorem dL_beanOf_89 : decode cL_beanOf 89 = .ok (.ishr, 1) := by decide +kernel
theorem dL_beanOf_90 : decode cL_beanOf 90 = .ok (.bipush 6, 2) := by decide +kernel
theorem dL_beanOf_92 : decode cL_beanOf 92 = .ok (.invokestatic 15, 3) := by decide +kernel
theorem dL_beanOf_95 : decode cL_beanOf 95 = .ok (.iastore, 1) := by decide +kernel
theorem dL_beanOf_96 : decode cL_beanOf 96 = .ok (.dup, 1) := by decide +kernel
theorem dL_beanOf_97 : decode cL_beanOf 97 = .ok (.iconst 3, 1) := by decide +kernel
theorem dL_beanOf_98 : decode cL_beanOf 98 = .ok (.iload_n 3, 1) := by decide +kernel
theorem dL_beanOf_99 : decode cL_beanOf 99 = .ok (.iastore, 1) := by decide +kernel
theorem dL_beanOf_100 : decode cL_beanOf 100 = .ok (.dup, 1) := by decide +kernel
theorem dL_beanOf_101 : decode cL_beanOf 101 = .ok (.iconst 4, 1) := by decide +kernel
theorem dL_beanOf_102 : decode cL_beanOf 102 = .ok (.iload_n 2, 1) := by decide +kernel
theorem dL_beanOf_103 : decode cL_beanOf 103 = .ok (.iconst 3, 1) := by decide +kernel
theorem dL_beanOf_104 : decode cL_beanOf 104 = .ok (.ishr, 1) := by decide +kernel
theorem dL_beanOf_105 : decode cL_beanOf 105 = .ok (.iconst 4, 1) := by decide +kernel
theorem dL_beanOf_106 : decode cL_beanOf 106 = .ok (.invokestatic 15, 3) := by decide +kernel
theorem dL_beanOf_109 : decode cL_beanOf 109 = .ok (.ifCond .ne 7, 3) := by decide +kernel
theorem dL_beanOf_112 : decode cL_beanOf 112 = .ok (.iconst 1, 1) := by decide +kernel
theorem dL_beanOf_113 : decode cL_beanOf 113 = .ok (.goto 4, 3) := by decide +kernel
theorem dL_beanOf_116 : decode cL_beanOf 116 = .ok (.iconst 0, 1) := by decide +kernel
theorem dL_beanOf_117 : decode cL_beanOf 117 = .ok (.iastore, 1) := by decide +kernel
theorem dL_beanOf_118 : decode cL_beanOf 118 = .ok (.astore 5, 2) := by decide +kernel
theorem dL_beanOf_120 : decode cL_beanOf 120 = .ok (.aload 5, 2) := by decide +kernel
theorem dL_beanOf_122 : decode cL_beanOf 122 = .ok (.areturn, 1) := by decide +kernel
theorem dL_sorter_0 : decode cL_sorter 0 = .ok (.new 19, 3) := by decide +kernel
theorem dL_sorter_3 : decode cL_sorter 3 = .ok (.dup, 1) := by decide +kernel
theorem dL_sorter_4 : decode cL_sorter 4 = .ok (.invokespecial 21, 3) := by decide +kernel
theorem dL_sorter_7 : decode cL_sorter 7 = .ok (.astore_n 1, 1) := by decide +kernel
theorem dL_sorter_8 : decode cL_sorter 8 = .ok (.iconst 0, 1) := by decide +kernel
theorem dL_sorter_9 : decode cL_sorter 9 = .ok (.istore_n 2, 1) := by decide +kernel
theorem dL_sorter_10 : decode cL_sorter 10 = .ok (.iload_n 2, 1) := by decide +kernel
theorem dL_sorter_11 : decode cL_sorter 11 = .ok (.aload_n 0, 1) := by decide +kernel
theorem dL_sorter_12 : decode cL_sorter 12 = .ok (.invokestatic 22, 3) := by decide +kernel
theorem dL_sorter_15 : decode cL_sorter 15 = .ok (.if_icmp .ge 53, 3) := by decide +kernel
theorem dL_sorter_18 : decode cL_sorter 18 = .ok (.aload_n 0, 1) := by decide +kernel
theorem dL_sorter_19 : decode cL_sorter 19 = .ok (.iload_n 2, 1) := by decide +kernel
theorem dL_sorter_20 : decode cL_sorter 20 = .ok (.invokestatic 26, 3) := by decide +kernel
theorem dL_sorter_23 : decode cL_sorter 23 = .ok (.astore_n 3, 1) := by decide +kernel
theorem dL_sorter_24 : decode cL_sorter 24 = .ok (.aload_n 1, 1) := by decide +kernel
theorem dL_sorter_25 : decode cL_sorter 25 = .ok (.aload_n 3, 1) := by decide +kernel
theorem dL_sorter_26 : decode cL_sorter 26 = .ok (.iconst 0, 1) := by decide +kernel
theorem dL_sorter_27 : decode cL_sorter 27 = .ok (.iaload, 1) := by decide +kernel
theorem dL_sorter_28 : decode cL_sorter 28 = .ok (.aload_n 3, 1) := by decide +kernel
theorem dL_sorter_29 : decode cL_sorter 29 = .ok (.iconst 1, 1) := by decide +kernel
theorem dL_sorter_30 : decode cL_sorter 30 = .ok (.iaload, 1) := by decide +kernel
theorem dL_sorter_31 : decode cL_sorter 31 = .ok (.aload_n 3, 1) := by decide +kernel
theorem dL_sorter_32 : decode cL_sorter 32 = .ok (.iconst 2, 1) := by decide +kernel
theorem dL_sorter_33 : decode cL_sorter 33 = .ok (.iaload, 1) := by decide +kernel
theorem dL_sorter_34 : decode cL_sorter 34 = .ok (.aload_n 3, 1) := by decide +kernel
theorem dL_sorter_35 : decode cL_sorter 35 = .ok (.iconst 3, 1) := by decide +kernel
theorem dL_sorter_36 : decode cL_sorter 36 = .ok (.iaload, 1) := by decide +kernel
theorem dL_sorter_37 : decode cL_sorter 37 = .ok (.invokevirtual 30, 3) := by decide +kernel
theorem dL_sorter_40 : decode cL_sorter 40 = .ok (.iload_n 2, 1) := by decide +kernel
theorem dL_sorter_41 : decode cL_sorter 41 = .ok (.if_icmp .ne 19, 3) := by decide +kernel
theorem dL_sorter_44 : decode cL_sorter 44 = .ok (.aload_n 3, 1) := by decide +kernel
theorem dL_sorter_45 : decode cL_sorter 45 = .ok (.iconst 4, 1) := by decide +kernel
theorem dL_sorter_46 : decode cL_sorter 46 = .ok (.iaload, 1) := by decide +kernel
theorem dL_sorter_47 : decode cL_sorter 47 = .ok (.iconst 1, 1) := by decide +kernel
theorem dL_sorter_48 : decode cL_sorter 48 = .ok (.if_icmp .ne 14, 3) := by decide +kernel
theorem dL_sorter_51 : decode cL_sorter 51 = .ok (.aload_n 1, 1) := by decide +kernel
theorem dL_sorter_52 : decode cL_sorter 52 = .ok (.iload_n 2, 1) := by decide +kernel
theorem dL_sorter_53 : decode cL_sorter 53 = .ok (.iconst 1, 1) := by decide +kernel
theorem dL_sorter_54 : decode cL_sorter 54 = .ok (.invokevirtual 34, 3) := by decide +kernel
theorem dL_sorter_57 : decode cL_sorter 57 = .ok (.ifCond .eq 5, 3) := by decide +kernel
theorem dL_sorter_60 : decode cL_sorter 60 = .ok (.aconst_null, 1) := by decide +kernel
theorem dL_sorter_61 : decode cL_sorter 61 = .ok (.areturn, 1) := by decide +kernel
theorem dL_sorter_62 : decode cL_sorter 62 = .ok (.iinc 2 1, 3) := by decide +kernel
theorem dL_sorter_65 : decode cL_sorter 65 = .ok (.goto (-55), 3) := by decide +kernel
theorem dL_sorter_68 : decode cL_sorter 68 = .ok (.aload_n 1, 1) := by decide +kernel
theorem dL_sorter_69 : decode cL_sorter 69 = .ok (.areturn, 1) := by decide +kernel
end
section
theorem dL_law_0 : decode cL_law 0 = .ok (.aload_n 0, 1) := by decide +kernel
theorem dL_law_1 : decode cL_law 1 = .ok (.invokestatic 38, 3) := by decide +kernel
theorem dL_law_4 : decode cL_law 4 = .ok (.astore_n 1, 1) := by decide +kernel
theorem dL_law_5 : decode cL_law 5 = .ok (.aload_n 1, 1) := by decide +kernel
theorem dL_law_6 : decode cL_law 6 = .ok (.ifnonnull 5, 3) := by decide +kernel
theorem dL_law_9 : decode cL_law 9 = .ok (.iconst 0, 1) := by decide +kernel
theorem dL_law_10 : decode cL_law 10 = .ok (.ireturn, 1) := by decide +kernel
theorem dL_law_11 : decode cL_law 11 = .ok (.iconst 0, 1) := by decide +kernel
theorem dL_law_12 : decode cL_law 12 = .ok (.istore_n 2, 1) := by decide +kernel
theorem dL_law_13 : decode cL_law 13 = .ok (.iconst 0, 1) := by decide +kernel
theorem dL_law_14 : decode cL_law 14 = .ok (.istore_n 3, 1) := by decide +kernel
theorem dL_law_15 : decode cL_law 15 = .ok (.iload_n 3, 1) := by decide +kernel
theorem dL_law_16 : decode cL_law 16 = .ok (.bipush 16, 2) := by decide +kernel
theorem dL_law_18 : decode cL_law 18 = .ok (.if_icmp .ge 881, 3) := by decide +kernel
theorem dL_law_21 : decode cL_law 21 = .ok (.aload_n 0, 1) := by decide +kernel
theorem dL_law_22 : decode cL_law 22 = .ok (.iload_n 3, 1) := by decide +kernel
theorem dL_law_23 : decode cL_law 23 = .ok (.invokestatic 9, 3) := by decide +kernel
theorem dL_law_26 : decode cL_law 26 = .ok (.istore 4, 2) := by decide +kernel
theorem dL_law_28 : decode cL_law 28 = .ok (.aload_n 1, 1) := by decide +kernel
theorem dL_law_29 : decode cL_law 29 = .ok (.iconst 1, 1) := by decide +kernel
theorem dL_law_30 : decode cL_law 30 = .ok (.iload 4, 2) := by decide +kernel
theorem dL_law_32 : decode cL_law 32 = .ok (.iconst 5, 1) := by decide +kernel
theorem dL_law_33 : decode cL_law 33 = .ok (.invokestatic 15, 3) := by decide +kernel
theorem dL_law_36 : decode cL_law 36 = .ok (.iadd, 1) := by decide +kernel
theorem dL_law_37 : decode cL_law 37 = .ok (.invokevirtual 42, 3) := by decide +kernel
theorem dL_law_40 : decode cL_law 40 = .ok (.pop, 1) := by decide +kernel
theorem dL_law_41 : decode cL_law 41 = .ok (.aload_n 1, 1) := by decide +kernel
theorem dL_law_42 : decode cL_law 42 = .ok (.iconst 1, 1) := by decide +kernel
theorem dL_law_43 : decode cL_law 43 = .ok (.iload 4, 2) := by decide +kernel
theorem dL_law_45 : decode cL_law 45 = .ok (.iconst 3, 1) := by decide +kernel
theorem dL_law_46 : decode cL_law 46 = .ok (.ishr, 1) := by decide +kernel
theorem dL_law_47 : decode cL_law 47 = .ok (.iconst 4, 1) := by decide +kernel
theorem dL_law_48 : decode cL_law 48 = .ok (.invokestatic 15, 3) := by decide +kernel
theorem dL_law_51 : decode cL_law 51 = .ok (.iadd, 1) := by decide +kernel
theorem dL_law_52 : decode cL_law 52 = .ok (.invokevirtual 46, 3) := by decide +kernel
theorem dL_law_55 : decode cL_law 55 = .ok (.pop, 1) := by decide +kernel
theorem dL_law_56 : decode cL_law 56 = .ok (.aload_n 1, 1) := by decide +kernel
theorem dL_law_57 : decode cL_law 57 = .ok (.invokevirtual 49, 3) := by decide +kernel
theorem dL_law_60 : decode cL_law 60 = .ok (.lstore 5, 2) := by decide +kernel
theorem dL_law_62 : decode cL_law 62 = .ok (.iload 4, 2) := by decide +kernel
theorem dL_law_64 : decode cL_law 64 = .ok (.iconst 2, 1) := by decide +kernel
theorem dL_law_65 : decode cL_law 65 = .ok (.ishr, 1) := by decide +kernel
theorem dL_law_66 : decode cL_law 66 = .ok (.iconst 3, 1) := by decide +kernel
theorem dL_law_67 : decode cL_law 67 = .ok (.invokestatic 15, 3) := by decide +kernel
theorem dL_law_70 : decode cL_law 70 = .ok (.istore 7, 2) := by decide +kernel
theorem dL_law_72 : decode cL_law 72 = .ok (.iload 4, 2) := by decide +kernel
theorem dL_law_74 : decode cL_law 74 = .ok (.iconst 4, 1) := by decide +kernel
theorem dL_law_75 : decode cL_law 75 = .ok (.ishr, 1) := by decide +kernel
theorem dL_law_76 : decode cL_law 76 = .ok (.bipush 51, 2) := by decide +kernel
theorem dL_law_78 : decode cL_law 78 = .ok (.invokestatic 15, 3) := by decide +kernel
theorem dL_law_81 : decode cL_law 81 = .ok (.istore 8, 2) := by decide +kernel
theorem dL_law_83 : decode cL_law 83 = .ok (.aload_n 1, 1) := by decide +kernel
theorem dL_law_84 : decode cL_law 84 = .ok (.iconst 0, 1) := by decide +kernel
theorem dL_law_85 : decode cL_law 85 = .ok (.invokevirtual 53, 3) := by decide +kernel
theorem dL_law_88 : decode cL_law 88 = .ok (.istore 9, 2) := by decide +kernel
theorem dL_law_90 : decode cL_law 90 = .ok (.aload_n 1, 1) := by decide +kernel
theorem dL_law_91 : decode cL_law 91 = .ok (.iconst 1, 1) := by decide +kernel
theorem dL_law_92 : decode cL_law 92 = .ok (.invokevirtual 53, 3) := by decide +kernel
theorem dL_law_95 : decode cL_law 95 = .ok (.istore 10, 2) := by decide +kernel
theorem dL_law_97 : decode cL_law 97 = .ok (.aload_n 1, 1) := by decide +kernel
theorem dL_law_98 : decode cL_law 98 = .ok (.invokevirtual 56, 3) := by decide +kernel
theorem dL_law_101 : decode cL_law 101 = .ok (.pop, 1) := by decide +kernel
theorem dL_law_102 : decode cL_law 102 = .ok (.aload_n 1, 1) := by decide +kernel
theorem dL_law_103 : decode cL_law 103 = .ok (.iconst 1, 1) := by decide +kernel
theorem dL_law_104 : decode cL_law 104 = .ok (.iload 4, 2) := by decide +kernel
theorem dL_law_106 : decode cL_law 106 = .ok (.iconst 5, 1) := by decide +kernel
theorem dL_law_107 : decode cL_law 107 = .ok (.ishr, 1) := by decide +kernel
theorem dL_law_108 : decode cL_law 108 = .ok (.iconst 5, 1) := by decide +kernel
theorem dL_law_109 : decode cL_law 109 = .ok (.invokestatic 15, 3) := by decide +kernel
theorem dL_law_112 : decode cL_law 112 = .ok (.iadd, 1) := by decide +kernel
theorem dL_law_113 : decode cL_law 113 = .ok (.iconst 1, 1) := by decide +kernel
theorem dL_law_114 : decode cL_law 114 = .ok (.iload 4, 2) := by decide +kernel
theorem dL_law_116 : decode cL_law 116 = .ok (.bipush 6, 2) := by decide +kernel
theorem dL_law_118 : decode cL_law 118 = .ok (.ishr, 1) := by decide +kernel
theorem dL_law_119 : decode cL_law 119 = .ok (.bipush 6, 2) := by decide +kernel
theorem dL_law_121 : decode cL_law 121 = .ok (.invokestatic 15, 3) := by decide +kernel
theorem dL_law_124 : decode cL_law 124 = .ok (.iadd, 1) := by decide +kernel
theorem dL_law_125 : decode cL_law 125 = .ok (.iload 4, 2) := by decide +kernel
theorem dL_law_127 : decode cL_law 127 = .ok (.iconst 3, 1) := by decide +kernel
theorem dL_law_128 : decode cL_law 128 = .ok (.invokestatic 15, 3) := by decide +kernel
theorem dL_law_131 : decode cL_law 131 = .ok (.invokevirtual 60, 3) := by decide +kernel
theorem dL_law_134 : decode cL_law 134 = .ok (.pop, 1) := by decide +kernel
theorem dL_law_135 : decode cL_law 135 = .ok (.aload_n 1, 1) := by decide +kernel
theorem dL_law_136 : decode cL_law 136 = .ok (.invokevirtual 49, 3) := by decide +kernel
theorem dL_law_139 : decode cL_law 139 = .ok (.lload 5, 2) := by decide +kernel
theorem dL_law_141 : decode cL_law 141 = .ok (.lcmp, 1) := by decide +kernel
theorem dL_law_142 : decode cL_law 142 = .ok (.ifCond .ne 38, 3) := by decide +kernel
theorem dL_law_145 : decode cL_law 145 = .ok (.aload_n 1, 1) := by decide +kernel
theorem dL_law_146 : decode cL_law 146 = .ok (.iload 7, 2) := by decide +kernel
theorem dL_law_148 : decode cL_law 148 = .ok (.iload 8, 2) := by decide +kernel
theorem dL_law_150 : decode cL_law 150 = .ok (.iconst 0, 1) := by decide +kernel
theorem dL_law_151 : decode cL_law 151 = .ok (.invokevirtual 64, 3) := by decide +kernel
theorem dL_law_154 : decode cL_law 154 = .ok (.ifCond .lt 26, 3) := by decide +kernel
theorem dL_law_157 : decode cL_law 157 = .ok (.iload 9, 2) := by decide +kernel
theorem dL_law_159 : decode cL_law 159 = .ok (.ifCond .ge 7, 3) := by decide +kernel
theorem dL_law_162 : decode cL_law 162 = .ok (.iconst 1, 1) := by decide +kernel
theorem dL_law_163 : decode cL_law 163 = .ok (.goto 4, 3) := by decide +kernel
theorem dL_law_166 : decode cL_law 166 = .ok (.iconst 0, 1) := by decide +kernel
theorem dL_law_167 : decode cL_law 167 = .ok (.iload 10, 2) := by decide +kernel
theorem dL_law_169 : decode cL_law 169 = .ok (.ifCond .ge 7, 3) := by decide +kernel
end
section
theorem dL_law_172 : decode cL_law 172 = .ok (.iconst 1, 1) := by decide +kernel
theorem dL_law_173 : decode cL_law 173 = .ok (.goto 4, 3) := by decide +kernel
theorem dL_law_176 : decode cL_law 176 = .ok (.iconst 0, 1) := by decide +kernel
theorem dL_law_177 : decode cL_law 177 = .ok (.if_icmp .eq 5, 3) := by decide +kernel
theorem dL_law_180 : decode cL_law 180 = .ok (.iconst 0, 1) := by decide +kernel
theorem dL_law_181 : decode cL_law 181 = .ok (.ireturn, 1) := by decide +kernel
theorem dL_law_182 : decode cL_law 182 = .ok (.iload 9, 2) := by decide +kernel
theorem dL_law_184 : decode cL_law 184 = .ok (.ifCond .lt 17, 3) := by decide +kernel
theorem dL_law_187 : decode cL_law 187 = .ok (.aload_n 1, 1) := by decide +kernel
theorem dL_law_188 : decode cL_law 188 = .ok (.iload 9, 2) := by decide +kernel
theorem dL_law_190 : decode cL_law 190 = .ok (.iload 10, 2) := by decide +kernel
theorem dL_law_192 : decode cL_law 192 = .ok (.iconst 0, 1) := by decide +kernel
theorem dL_law_193 : decode cL_law 193 = .ok (.invokevirtual 64, 3) := by decide +kernel
theorem dL_law_196 : decode cL_law 196 = .ok (.ifCond .gt 5, 3) := by decide +kernel
theorem dL_law_199 : decode cL_law 199 = .ok (.iconst 0, 1) := by decide +kernel
theorem dL_law_200 : decode cL_law 200 = .ok (.ireturn, 1) := by decide +kernel
theorem dL_law_201 : decode cL_law 201 = .ok (.aload_n 1, 1) := by decide +kernel
theorem dL_law_202 : decode cL_law 202 = .ok (.bipush 6, 2) := by decide +kernel
theorem dL_law_204 : decode cL_law 204 = .ok (.invokevirtual 67, 3) := by decide +kernel
theorem dL_law_207 : decode cL_law 207 = .ok (.iconst 1, 1) := by decide +kernel
theorem dL_law_208 : decode cL_law 208 = .ok (.if_icmp .ne 71, 3) := by decide +kernel
theorem dL_law_211 : decode cL_law 211 = .ok (.iload 9, 2) := by decide +kernel
theorem dL_law_213 : decode cL_law 213 = .ok (.ifCond .ge 18, 3) := by decide +kernel
theorem dL_law_216 : decode cL_law 216 = .ok (.aload_n 1, 1) := by decide +kernel
theorem dL_law_217 : decode cL_law 217 = .ok (.iload 7, 2) := by decide +kernel
theorem dL_law_219 : decode cL_law 219 = .ok (.iload 8, 2) := by decide +kernel
theorem dL_law_221 : decode cL_law 221 = .ok (.iconst 0, 1) := by decide +kernel
theorem dL_law_222 : decode cL_law 222 = .ok (.invokevirtual 64, 3) := by decide +kernel
theorem dL_law_225 : decode cL_law 225 = .ok (.ifCond .le 54, 3) := by decide +kernel
theorem dL_law_228 : decode cL_law 228 = .ok (.goto 49, 3) := by decide +kernel
theorem dL_law_231 : decode cL_law 231 = .ok (.aload_n 1, 1) := by decide +kernel
theorem dL_law_232 : decode cL_law 232 = .ok (.iload 7, 2) := by decide +kernel
theorem dL_law_234 : decode cL_law 234 = .ok (.iload 8, 2) := by decide +kernel
theorem dL_law_236 : decode cL_law 236 = .ok (.iconst 0, 1) := by decide +kernel
theorem dL_law_237 : decode cL_law 237 = .ok (.invokevirtual 64, 3) := by decide +kernel
theorem dL_law_240 : decode cL_law 240 = .ok (.i2l, 1) := by decide +kernel
theorem dL_law_241 : decode cL_law 241 = .ok (.aload_n 1, 1) := by decide +kernel
theorem dL_law_242 : decode cL_law 242 = .ok (.iload 9, 2) := by decide +kernel
theorem dL_law_244 : decode cL_law 244 = .ok (.iload 10, 2) := by decide +kernel
theorem dL_law_246 : decode cL_law 246 = .ok (.iconst 1, 1) := by decide +kernel
theorem dL_law_247 : decode cL_law 247 = .ok (.invokevirtual 64, 3) := by decide +kernel
theorem dL_law_250 : decode cL_law 250 = .ok (.i2l, 1) := by decide +kernel
theorem dL_law_251 : decode cL_law 251 = .ok (.lmul, 1) := by decide +kernel
theorem dL_law_252 : decode cL_law 252 = .ok (.aload_n 1, 1) := by decide +kernel
theorem dL_law_253 : decode cL_law 253 = .ok (.iload 9, 2) := by decide +kernel
theorem dL_law_255 : decode cL_law 255 = .ok (.iload 10, 2) := by decide +kernel
theorem dL_law_257 : decode cL_law 257 = .ok (.iconst 0, 1) := by decide +kernel
theorem dL_law_258 : decode cL_law 258 = .ok (.invokevirtual 64, 3) := by decide +kernel
theorem dL_law_261 : decode cL_law 261 = .ok (.i2l, 1) := by decide +kernel
theorem dL_law_262 : decode cL_law 262 = .ok (.aload_n 1, 1) := by decide +kernel
theorem dL_law_263 : decode cL_law 263 = .ok (.iload 7, 2) := by decide +kernel
theorem dL_law_265 : decode cL_law 265 = .ok (.iload 8, 2) := by decide +kernel
theorem dL_law_267 : decode cL_law 267 = .ok (.iconst 1, 1) := by decide +kernel
theorem dL_law_268 : decode cL_law 268 = .ok (.invokevirtual 64, 3) := by decide +kernel
theorem dL_law_271 : decode cL_law 271 = .ok (.i2l, 1) := by decide +kernel
theorem dL_law_272 : decode cL_law 272 = .ok (.lmul, 1) := by decide +kernel
theorem dL_law_273 : decode cL_law 273 = .ok (.lcmp, 1) := by decide +kernel
theorem dL_law_274 : decode cL_law 274 = .ok (.ifCond .le 5, 3) := by decide +kernel
theorem dL_law_277 : decode cL_law 277 = .ok (.iconst 0, 1) := by decide +kernel
theorem dL_law_278 : decode cL_law 278 = .ok (.ireturn, 1) := by decide +kernel
theorem dL_law_279 : decode cL_law 279 = .ok (.iload 4, 2) := by decide +kernel
theorem dL_law_281 : decode cL_law 281 = .ok (.bipush 7, 2) := by decide +kernel
theorem dL_law_283 : decode cL_law 283 = .ok (.ishr, 1) := by decide +kernel
theorem dL_law_284 : decode cL_law 284 = .ok (.iconst 4, 1) := by decide +kernel
theorem dL_law_285 : decode cL_law 285 = .ok (.invokestatic 15, 3) := by decide +kernel
theorem dL_law_288 : decode cL_law 288 = .ok (.lookupswitch 165 #[(0, 28), (1, 128)], 28) := by decide +kernel
theorem dL_law_316 : decode cL_law 316 = .ok (.iload_n 2, 1) := by decide +kernel
theorem dL_law_317 : decode cL_law 317 = .ok (.ifCond .ne 6, 3) := by decide +kernel
theorem dL_law_320 : decode cL_law 320 = .ok (.goto 303, 3) := by decide +kernel
theorem dL_law_323 : decode cL_law 323 = .ok (.iload 4, 2) := by decide +kernel
theorem dL_law_325 : decode cL_law 325 = .ok (.iconst 3, 1) := by decide +kernel
theorem dL_law_326 : decode cL_law 326 = .ok (.ishr, 1) := by decide +kernel
theorem dL_law_327 : decode cL_law 327 = .ok (.iload_n 2, 1) := by decide +kernel
theorem dL_law_328 : decode cL_law 328 = .ok (.invokestatic 15, 3) := by decide +kernel
theorem dL_law_331 : decode cL_law 331 = .ok (.istore 11, 2) := by decide +kernel
theorem dL_law_333 : decode cL_law 333 = .ok (.aload_n 1, 1) := by decide +kernel
theorem dL_law_334 : decode cL_law 334 = .ok (.iload 11, 2) := by decide +kernel
theorem dL_law_336 : decode cL_law 336 = .ok (.iconst 4, 1) := by decide +kernel
theorem dL_law_337 : decode cL_law 337 = .ok (.invokevirtual 70, 3) := by decide +kernel
theorem dL_law_340 : decode cL_law 340 = .ok (.istore 12, 2) := by decide +kernel
theorem dL_law_342 : decode cL_law 342 = .ok (.aload_n 1, 1) := by decide +kernel
theorem dL_law_343 : decode cL_law 343 = .ok (.iload 11, 2) := by decide +kernel
theorem dL_law_345 : decode cL_law 345 = .ok (.iconst 0, 1) := by decide +kernel
theorem dL_law_346 : decode cL_law 346 = .ok (.invokevirtual 70, 3) := by decide +kernel
theorem dL_law_349 : decode cL_law 349 = .ok (.istore 13, 2) := by decide +kernel
theorem dL_law_351 : decode cL_law 351 = .ok (.aload_n 1, 1) := by decide +kernel
theorem dL_law_352 : decode cL_law 352 = .ok (.iload 11, 2) := by decide +kernel
theorem dL_law_354 : decode cL_law 354 = .ok (.invokevirtual 73, 3) := by decide +kernel
theorem dL_law_357 : decode cL_law 357 = .ok (.istore 14, 2) := by decide +kernel
theorem dL_law_359 : decode cL_law 359 = .ok (.aload_n 1, 1) := by decide +kernel
theorem dL_law_360 : decode cL_law 360 = .ok (.iload 11, 2) := by decide +kernel
theorem dL_law_362 : decode cL_law 362 = .ok (.iconst 4, 1) := by decide +kernel
theorem dL_law_363 : decode cL_law 363 = .ok (.invokevirtual 70, 3) := by decide +kernel
theorem dL_law_366 : decode cL_law 366 = .ok (.iload 12, 2) := by decide +kernel
theorem dL_law_368 : decode cL_law 368 = .ok (.if_icmp .lt 46, 3) := by decide +kernel
theorem dL_law_371 : decode cL_law 371 = .ok (.aload_n 1, 1) := by decide +kernel
theorem dL_law_372 : decode cL_law 372 = .ok (.iload 11, 2) := by decide +kernel
theorem dL_law_374 : decode cL_law 374 = .ok (.iconst 0, 1) := by decide +kernel
theorem dL_law_375 : decode cL_law 375 = .ok (.invokevirtual 70, 3) := by decide +kernel
theorem dL_law_378 : decode cL_law 378 = .ok (.iload 13, 2) := by decide +kernel
end
section
theorem dL_law_380 : decode cL_law 380 = .ok (.iconst 2, 1) := by decide +kernel
theorem dL_law_381 : decode cL_law 381 = .ok (.iload 14, 2) := by decide +kernel
theorem dL_law_383 : decode cL_law 383 = .ok (.imul, 1) := by decide +kernel
theorem dL_law_384 : decode cL_law 384 = .ok (.isub, 1) := by decide +kernel
theorem dL_law_385 : decode cL_law 385 = .ok (.if_icmp .eq 8, 3) := by decide +kernel
theorem dL_law_388 : decode cL_law 388 = .ok (.iload 14, 2) := by decide +kernel
theorem dL_law_390 : decode cL_law 390 = .ok (.ifCond .eq 24, 3) := by decide +kernel
theorem dL_law_393 : decode cL_law 393 = .ok (.aload_n 1, 1) := by decide +kernel
theorem dL_law_394 : decode cL_law 394 = .ok (.iload 11, 2) := by decide +kernel
theorem dL_law_396 : decode cL_law 396 = .ok (.iconst 0, 1) := by decide +kernel
theorem dL_law_397 : decode cL_law 397 = .ok (.invokevirtual 70, 3) := by decide +kernel
theorem dL_law_400 : decode cL_law 400 = .ok (.iload 13, 2) := by decide +kernel
theorem dL_law_402 : decode cL_law 402 = .ok (.iconst 2, 1) := by decide +kernel
theorem dL_law_403 : decode cL_law 403 = .ok (.iconst 1, 1) := by decide +kernel
theorem dL_law_404 : decode cL_law 404 = .ok (.iload 14, 2) := by decide +kernel
theorem dL_law_406 : decode cL_law 406 = .ok (.invokestatic 76, 3) := by decide +kernel
theorem dL_law_409 : decode cL_law 409 = .ok (.imul, 1) := by decide +kernel
theorem dL_law_410 : decode cL_law 410 = .ok (.isub, 1) := by decide +kernel
theorem dL_law_411 : decode cL_law 411 = .ok (.if_icmp .le 212, 3) := by decide +kernel
theorem dL_law_414 : decode cL_law 414 = .ok (.iconst 0, 1) := by decide +kernel
theorem dL_law_415 : decode cL_law 415 = .ok (.ireturn, 1) := by decide +kernel
theorem dL_law_416 : decode cL_law 416 = .ok (.aload_n 1, 1) := by decide +kernel
theorem dL_law_417 : decode cL_law 417 = .ok (.iload 4, 2) := by decide +kernel
theorem dL_law_419 : decode cL_law 419 = .ok (.iconst 3, 1) := by decide +kernel
theorem dL_law_420 : decode cL_law 420 = .ok (.ishr, 1) := by decide +kernel
theorem dL_law_421 : decode cL_law 421 = .ok (.aload_n 1, 1) := by decide +kernel
theorem dL_law_422 : decode cL_law 422 = .ok (.iconst 0, 1) := by decide +kernel
theorem dL_law_423 : decode cL_law 423 = .ok (.invokevirtual 67, 3) := by decide +kernel
theorem dL_law_426 : decode cL_law 426 = .ok (.invokestatic 15, 3) := by decide +kernel
theorem dL_law_429 : decode cL_law 429 = .ok (.iload 4, 2) := by decide +kernel
theorem dL_law_431 : decode cL_law 431 = .ok (.bipush 6, 2) := by decide +kernel
theorem dL_law_433 : decode cL_law 433 = .ok (.ishr, 1) := by decide +kernel
theorem dL_law_434 : decode cL_law 434 = .ok (.iconst 2, 1) := by decide +kernel
theorem dL_law_435 : decode cL_law 435 = .ok (.invokestatic 15, 3) := by decide +kernel
theorem dL_law_438 : decode cL_law 438 = .ok (.ifCond .ne 7, 3) := by decide +kernel
theorem dL_law_441 : decode cL_law 441 = .ok (.iconst 1, 1) := by decide +kernel
theorem dL_law_442 : decode cL_law 442 = .ok (.goto 4, 3) := by decide +kernel
theorem dL_law_445 : decode cL_law 445 = .ok (.iconst 0, 1) := by decide +kernel
theorem dL_law_446 : decode cL_law 446 = .ok (.invokevirtual 34, 3) := by decide +kernel
theorem dL_law_449 : decode cL_law 449 = .ok (.pop, 1) := by decide +kernel
theorem dL_law_450 : decode cL_law 450 = .ok (.goto 173, 3) := by decide +kernel
theorem dL_law_453 : decode cL_law 453 = .ok (.iload_n 2, 1) := by decide +kernel
theorem dL_law_454 : decode cL_law 454 = .ok (.iconst 5, 1) := by decide +kernel
theorem dL_law_455 : decode cL_law 455 = .ok (.if_icmp .ne 22, 3) := by decide +kernel
theorem dL_law_458 : decode cL_law 458 = .ok (.aload_n 1, 1) := by decide +kernel
theorem dL_law_459 : decode cL_law 459 = .ok (.iload 4, 2) := by decide +kernel
theorem dL_law_461 : decode cL_law 461 = .ok (.iconst 5, 1) := by decide +kernel
theorem dL_law_462 : decode cL_law 462 = .ok (.invokestatic 15, 3) := by decide +kernel
theorem dL_law_465 : decode cL_law 465 = .ok (.invokevirtual 81, 3) := by decide +kernel
theorem dL_law_468 : decode cL_law 468 = .ok (.iconst 4, 1) := by decide +kernel
theorem dL_law_469 : decode cL_law 469 = .ok (.if_icmp .eq 5, 3) := by decide +kernel
theorem dL_law_472 : decode cL_law 472 = .ok (.iconst 0, 1) := by decide +kernel
theorem dL_law_473 : decode cL_law 473 = .ok (.ireturn, 1) := by decide +kernel
theorem dL_law_474 : decode cL_law 474 = .ok (.iinc 2 (-1), 3) := by decide +kernel
theorem dL_law_477 : decode cL_law 477 = .ok (.aload_n 1, 1) := by decide +kernel
theorem dL_law_478 : decode cL_law 478 = .ok (.iconst 0, 1) := by decide +kernel
theorem dL_law_479 : decode cL_law 479 = .ok (.invokevirtual 67, 3) := by decide +kernel
theorem dL_law_482 : decode cL_law 482 = .ok (.aload_n 1, 1) := by decide +kernel
theorem dL_law_483 : decode cL_law 483 = .ok (.iconst 1, 1) := by decide +kernel
theorem dL_law_484 : decode cL_law 484 = .ok (.invokevirtual 67, 3) := by decide +kernel
theorem dL_law_487 : decode cL_law 487 = .ok (.if_icmp .ne 6, 3) := by decide +kernel
theorem dL_law_490 : decode cL_law 490 = .ok (.goto 133, 3) := by decide +kernel
theorem dL_law_493 : decode cL_law 493 = .ok (.aload_n 1, 1) := by decide +kernel
theorem dL_law_494 : decode cL_law 494 = .ok (.iconst 1, 1) := by decide +kernel
theorem dL_law_495 : decode cL_law 495 = .ok (.iconst (-1), 1) := by decide +kernel
theorem dL_law_496 : decode cL_law 496 = .ok (.invokevirtual 84, 3) := by decide +kernel
theorem dL_law_499 : decode cL_law 499 = .ok (.iload_n 2, 1) := by decide +kernel
theorem dL_law_500 : decode cL_law 500 = .ok (.if_icmp .eq 5, 3) := by decide +kernel
theorem dL_law_503 : decode cL_law 503 = .ok (.iconst 0, 1) := by decide +kernel
theorem dL_law_504 : decode cL_law 504 = .ok (.ireturn, 1) := by decide +kernel
theorem dL_law_505 : decode cL_law 505 = .ok (.iinc 2 1, 3) := by decide +kernel
theorem dL_law_508 : decode cL_law 508 = .ok (.iconst 0, 1) := by decide +kernel
theorem dL_law_509 : decode cL_law 509 = .ok (.istore 15, 2) := by decide +kernel
theorem dL_law_511 : decode cL_law 511 = .ok (.iconst 0, 1) := by decide +kernel
theorem dL_law_512 : decode cL_law 512 = .ok (.istore 16, 2) := by decide +kernel
theorem dL_law_514 : decode cL_law 514 = .ok (.iload 16, 2) := by decide +kernel
theorem dL_law_516 : decode cL_law 516 = .ok (.aload_n 1, 1) := by decide +kernel
theorem dL_law_517 : decode cL_law 517 = .ok (.iconst 0, 1) := by decide +kernel
theorem dL_law_518 : decode cL_law 518 = .ok (.invokevirtual 67, 3) := by decide +kernel
theorem dL_law_521 : decode cL_law 521 = .ok (.if_icmp .ge 48, 3) := by decide +kernel
theorem dL_law_524 : decode cL_law 524 = .ok (.iload 15, 2) := by decide +kernel
theorem dL_law_526 : decode cL_law 526 = .ok (.aload_n 1, 1) := by decide +kernel
theorem dL_law_527 : decode cL_law 527 = .ok (.iload 16, 2) := by decide +kernel
theorem dL_law_529 : decode cL_law 529 = .ok (.iconst 4, 1) := by decide +kernel
theorem dL_law_530 : decode cL_law 530 = .ok (.invokevirtual 87, 3) := by decide +kernel
theorem dL_law_533 : decode cL_law 533 = .ok (.ifCond .ne 26, 3) := by decide +kernel
theorem dL_law_536 : decode cL_law 536 = .ok (.aload_n 1, 1) := by decide +kernel
theorem dL_law_537 : decode cL_law 537 = .ok (.iload 16, 2) := by decide +kernel
theorem dL_law_539 : decode cL_law 539 = .ok (.iconst 3, 1) := by decide +kernel
theorem dL_law_540 : decode cL_law 540 = .ok (.invokevirtual 87, 3) := by decide +kernel
theorem dL_law_543 : decode cL_law 543 = .ok (.aload_n 1, 1) := by decide +kernel
theorem dL_law_544 : decode cL_law 544 = .ok (.iload_n 2, 1) := by decide +kernel
theorem dL_law_545 : decode cL_law 545 = .ok (.iconst 1, 1) := by decide +kernel
theorem dL_law_546 : decode cL_law 546 = .ok (.isub, 1) := by decide +kernel
theorem dL_law_547 : decode cL_law 547 = .ok (.iconst 0, 1) := by decide +kernel
theorem dL_law_548 : decode cL_law 548 = .ok (.iconst 2, 1) := by decide +kernel
theorem dL_law_549 : decode cL_law 549 = .ok (.invokevirtual 90, 3) := by decide +kernel
theorem dL_law_552 : decode cL_law 552 = .ok (.if_icmp .ne 7, 3) := by decide +kernel
theorem dL_law_555 : decode cL_law 555 = .ok (.iconst 1, 1) := by decide +kernel
theorem dL_law_556 : decode cL_law 556 = .ok (.goto 4, 3) := by decide +kernel
end
section
theorem dL_law_559 : decode cL_law 559 = .ok (.iconst 0, 1) := by decide +kernel
theorem dL_law_560 : decode cL_law 560 = .ok (.iadd, 1) := by decide +kernel
theorem dL_law_561 : decode cL_law 561 = .ok (.istore 15, 2) := by decide +kernel
theorem dL_law_563 : decode cL_law 563 = .ok (.iinc 16 1, 3) := by decide +kernel
theorem dL_law_566 : decode cL_law 566 = .ok (.goto (-52), 3) := by decide +kernel
theorem dL_law_569 : decode cL_law 569 = .ok (.aload_n 1, 1) := by decide +kernel
theorem dL_law_570 : decode cL_law 570 = .ok (.iload_n 2, 1) := by decide +kernel
theorem dL_law_571 : decode cL_law 571 = .ok (.iconst 1, 1) := by decide +kernel
theorem dL_law_572 : decode cL_law 572 = .ok (.isub, 1) := by decide +kernel
theorem dL_law_573 : decode cL_law 573 = .ok (.iconst 3, 1) := by decide +kernel
theorem dL_law_574 : decode cL_law 574 = .ok (.invokevirtual 70, 3) := by decide +kernel
theorem dL_law_577 : decode cL_law 577 = .ok (.iload 15, 2) := by decide +kernel
theorem dL_law_579 : decode cL_law 579 = .ok (.if_icmp .lt 42, 3) := by decide +kernel
theorem dL_law_582 : decode cL_law 582 = .ok (.aload_n 1, 1) := by decide +kernel
theorem dL_law_583 : decode cL_law 583 = .ok (.iload_n 2, 1) := by decide +kernel
theorem dL_law_584 : decode cL_law 584 = .ok (.iconst 1, 1) := by decide +kernel
theorem dL_law_585 : decode cL_law 585 = .ok (.isub, 1) := by decide +kernel
theorem dL_law_586 : decode cL_law 586 = .ok (.iconst 0, 1) := by decide +kernel
theorem dL_law_587 : decode cL_law 587 = .ok (.iconst 3, 1) := by decide +kernel
theorem dL_law_588 : decode cL_law 588 = .ok (.invokevirtual 90, 3) := by decide +kernel
theorem dL_law_591 : decode cL_law 591 = .ok (.aload_n 1, 1) := by decide +kernel
theorem dL_law_592 : decode cL_law 592 = .ok (.iconst 0, 1) := by decide +kernel
theorem dL_law_593 : decode cL_law 593 = .ok (.invokevirtual 67, 3) := by decide +kernel
theorem dL_law_596 : decode cL_law 596 = .ok (.aload_n 1, 1) := by decide +kernel
theorem dL_law_597 : decode cL_law 597 = .ok (.iconst 1, 1) := by decide +kernel
theorem dL_law_598 : decode cL_law 598 = .ok (.invokevirtual 67, 3) := by decide +kernel
theorem dL_law_601 : decode cL_law 601 = .ok (.isub, 1) := by decide +kernel
theorem dL_law_602 : decode cL_law 602 = .ok (.if_icmp .ne 19, 3) := by decide +kernel
theorem dL_law_605 : decode cL_law 605 = .ok (.aload_n 1, 1) := by decide +kernel
theorem dL_law_606 : decode cL_law 606 = .ok (.iload_n 2, 1) := by decide +kernel
theorem dL_law_607 : decode cL_law 607 = .ok (.iconst 1, 1) := by decide +kernel
theorem dL_law_608 : decode cL_law 608 = .ok (.isub, 1) := by decide +kernel
theorem dL_law_609 : decode cL_law 609 = .ok (.iconst 2, 1) := by decide +kernel
theorem dL_law_610 : decode cL_law 610 = .ok (.invokevirtual 70, 3) := by decide +kernel
theorem dL_law_613 : decode cL_law 613 = .ok (.aload_n 1, 1) := by decide +kernel
theorem dL_law_614 : decode cL_law 614 = .ok (.iconst 5, 1) := by decide +kernel
theorem dL_law_615 : decode cL_law 615 = .ok (.invokevirtual 67, 3) := by decide +kernel
theorem dL_law_618 : decode cL_law 618 = .ok (.if_icmp .le 5, 3) := by decide +kernel
theorem dL_law_621 : decode cL_law 621 = .ok (.iconst 0, 1) := by decide +kernel
theorem dL_law_622 : decode cL_law 622 = .ok (.ireturn, 1) := by decide +kernel
theorem dL_law_623 : decode cL_law 623 = .ok (.iconst 0, 1) := by decide +kernel
theorem dL_law_624 : decode cL_law 624 = .ok (.istore 11, 2) := by decide +kernel
theorem dL_law_626 : decode cL_law 626 = .ok (.iconst 0, 1) := by decide +kernel
theorem dL_law_627 : decode cL_law 627 = .ok (.istore 12, 2) := by decide +kernel
theorem dL_law_629 : decode cL_law 629 = .ok (.iload 12, 2) := by decide +kernel
theorem dL_law_631 : decode cL_law 631 = .ok (.iload_n 2, 1) := by decide +kernel
theorem dL_law_632 : decode cL_law 632 = .ok (.if_icmp .ge 228, 3) := by decide +kernel
theorem dL_law_635 : decode cL_law 635 = .ok (.aload_n 1, 1) := by decide +kernel
theorem dL_law_636 : decode cL_law 636 = .ok (.iload 12, 2) := by decide +kernel
theorem dL_law_638 : decode cL_law 638 = .ok (.iconst 0, 1) := by decide +kernel
theorem dL_law_639 : decode cL_law 639 = .ok (.invokevirtual 70, 3) := by decide +kernel
theorem dL_law_642 : decode cL_law 642 = .ok (.istore 13, 2) := by decide +kernel
theorem dL_law_644 : decode cL_law 644 = .ok (.iload 11, 2) := by decide +kernel
theorem dL_law_646 : decode cL_law 646 = .ok (.iload 13, 2) := by decide +kernel
theorem dL_law_648 : decode cL_law 648 = .ok (.iadd, 1) := by decide +kernel
theorem dL_law_649 : decode cL_law 649 = .ok (.istore 11, 2) := by decide +kernel
theorem dL_law_651 : decode cL_law 651 = .ok (.iload 13, 2) := by decide +kernel
theorem dL_law_653 : decode cL_law 653 = .ok (.iconst 2, 1) := by decide +kernel
theorem dL_law_654 : decode cL_law 654 = .ok (.aload_n 1, 1) := by decide +kernel
theorem dL_law_655 : decode cL_law 655 = .ok (.iload 12, 2) := by decide +kernel
theorem dL_law_657 : decode cL_law 657 = .ok (.iconst 1, 1) := by decide +kernel
theorem dL_law_658 : decode cL_law 658 = .ok (.invokevirtual 70, 3) := by decide +kernel
theorem dL_law_661 : decode cL_law 661 = .ok (.imul, 1) := by decide +kernel
theorem dL_law_662 : decode cL_law 662 = .ok (.iconst 1, 1) := by decide +kernel
theorem dL_law_663 : decode cL_law 663 = .ok (.isub, 1) := by decide +kernel
theorem dL_law_664 : decode cL_law 664 = .ok (.if_icmp .eq 5, 3) := by decide +kernel
theorem dL_law_667 : decode cL_law 667 = .ok (.iconst 0, 1) := by decide +kernel
theorem dL_law_668 : decode cL_law 668 = .ok (.ireturn, 1) := by decide +kernel
theorem dL_law_669 : decode cL_law 669 = .ok (.iconst 0, 1) := by decide +kernel
theorem dL_law_670 : decode cL_law 670 = .ok (.istore 14, 2) := by decide +kernel
theorem dL_law_672 : decode cL_law 672 = .ok (.iload 14, 2) := by decide +kernel
theorem dL_law_674 : decode cL_law 674 = .ok (.iload 13, 2) := by decide +kernel
theorem dL_law_676 : decode cL_law 676 = .ok (.if_icmp .ge 178, 3) := by decide +kernel
theorem dL_law_679 : decode cL_law 679 = .ok (.aload_n 1, 1) := by decide +kernel
theorem dL_law_680 : decode cL_law 680 = .ok (.iload 12, 2) := by decide +kernel
theorem dL_law_682 : decode cL_law 682 = .ok (.iload 14, 2) := by decide +kernel
theorem dL_law_684 : decode cL_law 684 = .ok (.iconst 5, 1) := by decide +kernel
theorem dL_law_685 : decode cL_law 685 = .ok (.invokevirtual 90, 3) := by decide +kernel
theorem dL_law_688 : decode cL_law 688 = .ok (.istore 15, 2) := by decide +kernel
theorem dL_law_690 : decode cL_law 690 = .ok (.aload_n 1, 1) := by decide +kernel
theorem dL_law_691 : decode cL_law 691 = .ok (.iload 12, 2) := by decide +kernel
theorem dL_law_693 : decode cL_law 693 = .ok (.iload 14, 2) := by decide +kernel
theorem dL_law_695 : decode cL_law 695 = .ok (.bipush 6, 2) := by decide +kernel
theorem dL_law_697 : decode cL_law 697 = .ok (.invokevirtual 90, 3) := by decide +kernel
theorem dL_law_700 : decode cL_law 700 = .ok (.istore 16, 2) := by decide +kernel
theorem dL_law_702 : decode cL_law 702 = .ok (.iload 15, 2) := by decide +kernel
theorem dL_law_704 : decode cL_law 704 = .ok (.ifCond .ge 7, 3) := by decide +kernel
theorem dL_law_707 : decode cL_law 707 = .ok (.iconst 1, 1) := by decide +kernel
theorem dL_law_708 : decode cL_law 708 = .ok (.goto 4, 3) := by decide +kernel
theorem dL_law_711 : decode cL_law 711 = .ok (.iconst 0, 1) := by decide +kernel
theorem dL_law_712 : decode cL_law 712 = .ok (.aload_n 1, 1) := by decide +kernel
theorem dL_law_713 : decode cL_law 713 = .ok (.iload 12, 2) := by decide +kernel
theorem dL_law_715 : decode cL_law 715 = .ok (.iload 14, 2) := by decide +kernel
theorem dL_law_717 : decode cL_law 717 = .ok (.iconst 0, 1) := by decide +kernel
theorem dL_law_718 : decode cL_law 718 = .ok (.invokevirtual 90, 3) := by decide +kernel
theorem dL_law_721 : decode cL_law 721 = .ok (.ifCond .ge 7, 3) := by decide +kernel
theorem dL_law_724 : decode cL_law 724 = .ok (.iconst 1, 1) := by decide +kernel
theorem dL_law_725 : decode cL_law 725 = .ok (.goto 4, 3) := by decide +kernel
theorem dL_law_728 : decode cL_law 728 = .ok (.iconst 0, 1) := by decide +kernel
theorem dL_law_729 : decode cL_law 729 = .ok (.if_icmp .ne 26, 3) := by decide +kernel
end
section
theorem dL_law_732 : decode cL_law 732 = .ok (.iload 15, 2) := by decide +kernel
theorem dL_law_734 : decode cL_law 734 = .ok (.ifCond .ge 7, 3) := by decide +kernel
theorem dL_law_737 : decode cL_law 737 = .ok (.iconst 1, 1) := by decide +kernel
theorem dL_law_738 : decode cL_law 738 = .ok (.goto 4, 3) := by decide +kernel
theorem dL_law_741 : decode cL_law 741 = .ok (.iconst 0, 1) := by decide +kernel
theorem dL_law_742 : decode cL_law 742 = .ok (.iload 16, 2) := by decide +kernel
theorem dL_law_744 : decode cL_law 744 = .ok (.ifCond .ge 7, 3) := by decide +kernel
theorem dL_law_747 : decode cL_law 747 = .ok (.iconst 1, 1) := by decide +kernel
theorem dL_law_748 : decode cL_law 748 = .ok (.goto 4, 3) := by decide +kernel
theorem dL_law_751 : decode cL_law 751 = .ok (.iconst 0, 1) := by decide +kernel
theorem dL_law_752 : decode cL_law 752 = .ok (.if_icmp .eq 5, 3) := by decide +kernel
theorem dL_law_755 : decode cL_law 755 = .ok (.iconst 0, 1) := by decide +kernel
theorem dL_law_756 : decode cL_law 756 = .ok (.ireturn, 1) := by decide +kernel
theorem dL_law_757 : decode cL_law 757 = .ok (.iload 15, 2) := by decide +kernel
theorem dL_law_759 : decode cL_law 759 = .ok (.ifCond .lt 89, 3) := by decide +kernel
theorem dL_law_762 : decode cL_law 762 = .ok (.iload 15, 2) := by decide +kernel
theorem dL_law_764 : decode cL_law 764 = .ok (.iload 14, 2) := by decide +kernel
theorem dL_law_766 : decode cL_law 766 = .ok (.iconst 1, 1) := by decide +kernel
theorem dL_law_767 : decode cL_law 767 = .ok (.iadd, 1) := by decide +kernel
theorem dL_law_768 : decode cL_law 768 = .ok (.if_icmp .ne 78, 3) := by decide +kernel
theorem dL_law_771 : decode cL_law 771 = .ok (.aload_n 1, 1) := by decide +kernel
theorem dL_law_772 : decode cL_law 772 = .ok (.iload 12, 2) := by decide +kernel
theorem dL_law_774 : decode cL_law 774 = .ok (.iload 15, 2) := by decide +kernel
theorem dL_law_776 : decode cL_law 776 = .ok (.iconst 3, 1) := by decide +kernel
theorem dL_law_777 : decode cL_law 777 = .ok (.invokevirtual 90, 3) := by decide +kernel
theorem dL_law_780 : decode cL_law 780 = .ok (.aload_n 1, 1) := by decide +kernel
theorem dL_law_781 : decode cL_law 781 = .ok (.iload 12, 2) := by decide +kernel
theorem dL_law_783 : decode cL_law 783 = .ok (.iload 16, 2) := by decide +kernel
theorem dL_law_785 : decode cL_law 785 = .ok (.iconst 3, 1) := by decide +kernel
theorem dL_law_786 : decode cL_law 786 = .ok (.invokevirtual 90, 3) := by decide +kernel
theorem dL_law_789 : decode cL_law 789 = .ok (.iadd, 1) := by decide +kernel
theorem dL_law_790 : decode cL_law 790 = .ok (.aload_n 1, 1) := by decide +kernel
theorem dL_law_791 : decode cL_law 791 = .ok (.iload 12, 2) := by decide +kernel
theorem dL_law_793 : decode cL_law 793 = .ok (.iload 14, 2) := by decide +kernel
theorem dL_law_795 : decode cL_law 795 = .ok (.iconst 3, 1) := by decide +kernel
theorem dL_law_796 : decode cL_law 796 = .ok (.invokevirtual 90, 3) := by decide +kernel
theorem dL_law_799 : decode cL_law 799 = .ok (.if_icmp .ne 47, 3) := by decide +kernel
theorem dL_law_802 : decode cL_law 802 = .ok (.aload_n 1, 1) := by decide +kernel
theorem dL_law_803 : decode cL_law 803 = .ok (.iload 12, 2) := by decide +kernel
theorem dL_law_805 : decode cL_law 805 = .ok (.iload 15, 2) := by decide +kernel
theorem dL_law_807 : decode cL_law 807 = .ok (.iconst 4, 1) := by decide +kernel
theorem dL_law_808 : decode cL_law 808 = .ok (.invokevirtual 90, 3) := by decide +kernel
theorem dL_law_811 : decode cL_law 811 = .ok (.aload_n 1, 1) := by decide +kernel
theorem dL_law_812 : decode cL_law 812 = .ok (.iload 12, 2) := by decide +kernel
theorem dL_law_814 : decode cL_law 814 = .ok (.iload 14, 2) := by decide +kernel
theorem dL_law_816 : decode cL_law 816 = .ok (.iconst 4, 1) := by decide +kernel
theorem dL_law_817 : decode cL_law 817 = .ok (.invokevirtual 90, 3) := by decide +kernel
theorem dL_law_820 : decode cL_law 820 = .ok (.iconst 1, 1) := by decide +kernel
theorem dL_law_821 : decode cL_law 821 = .ok (.iadd, 1) := by decide +kernel
theorem dL_law_822 : decode cL_law 822 = .ok (.if_icmp .ne 24, 3) := by decide +kernel
theorem dL_law_825 : decode cL_law 825 = .ok (.aload_n 1, 1) := by decide +kernel
theorem dL_law_826 : decode cL_law 826 = .ok (.iload 12, 2) := by decide +kernel
theorem dL_law_828 : decode cL_law 828 = .ok (.iload 16, 2) := by decide +kernel
theorem dL_law_830 : decode cL_law 830 = .ok (.iconst 4, 1) := by decide +kernel
theorem dL_law_831 : decode cL_law 831 = .ok (.invokevirtual 90, 3) := by decide +kernel
theorem dL_law_834 : decode cL_law 834 = .ok (.aload_n 1, 1) := by decide +kernel
theorem dL_law_835 : decode cL_law 835 = .ok (.iload 12, 2) := by decide +kernel
theorem dL_law_837 : decode cL_law 837 = .ok (.iload 15, 2) := by decide +kernel
theorem dL_law_839 : decode cL_law 839 = .ok (.iconst 4, 1) := by decide +kernel
theorem dL_law_840 : decode cL_law 840 = .ok (.invokevirtual 90, 3) := by decide +kernel
theorem dL_law_843 : decode cL_law 843 = .ok (.if_icmp .eq 5, 3) := by decide +kernel
theorem dL_law_846 : decode cL_law 846 = .ok (.iconst 0, 1) := by decide +kernel
theorem dL_law_847 : decode cL_law 847 = .ok (.ireturn, 1) := by decide +kernel
theorem dL_law_848 : decode cL_law 848 = .ok (.iinc 14 1, 3) := by decide +kernel
theorem dL_law_851 : decode cL_law 851 = .ok (.goto (-179), 3) := by decide +kernel
theorem dL_law_854 : decode cL_law 854 = .ok (.iinc 12 1, 3) := by decide +kernel
theorem dL_law_857 : decode cL_law 857 = .ok (.goto (-228), 3) := by decide +kernel
theorem dL_law_860 : decode cL_law 860 = .ok (.aload_n 1, 1) := by decide +kernel
theorem dL_law_861 : decode cL_law 861 = .ok (.iconst 2, 1) := by decide +kernel
theorem dL_law_862 : decode cL_law 862 = .ok (.invokevirtual 67, 3) := by decide +kernel
theorem dL_law_865 : decode cL_law 865 = .ok (.iload_n 2, 1) := by decide +kernel
theorem dL_law_866 : decode cL_law 866 = .ok (.if_icmp .ne 25, 3) := by decide +kernel
theorem dL_law_869 : decode cL_law 869 = .ok (.aload_n 1, 1) := by decide +kernel
theorem dL_law_870 : decode cL_law 870 = .ok (.invokevirtual 93, 3) := by decide +kernel
theorem dL_law_873 : decode cL_law 873 = .ok (.iload_n 2, 1) := by decide +kernel
theorem dL_law_874 : decode cL_law 874 = .ok (.ifCond .ne 7, 3) := by decide +kernel
theorem dL_law_877 : decode cL_law 877 = .ok (.dconst 0, 1) := by decide +kernel
theorem dL_law_878 : decode cL_law 878 = .ok (.goto 9, 3) := by decide +kernel
theorem dL_law_881 : decode cL_law 881 = .ok (.iload 11, 2) := by decide +kernel
theorem dL_law_883 : decode cL_law 883 = .ok (.i2d, 1) := by decide +kernel
theorem dL_law_884 : decode cL_law 884 = .ok (.iload_n 2, 1) := by decide +kernel
theorem dL_law_885 : decode cL_law 885 = .ok (.i2d, 1) := by decide +kernel
theorem dL_law_886 : decode cL_law 886 = .ok (.ddiv, 1) := by decide +kernel
theorem dL_law_887 : decode cL_law 887 = .ok (.dcmp .l, 1) := by decide +kernel
theorem dL_law_888 : decode cL_law 888 = .ok (.ifCond .eq 5, 3) := by decide +kernel
theorem dL_law_891 : decode cL_law 891 = .ok (.iconst 0, 1) := by decide +kernel
theorem dL_law_892 : decode cL_law 892 = .ok (.ireturn, 1) := by decide +kernel
theorem dL_law_893 : decode cL_law 893 = .ok (.iinc 3 1, 3) := by decide +kernel
theorem dL_law_896 : decode cL_law 896 = .ok (.goto (-881), 3) := by decide +kernel
theorem dL_law_899 : decode cL_law 899 = .ok (.iconst 1, 1) := by decide +kernel
theorem dL_law_900 : decode cL_law 900 = .ok (.ireturn, 1) := by decide +kernel
end
section
-- the words of the tables, each by its place
theorem qt1 {w : Cond} (h : w ∈ tables_1_1) : w ∈ lw_tbl := List.mem_append_right _ (show w ∈ tables_1 from List.mem_append_left _ h)
theorem qt2 {w : Cond} (h : w ∈ tables_1_2) : w ∈ lw_tbl := List.mem_append_right _ (show w ∈ tables_1 from List.mem_append_right _ (List.mem_append_left _ h))
theorem qt3 {w : Cond} (h : w ∈ tables_1_3) : w ∈ lw_tbl := List.mem_append_right _ (show w ∈ tables_1 from List.mem_append_right _ (List.mem_append_right _ (h)))
theorem q1_0 : (Jvm.Cond.initialized "BeanGrovesLaw") ∈ lw_tbl := qt1 (List.mem_of_getElem? (i := 0) rfl)
theorem q1_1 : (Jvm.Cond.initialized "BeanGroves") ∈ lw_tbl := qt1 (List.mem_of_getElem? (i := 1) rfl)
theorem q1_2 : (Jvm.Cond.initialized "BeanGroves$Beans") ∈ lw_tbl := qt1 (List.mem_of_getElem? (i := 2) rfl)
theorem q1_3 : (Jvm.Cond.initialized "BeanGroves$Tree") ∈ lw_tbl := qt1 (List.mem_of_getElem? (i := 3) rfl)
theorem q1_4 : (Jvm.Cond.initialized "java/lang/Throwable") ∈ lw_tbl := qt1 (List.mem_of_getElem? (i := 4) rfl)
theorem q1_5 : (Jvm.Cond.initialized "java/lang/Exception") ∈ lw_tbl := qt1 (List.mem_of_getElem? (i := 5) rfl)
theorem q1_6 : (Jvm.Cond.initialized "java/lang/RuntimeException") ∈ lw_tbl := qt1 (List.mem_of_getElem? (i := 6) rfl)
theorem q1_7 : (Jvm.Cond.initialized "java/lang/IllegalArgumentException") ∈ lw_tbl := qt1 (List.mem_of_getElem? (i := 7) rfl)
theorem q1_8 : (Jvm.Cond.initialized "java/lang/IllegalStateException") ∈ lw_tbl := qt1 (List.mem_of_getElem? (i := 8) rfl)
theorem q1_9 : (Jvm.Cond.initialized "java/lang/IndexOutOfBoundsException") ∈ lw_tbl := qt1 (List.mem_of_getElem? (i := 9) rfl)
theorem q1_10 : (Jvm.Cond.initialized "java/lang/Integer") ∈ lw_tbl := qt1 (List.mem_of_getElem? (i := 10) rfl)
theorem q1_11 : (Jvm.Cond.initialized "java/lang/Math") ∈ lw_tbl := qt1 (List.mem_of_getElem? (i := 11) rfl)
theorem q1_12 : (Jvm.Cond.methodLink "BeanGrovesLaw" (34 : Nat) ({ cls := "BeanGroves", name := "check", desc := "(IZ)Z" } : Jvm.MethodName)) ∈ lw_tbl := qt1 (List.mem_of_getElem? (i := 12) rfl)
theorem q1_13 : (Jvm.Cond.instanceMethod ({ cls := "BeanGroves", name := "check", desc := "(IZ)Z" } : Jvm.MethodName)) ∈ lw_tbl := qt1 (List.mem_of_getElem? (i := 13) rfl)
theorem q1_14 : (Jvm.Cond.selects "BeanGroves" ({ cls := "BeanGroves", name := "check", desc := "(IZ)Z" } : Jvm.MethodName) ({ cls := "BeanGroves", name := "check", desc := "(IZ)Z" } : Jvm.MethodName)) ∈ lw_tbl := qt1 (List.mem_of_getElem? (i := 14) rfl)
theorem q1_15 : (Jvm.Cond.code ({ cls := "BeanGroves", name := "check", desc := "(IZ)Z" } : Jvm.MethodName) prog_1_method_4_code (4 : Nat) (Option.some Jvm.ClassFile.FieldType.boolean)) ∈ lw_tbl := qt1 (List.mem_of_getElem? (i := 15) rfl)
theorem q1_16 : (Jvm.Cond.methodLink "BeanGroves" (67 : Nat) ({ cls := "BeanGroves", name := "isBean", desc := "(I)Z" } : Jvm.MethodName)) ∈ lw_tbl := qt1 (List.mem_of_getElem? (i := 16) rfl)
theorem q1_17 : (Jvm.Cond.privateMethod ({ cls := "BeanGroves", name := "isBean", desc := "(I)Z" } : Jvm.MethodName)) ∈ lw_tbl := qt1 (List.mem_of_getElem? (i := 17) rfl)
theorem q1_18 : (Jvm.Cond.instanceMethod ({ cls := "BeanGroves", name := "isBean", desc := "(I)Z" } : Jvm.MethodName)) ∈ lw_tbl := qt1 (List.mem_of_getElem? (i := 18) rfl)
theorem q1_19 : (Jvm.Cond.instantiable "BeanGroves" (6 : Nat)) ∈ lw_tbl := qt1 (List.mem_of_getElem? (i := 19) rfl)
theorem q1_20 : (Jvm.Cond.code ({ cls := "BeanGroves", name := "isBean", desc := "(I)Z" } : Jvm.MethodName) prog_1_method_25_code (2 : Nat) (Option.some Jvm.ClassFile.FieldType.boolean)) ∈ lw_tbl := qt1 (List.mem_of_getElem? (i := 20) rfl)
theorem q1_21 : (Jvm.Cond.methodLink "BeanGroves" (54 : Nat) ({ cls := "BeanGroves$Beans", name := "howMany", desc := "()I" } : Jvm.MethodName)) ∈ lw_tbl := qt1 (List.mem_of_getElem? (i := 21) rfl)
theorem q1_22 : (Jvm.Cond.instanceMethod ({ cls := "BeanGroves$Beans", name := "howMany", desc := "()I" } : Jvm.MethodName)) ∈ lw_tbl := qt1 (List.mem_of_getElem? (i := 22) rfl)
theorem q1_23 : (Jvm.Cond.selects "BeanGroves$Beans" ({ cls := "BeanGroves$Beans", name := "howMany", desc := "()I" } : Jvm.MethodName) ({ cls := "BeanGroves$Beans", name := "howMany", desc := "()I" } : Jvm.MethodName)) ∈ lw_tbl := qt1 (List.mem_of_getElem? (i := 23) rfl)
theorem q1_24 : (Jvm.Cond.code ({ cls := "BeanGroves$Beans", name := "howMany", desc := "()I" } : Jvm.MethodName) prog_2_method_2_code (1 : Nat) (Option.some Jvm.ClassFile.FieldType.int)) ∈ lw_tbl := qt1 (List.mem_of_getElem? (i := 24) rfl)
theorem q1_25 : (Jvm.Cond.classLink "BeanGroves" (70 : Nat) "java/lang/IndexOutOfBoundsException") ∈ lw_tbl := qt1 (List.mem_of_getElem? (i := 25) rfl)
theorem q1_26 : (Jvm.Cond.instantiable "java/lang/IndexOutOfBoundsException" (6 : Nat)) ∈ lw_tbl := qt1 (List.mem_of_getElem? (i := 26) rfl)
theorem q1_27 : (Jvm.Cond.castable "java/lang/IndexOutOfBoundsException" "java/lang/IndexOutOfBoundsException") ∈ lw_tbl := qt1 (List.mem_of_getElem? (i := 27) rfl)
theorem q1_28 : (Jvm.Cond.declares ({ cls := "java/lang/RuntimeException", name := "<init>", desc := "()V" } : Jvm.MethodName)) ∈ lw_tbl := qt1 (List.mem_of_getElem? (i := 28) rfl)
theorem q1_29 : (Jvm.Cond.declares ({ cls := "java/lang/RuntimeException", name := "<init>", desc := "(Ljava/lang/String;)V" } : Jvm.MethodName)) ∈ lw_tbl := qt1 (List.mem_of_getElem? (i := 29) rfl)
theorem q1_30 : (Jvm.Cond.declares ({ cls := "java/lang/Exception", name := "<init>", desc := "()V" } : Jvm.MethodName)) ∈ lw_tbl := qt1 (List.mem_of_getElem? (i := 30) rfl)
theorem q1_31 : (Jvm.Cond.declares ({ cls := "java/lang/Exception", name := "<init>", desc := "(Ljava/lang/String;)V" } : Jvm.MethodName)) ∈ lw_tbl := qt1 (List.mem_of_getElem? (i := 31) rfl)
theorem q1_32 : (Jvm.Cond.declares ({ cls := "java/lang/Throwable", name := "<init>", desc := "()V" } : Jvm.MethodName)) ∈ lw_tbl := qt1 (List.mem_of_getElem? (i := 32) rfl)
theorem q1_33 : (Jvm.Cond.declares ({ cls := "java/lang/Throwable", name := "<init>", desc := "(Ljava/lang/String;)V" } : Jvm.MethodName)) ∈ lw_tbl := qt1 (List.mem_of_getElem? (i := 33) rfl)
theorem q1_34 : (Jvm.Cond.selects "java/lang/IndexOutOfBoundsException" ({ cls := "java/lang/Throwable", name := "fillInStackTrace", desc := "(I)Ljava/lang/Throwable;" } : Jvm.MethodName) ({ cls := "java/lang/Throwable", name := "fillInStackTrace", desc := "(I)Ljava/lang/Throwable;" } : Jvm.MethodName)) ∈ lw_tbl := qt1 (List.mem_of_getElem? (i := 34) rfl)
theorem q1_35 : (Jvm.Cond.selects "java/lang/IndexOutOfBoundsException" ({ cls := "java/lang/Throwable", name := "fillInStackTrace", desc := "()Ljava/lang/Throwable;" } : Jvm.MethodName) ({ cls := "java/lang/Throwable", name := "fillInStackTrace", desc := "()Ljava/lang/Throwable;" } : Jvm.MethodName)) ∈ lw_tbl := qt1 (List.mem_of_getElem? (i := 35) rfl)
theorem q1_36 : (Jvm.Cond.lays "java/lang/IndexOutOfBoundsException" "java/lang/Throwable" "cause" "Ljava/lang/Throwable;") ∈ lw_tbl := qt1 (List.mem_of_getElem? (i := 36) rfl)
theorem q1_37 : (Jvm.Cond.lays "java/lang/Throwable" "java/lang/Throwable" "cause" "Ljava/lang/Throwable;") ∈ lw_tbl := qt1 (List.mem_of_getElem? (i := 37) rfl)
theorem q1_38 : (Jvm.Cond.lays "java/lang/IndexOutOfBoundsException" "java/lang/Throwable" "stackTrace" "[Ljava/lang/StackTraceElement;") ∈ lw_tbl := qt1 (List.mem_of_getElem? (i := 38) rfl)
theorem q1_39 : (Jvm.Cond.lays "java/lang/Throwable" "java/lang/Throwable" "stackTrace" "[Ljava/lang/StackTraceElement;") ∈ lw_tbl := qt1 (List.mem_of_getElem? (i := 39) rfl)
theorem q1_40 : (Jvm.Cond.lays "java/lang/IndexOutOfBoundsException" "java/lang/Throwable" "suppressedExceptions" "Ljava/util/List;") ∈ lw_tbl := qt1 (List.mem_of_getElem? (i := 40) rfl)
theorem q1_41 : (Jvm.Cond.lays "java/lang/Throwable" "java/lang/Throwable" "suppressedExceptions" "Ljava/util/List;") ∈ lw_tbl := qt1 (List.mem_of_getElem? (i := 41) rfl)
theorem q1_42 : (Jvm.Cond.lays "java/lang/IndexOutOfBoundsException" "java/lang/Throwable" "detailMessage" "Ljava/lang/String;") ∈ lw_tbl := qt1 (List.mem_of_getElem? (i := 42) rfl)
theorem q1_43 : (Jvm.Cond.lays "java/lang/Throwable" "java/lang/Throwable" "detailMessage" "Ljava/lang/String;") ∈ lw_tbl := qt1 (List.mem_of_getElem? (i := 43) rfl)
theorem q1_44 : (Jvm.Cond.lays "java/lang/IndexOutOfBoundsException" "java/lang/Throwable" "backtrace" "Ljava/lang/Object;") ∈ lw_tbl := qt1 (List.mem_of_getElem? (i := 44) rfl)
theorem q1_45 : (Jvm.Cond.lays "java/lang/Throwable" "java/lang/Throwable" "backtrace" "Ljava/lang/Object;") ∈ lw_tbl := qt1 (List.mem_of_getElem? (i := 45) rfl)
theorem q1_46 : (Jvm.Cond.fieldLink "java/lang/Throwable" (198 : Nat) "java/lang/Throwable" "backtrace" "Ljava/lang/Object;") ∈ lw_tbl := qt1 (List.mem_of_getElem? (i := 46) rfl)
theorem q1_47 : (Jvm.Cond.superclass "java/lang/Throwable" "java/lang/Object") ∈ lw_tbl := qt1 (List.mem_of_getElem? (i := 47) rfl)
theorem q1_48 : (Jvm.Cond.instanceMethod ({ cls := "java/lang/Throwable", name := "<init>", desc := "()V" } : Jvm.MethodName)) ∈ lw_tbl := qt1 (List.mem_of_getElem? (i := 48) rfl)
theorem q1_49 : (Jvm.Cond.code ({ cls := "java/lang/Throwable", name := "<init>", desc := "()V" } : Jvm.MethodName) prog_14_method_1_code (1 : Nat) (Option.none : Option Jvm.ClassFile.FieldType)) ∈ lw_tbl := qt1 (List.mem_of_getElem? (i := 49) rfl)
theorem q1_50 : (Jvm.Cond.methodLink "java/lang/Throwable" (1 : Nat) ({ cls := "java/lang/Object", name := "<init>", desc := "()V" } : Jvm.MethodName)) ∈ lw_tbl := qt1 (List.mem_of_getElem? (i := 50) rfl)
theorem q1_51 : (Jvm.Cond.instanceMethod ({ cls := "java/lang/Object", name := "<init>", desc := "()V" } : Jvm.MethodName)) ∈ lw_tbl := qt1 (List.mem_of_getElem? (i := 51) rfl)
theorem q1_52 : (Jvm.Cond.code ({ cls := "java/lang/Object", name := "<init>", desc := "()V" } : Jvm.MethodName) object_method_1_code (1 : Nat) (Option.none : Option Jvm.ClassFile.FieldType)) ∈ lw_tbl := qt1 (List.mem_of_getElem? (i := 52) rfl)
theorem q1_53 : (Jvm.Cond.fieldLink "java/lang/Throwable" (13 : Nat) "java/lang/Throwable" "UNASSIGNED_STACK" "[Ljava/lang/StackTraceElement;") ∈ lw_tbl := qt1 (List.mem_of_getElem? (i := 53) rfl)
theorem q1_54 : (Jvm.Cond.laysStatic "java/lang/Throwable" "UNASSIGNED_STACK" "[Ljava/lang/StackTraceElement;") ∈ lw_tbl := qt1 (List.mem_of_getElem? (i := 54) rfl)
theorem q1_55 : (Jvm.Cond.fieldLink "java/lang/Throwable" (20 : Nat) "java/lang/Throwable" "SUPPRESSED_SENTINEL" "Ljava/util/List;") ∈ lw_tbl := qt1 (List.mem_of_getElem? (i := 55) rfl)
theorem q1_56 : (Jvm.Cond.laysStatic "java/lang/Throwable" "SUPPRESSED_SENTINEL" "Ljava/util/List;") ∈ lw_tbl := qt1 (List.mem_of_getElem? (i := 56) rfl)
theorem q1_57 : (Jvm.Cond.methodLink "java/lang/Throwable" (27 : Nat) ({ cls := "java/lang/Throwable", name := "fillInStackTrace", desc := "()Ljava/lang/Throwable;" } : Jvm.MethodName)) ∈ lw_tbl := qt1 (List.mem_of_getElem? (i := 57) rfl)
theorem q1_58 : (Jvm.Cond.instanceMethod ({ cls := "java/lang/Throwable", name := "fillInStackTrace", desc := "()Ljava/lang/Throwable;" } : Jvm.MethodName)) ∈ lw_tbl := qt1 (List.mem_of_getElem? (i := 58) rfl)
theorem q1_59 : (Jvm.Cond.sameMethod "java/lang/Throwable" "java/lang/Throwable" "fillInStackTrace" "()Ljava/lang/Throwable;") ∈ lw_tbl := qt1 (List.mem_of_getElem? (i := 59) rfl)
theorem q1_60 : (Jvm.Cond.selects "java/lang/IllegalArgumentException" ({ cls := "java/lang/Throwable", name := "fillInStackTrace", desc := "()Ljava/lang/Throwable;" } : Jvm.MethodName) ({ cls := "java/lang/Throwable", name := "fillInStackTrace", desc := "()Ljava/lang/Throwable;" } : Jvm.MethodName)) ∈ lw_tbl := qt1 (List.mem_of_getElem? (i := 60) rfl)
theorem q1_61 : (Jvm.Cond.selects "java/lang/IllegalStateException" ({ cls := "java/lang/Throwable", name := "fillInStackTrace", desc := "()Ljava/lang/Throwable;" } : Jvm.MethodName) ({ cls := "java/lang/Throwable", name := "fillInStackTrace", desc := "()Ljava/lang/Throwable;" } : Jvm.MethodName)) ∈ lw_tbl := qt1 (List.mem_of_getElem? (i := 61) rfl)
theorem q1_62 : (Jvm.Cond.codeSync ({ cls := "java/lang/Throwable", name := "fillInStackTrace", desc := "()Ljava/lang/Throwable;" } : Jvm.MethodName) prog_14_method_18_code (1 : Nat) (Option.some (Jvm.ClassFile.FieldType.object "java/lang/Throwable"))) ∈ lw_tbl := qt1 (List.mem_of_getElem? (i := 62) rfl)
theorem q1_63 : (Jvm.Cond.methodLink "java/lang/Throwable" (202 : Nat) ({ cls := "java/lang/Throwable", name := "fillInStackTrace", desc := "(I)Ljava/lang/Throwable;" } : Jvm.MethodName)) ∈ lw_tbl := qt1 (List.mem_of_getElem? (i := 63) rfl)
theorem q1_64 : (Jvm.Cond.privateMethod ({ cls := "java/lang/Throwable", name := "fillInStackTrace", desc := "(I)Ljava/lang/Throwable;" } : Jvm.MethodName)) ∈ lw_tbl := qt1 (List.mem_of_getElem? (i := 64) rfl)
theorem q1_65 : (Jvm.Cond.instanceMethod ({ cls := "java/lang/Throwable", name := "fillInStackTrace", desc := "(I)Ljava/lang/Throwable;" } : Jvm.MethodName)) ∈ lw_tbl := qt1 (List.mem_of_getElem? (i := 65) rfl)
theorem q1_66 : (Jvm.Cond.instantiable "java/lang/Throwable" (6 : Nat)) ∈ lw_tbl := qt1 (List.mem_of_getElem? (i := 66) rfl)
theorem q1_67 : (Jvm.Cond.native ({ cls := "java/lang/Throwable", name := "fillInStackTrace", desc := "(I)Ljava/lang/Throwable;" } : Jvm.MethodName)) ∈ lw_tbl := qt1 (List.mem_of_getElem? (i := 67) rfl)
theorem q1_68 : (Jvm.Cond.stringRef "BeanGroves" (72 : Nat) "no such bean") ∈ lw_tbl := qt1 (List.mem_of_getElem? (i := 68) rfl)
theorem q1_69 : (Jvm.Cond.methodLink "BeanGroves" (74 : Nat) ({ cls := "java/lang/IndexOutOfBoundsException", name := "<init>", desc := "(Ljava/lang/String;)V" } : Jvm.MethodName)) ∈ lw_tbl := qt1 (List.mem_of_getElem? (i := 69) rfl)
theorem q1_70 : (Jvm.Cond.instanceMethod ({ cls := "java/lang/IndexOutOfBoundsException", name := "<init>", desc := "(Ljava/lang/String;)V" } : Jvm.MethodName)) ∈ lw_tbl := qt1 (List.mem_of_getElem? (i := 70) rfl)
theorem q1_71 : (Jvm.Cond.code ({ cls := "java/lang/IndexOutOfBoundsException", name := "<init>", desc := "(Ljava/lang/String;)V" } : Jvm.MethodName) prog_9_method_2_code (2 : Nat) (Option.none : Option Jvm.ClassFile.FieldType)) ∈ lw_tbl := qt1 (List.mem_of_getElem? (i := 71) rfl)
theorem q1_72 : (Jvm.Cond.methodLink "java/lang/IndexOutOfBoundsException" (7 : Nat) ({ cls := "java/lang/RuntimeException", name := "<init>", desc := "(Ljava/lang/String;)V" } : Jvm.MethodName)) ∈ lw_tbl := qt1 (List.mem_of_getElem? (i := 72) rfl)
theorem q1_73 : (Jvm.Cond.instanceMethod ({ cls := "java/lang/RuntimeException", name := "<init>", desc := "(Ljava/lang/String;)V" } : Jvm.MethodName)) ∈ lw_tbl := qt1 (List.mem_of_getElem? (i := 73) rfl)
theorem q1_74 : (Jvm.Cond.code ({ cls := "java/lang/RuntimeException", name := "<init>", desc := "(Ljava/lang/String;)V" } : Jvm.MethodName) prog_12_method_2_code (2 : Nat) (Option.none : Option Jvm.ClassFile.FieldType)) ∈ lw_tbl := qt1 (List.mem_of_getElem? (i := 74) rfl)
theorem q1_75 : (Jvm.Cond.methodLink "java/lang/RuntimeException" (7 : Nat) ({ cls := "java/lang/Exception", name := "<init>", desc := "(Ljava/lang/String;)V" } : Jvm.MethodName)) ∈ lw_tbl := qt1 (List.mem_of_getElem? (i := 75) rfl)
theorem q1_76 : (Jvm.Cond.instanceMethod ({ cls := "java/lang/Exception", name := "<init>", desc := "(Ljava/lang/String;)V" } : Jvm.MethodName)) ∈ lw_tbl := qt1 (List.mem_of_getElem? (i := 76) rfl)
theorem q1_77 : (Jvm.Cond.code ({ cls := "java/lang/Exception", name := "<init>", desc := "(Ljava/lang/String;)V" } : Jvm.MethodName) prog_6_method_2_code (2 : Nat) (Option.none : Option Jvm.ClassFile.FieldType)) ∈ lw_tbl := qt1 (List.mem_of_getElem? (i := 77) rfl)
theorem q1_78 : (Jvm.Cond.methodLink "java/lang/Exception" (7 : Nat) ({ cls := "java/lang/Throwable", name := "<init>", desc := "(Ljava/lang/String;)V" } : Jvm.MethodName)) ∈ lw_tbl := qt1 (List.mem_of_getElem? (i := 78) rfl)
theorem q1_79 : (Jvm.Cond.instanceMethod ({ cls := "java/lang/Throwable", name := "<init>", desc := "(Ljava/lang/String;)V" } : Jvm.MethodName)) ∈ lw_tbl := qt1 (List.mem_of_getElem? (i := 79) rfl)
theorem q1_80 : (Jvm.Cond.code ({ cls := "java/lang/Throwable", name := "<init>", desc := "(Ljava/lang/String;)V" } : Jvm.MethodName) prog_14_method_2_code (2 : Nat) (Option.none : Option Jvm.ClassFile.FieldType)) ∈ lw_tbl := qt1 (List.mem_of_getElem? (i := 80) rfl)
theorem q1_82 : (Jvm.Cond.fieldLink "java/lang/Throwable" (31 : Nat) "java/lang/Throwable" "detailMessage" "Ljava/lang/String;") ∈ lw_tbl := qt1 (List.mem_of_getElem? (i := 82) rfl)
theorem q1_83 : (Jvm.Cond.fieldLink "java/lang/Throwable" (7 : Nat) "java/lang/Throwable" "cause" "Ljava/lang/Throwable;") ∈ lw_tbl := qt1 (List.mem_of_getElem? (i := 83) rfl)
theorem q1_84 : (Jvm.Cond.fieldLink "java/lang/Throwable" (17 : Nat) "java/lang/Throwable" "stackTrace" "[Ljava/lang/StackTraceElement;") ∈ lw_tbl := qt1 (List.mem_of_getElem? (i := 84) rfl)
theorem q1_85 : (Jvm.Cond.fieldLink "java/lang/Throwable" (24 : Nat) "java/lang/Throwable" "suppressedExceptions" "Ljava/util/List;") ∈ lw_tbl := qt1 (List.mem_of_getElem? (i := 85) rfl)
theorem q1_86 : (Jvm.Cond.soleField "java/lang/Throwable" "backtrace") ∈ lw_tbl := qt1 (List.mem_of_getElem? (i := 86) rfl)
theorem q1_87 : (Jvm.Cond.soleField "java/lang/Throwable" "detailMessage") ∈ lw_tbl := qt1 (List.mem_of_getElem? (i := 87) rfl)
theorem q1_88 : (Jvm.Cond.soleField "java/lang/Throwable" "cause") ∈ lw_tbl := qt1 (List.mem_of_getElem? (i := 88) rfl)
theorem q1_89 : (Jvm.Cond.soleField "java/lang/Throwable" "stackTrace") ∈ lw_tbl := qt1 (List.mem_of_getElem? (i := 89) rfl)
theorem q1_90 : (Jvm.Cond.lays "java/lang/IndexOutOfBoundsException" "java/lang/Throwable" "depth" "I") ∈ lw_tbl := qt1 (List.mem_of_getElem? (i := 90) rfl)
theorem q1_91 : (Jvm.Cond.soleField "java/lang/Throwable" "depth") ∈ lw_tbl := qt1 (List.mem_of_getElem? (i := 91) rfl)
theorem q1_92 : (Jvm.Cond.soleField "java/lang/Throwable" "suppressedExceptions") ∈ lw_tbl := qt1 (List.mem_of_getElem? (i := 92) rfl)
theorem q1_93 : (Jvm.Cond.superclass "java/lang/IndexOutOfBoundsException" "java/lang/RuntimeException") ∈ lw_tbl := qt1 (List.mem_of_getElem? (i := 93) rfl)
theorem q1_94 : (Jvm.Cond.arrayClass Jvm.ClassFile.FieldType.byte) ∈ lw_tbl := qt1 (List.mem_of_getElem? (i := 94) rfl)
theorem q1_95 : (Jvm.Cond.methodLink "BeanGroves" (83 : Nat) ({ cls := "BeanGroves$Beans", name := "isCheck", desc := "(I)Z" } : Jvm.MethodName)) ∈ lw_tbl := qt1 (List.mem_of_getElem? (i := 95) rfl)
theorem q1_96 : (Jvm.Cond.instanceMethod ({ cls := "BeanGroves$Beans", name := "isCheck", desc := "(I)Z" } : Jvm.MethodName)) ∈ lw_tbl := qt1 (List.mem_of_getElem? (i := 96) rfl)
theorem q1_97 : (Jvm.Cond.selects "BeanGroves$Beans" ({ cls := "BeanGroves$Beans", name := "isCheck", desc := "(I)Z" } : Jvm.MethodName) ({ cls := "BeanGroves$Beans", name := "isCheck", desc := "(I)Z" } : Jvm.MethodName)) ∈ lw_tbl := qt1 (List.mem_of_getElem? (i := 97) rfl)
theorem q1_98 : (Jvm.Cond.code ({ cls := "BeanGroves$Beans", name := "isCheck", desc := "(I)Z" } : Jvm.MethodName) prog_2_method_8_code (2 : Nat) (Option.some Jvm.ClassFile.FieldType.boolean)) ∈ lw_tbl := qt1 (List.mem_of_getElem? (i := 98) rfl)
theorem q1_99 : (Jvm.Cond.methodLinkNest "BeanGroves$Beans" (37 : Nat) ({ cls := "BeanGroves", name := "isIn", desc := "(II)Z" } : Jvm.MethodName) "BeanGroves") ∈ lw_tbl := qt1 (List.mem_of_getElem? (i := 99) rfl)
theorem q1_100 : (Jvm.Cond.static ({ cls := "BeanGroves", name := "isIn", desc := "(II)Z" } : Jvm.MethodName)) ∈ lw_tbl := qt1 (List.mem_of_getElem? (i := 100) rfl)
theorem q1_101 : (Jvm.Cond.code ({ cls := "BeanGroves", name := "isIn", desc := "(II)Z" } : Jvm.MethodName) prog_1_method_32_code (2 : Nat) (Option.some Jvm.ClassFile.FieldType.boolean)) ∈ lw_tbl := qt1 (List.mem_of_getElem? (i := 101) rfl)
theorem q1_102 : (Jvm.Cond.methodLink "BeanGroves" (86 : Nat) ({ cls := "BeanGroves$Beans", name := "makeCheck", desc := "(IZ)V" } : Jvm.MethodName)) ∈ lw_tbl := qt1 (List.mem_of_getElem? (i := 102) rfl)
theorem q1_103 : (Jvm.Cond.instanceMethod ({ cls := "BeanGroves$Beans", name := "makeCheck", desc := "(IZ)V" } : Jvm.MethodName)) ∈ lw_tbl := qt1 (List.mem_of_getElem? (i := 103) rfl)
theorem q1_104 : (Jvm.Cond.selects "BeanGroves$Beans" ({ cls := "BeanGroves$Beans", name := "makeCheck", desc := "(IZ)V" } : Jvm.MethodName) ({ cls := "BeanGroves$Beans", name := "makeCheck", desc := "(IZ)V" } : Jvm.MethodName)) ∈ lw_tbl := qt1 (List.mem_of_getElem? (i := 104) rfl)
theorem q1_105 : (Jvm.Cond.code ({ cls := "BeanGroves$Beans", name := "makeCheck", desc := "(IZ)V" } : Jvm.MethodName) prog_2_method_9_code (3 : Nat) (Option.none : Option Jvm.ClassFile.FieldType)) ∈ lw_tbl := qt1 (List.mem_of_getElem? (i := 105) rfl)
theorem q1_106 : (Jvm.Cond.methodLink "BeanGrovesLaw" (42 : Nat) ({ cls := "BeanGroves", name := "setDepth", desc := "(I)I" } : Jvm.MethodName)) ∈ lw_tbl := qt1 (List.mem_of_getElem? (i := 106) rfl)
theorem q1_107 : (Jvm.Cond.instanceMethod ({ cls := "BeanGroves", name := "setDepth", desc := "(I)I" } : Jvm.MethodName)) ∈ lw_tbl := qt1 (List.mem_of_getElem? (i := 107) rfl)
theorem q1_108 : (Jvm.Cond.selects "BeanGroves" ({ cls := "BeanGroves", name := "setDepth", desc := "(I)I" } : Jvm.MethodName) ({ cls := "BeanGroves", name := "setDepth", desc := "(I)I" } : Jvm.MethodName)) ∈ lw_tbl := qt1 (List.mem_of_getElem? (i := 108) rfl)
theorem q1_109 : (Jvm.Cond.code ({ cls := "BeanGroves", name := "setDepth", desc := "(I)I" } : Jvm.MethodName) prog_1_method_5_code (3 : Nat) (Option.some Jvm.ClassFile.FieldType.int)) ∈ lw_tbl := qt1 (List.mem_of_getElem? (i := 109) rfl)
theorem q1_110 : (Jvm.Cond.methodLink "BeanGroves" (90 : Nat) ({ cls := "BeanGroves", name := "isDepth", desc := "(I)Z" } : Jvm.MethodName)) ∈ lw_tbl := qt1 (List.mem_of_getElem? (i := 110) rfl)
theorem q1_111 : (Jvm.Cond.static ({ cls := "BeanGroves", name := "isDepth", desc := "(I)Z" } : Jvm.MethodName)) ∈ lw_tbl := qt1 (List.mem_of_getElem? (i := 111) rfl)
theorem q1_112 : (Jvm.Cond.code ({ cls := "BeanGroves", name := "isDepth", desc := "(I)Z" } : Jvm.MethodName) prog_1_method_30_code (1 : Nat) (Option.some Jvm.ClassFile.FieldType.boolean)) ∈ lw_tbl := qt1 (List.mem_of_getElem? (i := 112) rfl)
theorem q1_113 : (Jvm.Cond.classLink "BeanGroves" (41 : Nat) "java/lang/IllegalArgumentException") ∈ lw_tbl := qt1 (List.mem_of_getElem? (i := 113) rfl)
theorem q1_114 : (Jvm.Cond.instantiable "java/lang/IllegalArgumentException" (6 : Nat)) ∈ lw_tbl := qt1 (List.mem_of_getElem? (i := 114) rfl)
theorem q1_115 : (Jvm.Cond.castable "java/lang/IllegalArgumentException" "java/lang/IllegalArgumentException") ∈ lw_tbl := qt1 (List.mem_of_getElem? (i := 115) rfl)
theorem q1_116 : (Jvm.Cond.selects "java/lang/IllegalArgumentException" ({ cls := "java/lang/Throwable", name := "fillInStackTrace", desc := "(I)Ljava/lang/Throwable;" } : Jvm.MethodName) ({ cls := "java/lang/Throwable", name := "fillInStackTrace", desc := "(I)Ljava/lang/Throwable;" } : Jvm.MethodName)) ∈ lw_tbl := qt1 (List.mem_of_getElem? (i := 116) rfl)
theorem q1_117 : (Jvm.Cond.lays "java/lang/IllegalArgumentException" "java/lang/Throwable" "cause" "Ljava/lang/Throwable;") ∈ lw_tbl := qt1 (List.mem_of_getElem? (i := 117) rfl)
theorem q1_118 : (Jvm.Cond.lays "java/lang/IllegalArgumentException" "java/lang/Throwable" "stackTrace" "[Ljava/lang/StackTraceElement;") ∈ lw_tbl := qt1 (List.mem_of_getElem? (i := 118) rfl)
theorem q1_119 : (Jvm.Cond.lays "java/lang/IllegalArgumentException" "java/lang/Throwable" "suppressedExceptions" "Ljava/util/List;") ∈ lw_tbl := qt1 (List.mem_of_getElem? (i := 119) rfl)
theorem q1_120 : (Jvm.Cond.lays "java/lang/IllegalArgumentException" "java/lang/Throwable" "detailMessage" "Ljava/lang/String;") ∈ lw_tbl := qt1 (List.mem_of_getElem? (i := 120) rfl)
theorem q1_121 : (Jvm.Cond.lays "java/lang/IllegalArgumentException" "java/lang/Throwable" "backtrace" "Ljava/lang/Object;") ∈ lw_tbl := qt1 (List.mem_of_getElem? (i := 121) rfl)
theorem q1_122 : (Jvm.Cond.stringRef "BeanGroves" (93 : Nat) "the depth is not 1 to 5") ∈ lw_tbl := qt1 (List.mem_of_getElem? (i := 122) rfl)
theorem q1_123 : (Jvm.Cond.methodLink "BeanGroves" (45 : Nat) ({ cls := "java/lang/IllegalArgumentException", name := "<init>", desc := "(Ljava/lang/String;)V" } : Jvm.MethodName)) ∈ lw_tbl := qt1 (List.mem_of_getElem? (i := 123) rfl)
theorem q1_124 : (Jvm.Cond.instanceMethod ({ cls := "java/lang/IllegalArgumentException", name := "<init>", desc := "(Ljava/lang/String;)V" } : Jvm.MethodName)) ∈ lw_tbl := qt1 (List.mem_of_getElem? (i := 124) rfl)
theorem q1_125 : (Jvm.Cond.code ({ cls := "java/lang/IllegalArgumentException", name := "<init>", desc := "(Ljava/lang/String;)V" } : Jvm.MethodName) prog_7_method_2_code (2 : Nat) (Option.none : Option Jvm.ClassFile.FieldType)) ∈ lw_tbl := qt1 (List.mem_of_getElem? (i := 125) rfl)
theorem q1_126 : (Jvm.Cond.methodLink "java/lang/IllegalArgumentException" (7 : Nat) ({ cls := "java/lang/RuntimeException", name := "<init>", desc := "(Ljava/lang/String;)V" } : Jvm.MethodName)) ∈ lw_tbl := qt1 (List.mem_of_getElem? (i := 126) rfl)
theorem q1_127 : (Jvm.Cond.lays "java/lang/IllegalArgumentException" "java/lang/Throwable" "depth" "I") ∈ lw_tbl := qt1 (List.mem_of_getElem? (i := 127) rfl)
theorem q1_128 : (Jvm.Cond.superclass "java/lang/IllegalArgumentException" "java/lang/RuntimeException") ∈ lw_tbl := qt1 (List.mem_of_getElem? (i := 128) rfl)
theorem q1_129 : (Jvm.Cond.methodLink "BeanGrovesLaw" (46 : Nat) ({ cls := "BeanGroves", name := "setLeast", desc := "(I)I" } : Jvm.MethodName)) ∈ lw_tbl := qt1 (List.mem_of_getElem? (i := 129) rfl)
theorem q1_130 : (Jvm.Cond.instanceMethod ({ cls := "BeanGroves", name := "setLeast", desc := "(I)I" } : Jvm.MethodName)) ∈ lw_tbl := qt1 (List.mem_of_getElem? (i := 130) rfl)
theorem q1_131 : (Jvm.Cond.selects "BeanGroves" ({ cls := "BeanGroves", name := "setLeast", desc := "(I)I" } : Jvm.MethodName) ({ cls := "BeanGroves", name := "setLeast", desc := "(I)I" } : Jvm.MethodName)) ∈ lw_tbl := qt1 (List.mem_of_getElem? (i := 131) rfl)
theorem q1_132 : (Jvm.Cond.code ({ cls := "BeanGroves", name := "setLeast", desc := "(I)I" } : Jvm.MethodName) prog_1_method_6_code (3 : Nat) (Option.some Jvm.ClassFile.FieldType.int)) ∈ lw_tbl := qt1 (List.mem_of_getElem? (i := 132) rfl)
theorem q1_133 : (Jvm.Cond.methodLink "BeanGroves" (95 : Nat) ({ cls := "BeanGroves", name := "isLeast", desc := "(I)Z" } : Jvm.MethodName)) ∈ lw_tbl := qt1 (List.mem_of_getElem? (i := 133) rfl)
theorem q1_134 : (Jvm.Cond.static ({ cls := "BeanGroves", name := "isLeast", desc := "(I)Z" } : Jvm.MethodName)) ∈ lw_tbl := qt1 (List.mem_of_getElem? (i := 134) rfl)
theorem q1_135 : (Jvm.Cond.code ({ cls := "BeanGroves", name := "isLeast", desc := "(I)Z" } : Jvm.MethodName) prog_1_method_31_code (1 : Nat) (Option.some Jvm.ClassFile.FieldType.boolean)) ∈ lw_tbl := qt1 (List.mem_of_getElem? (i := 135) rfl)
theorem q1_136 : (Jvm.Cond.stringRef "BeanGroves" (98 : Nat) "the least number is not 1 to 6") ∈ lw_tbl := qt1 (List.mem_of_getElem? (i := 136) rfl)
theorem q1_137 : (Jvm.Cond.methodLink "BeanGrovesLaw" (84 : Nat) ({ cls := "BeanGroves", name := "plant", desc := "(II)I" } : Jvm.MethodName)) ∈ lw_tbl := qt1 (List.mem_of_getElem? (i := 137) rfl)
theorem q1_138 : (Jvm.Cond.instanceMethod ({ cls := "BeanGroves", name := "plant", desc := "(II)I" } : Jvm.MethodName)) ∈ lw_tbl := qt1 (List.mem_of_getElem? (i := 138) rfl)
theorem q1_139 : (Jvm.Cond.selects "BeanGroves" ({ cls := "BeanGroves", name := "plant", desc := "(II)I" } : Jvm.MethodName) ({ cls := "BeanGroves", name := "plant", desc := "(II)I" } : Jvm.MethodName)) ∈ lw_tbl := qt1 (List.mem_of_getElem? (i := 139) rfl)
theorem q1_140 : (Jvm.Cond.code ({ cls := "BeanGroves", name := "plant", desc := "(II)I" } : Jvm.MethodName) prog_1_method_7_code (5 : Nat) (Option.some Jvm.ClassFile.FieldType.int)) ∈ lw_tbl := qt1 (List.mem_of_getElem? (i := 140) rfl)
theorem q1_141 : (Jvm.Cond.stringRef "BeanGroves" (100 : Nat) "parts is not 1 to 5") ∈ lw_tbl := qt1 (List.mem_of_getElem? (i := 141) rfl)
theorem q1_142 : (Jvm.Cond.stringRef "BeanGroves" (102 : Nat) "left is not -1 to parts - 1") ∈ lw_tbl := qt1 (List.mem_of_getElem? (i := 142) rfl)
theorem q1_143 : (Jvm.Cond.classLink "BeanGroves" (58 : Nat) "java/lang/IllegalStateException") ∈ lw_tbl := qt1 (List.mem_of_getElem? (i := 143) rfl)
theorem q1_144 : (Jvm.Cond.instantiable "java/lang/IllegalStateException" (6 : Nat)) ∈ lw_tbl := qt1 (List.mem_of_getElem? (i := 144) rfl)
theorem q1_145 : (Jvm.Cond.castable "java/lang/IllegalStateException" "java/lang/IllegalStateException") ∈ lw_tbl := qt1 (List.mem_of_getElem? (i := 145) rfl)
theorem q1_146 : (Jvm.Cond.selects "java/lang/IllegalStateException" ({ cls := "java/lang/Throwable", name := "fillInStackTrace", desc := "(I)Ljava/lang/Throwable;" } : Jvm.MethodName) ({ cls := "java/lang/Throwable", name := "fillInStackTrace", desc := "(I)Ljava/lang/Throwable;" } : Jvm.MethodName)) ∈ lw_tbl := qt1 (List.mem_of_getElem? (i := 146) rfl)
theorem q1_147 : (Jvm.Cond.lays "java/lang/IllegalStateException" "java/lang/Throwable" "cause" "Ljava/lang/Throwable;") ∈ lw_tbl := qt1 (List.mem_of_getElem? (i := 147) rfl)
theorem q1_148 : (Jvm.Cond.lays "java/lang/IllegalStateException" "java/lang/Throwable" "stackTrace" "[Ljava/lang/StackTraceElement;") ∈ lw_tbl := qt1 (List.mem_of_getElem? (i := 148) rfl)
theorem q1_149 : (Jvm.Cond.lays "java/lang/IllegalStateException" "java/lang/Throwable" "suppressedExceptions" "Ljava/util/List;") ∈ lw_tbl := qt1 (List.mem_of_getElem? (i := 149) rfl)
theorem q1_150 : (Jvm.Cond.lays "java/lang/IllegalStateException" "java/lang/Throwable" "detailMessage" "Ljava/lang/String;") ∈ lw_tbl := qt1 (List.mem_of_getElem? (i := 150) rfl)
theorem q1_151 : (Jvm.Cond.lays "java/lang/IllegalStateException" "java/lang/Throwable" "backtrace" "Ljava/lang/Object;") ∈ lw_tbl := qt1 (List.mem_of_getElem? (i := 151) rfl)
theorem q1_152 : (Jvm.Cond.stringRef "BeanGroves" (104 : Nat) "there are 5 trees") ∈ lw_tbl := qt1 (List.mem_of_getElem? (i := 152) rfl)
theorem q1_153 : (Jvm.Cond.methodLink "BeanGroves" (62 : Nat) ({ cls := "java/lang/IllegalStateException", name := "<init>", desc := "(Ljava/lang/String;)V" } : Jvm.MethodName)) ∈ lw_tbl := qt1 (List.mem_of_getElem? (i := 153) rfl)
theorem q1_154 : (Jvm.Cond.instanceMethod ({ cls := "java/lang/IllegalStateException", name := "<init>", desc := "(Ljava/lang/String;)V" } : Jvm.MethodName)) ∈ lw_tbl := qt1 (List.mem_of_getElem? (i := 154) rfl)
theorem q1_155 : (Jvm.Cond.code ({ cls := "java/lang/IllegalStateException", name := "<init>", desc := "(Ljava/lang/String;)V" } : Jvm.MethodName) prog_8_method_2_code (2 : Nat) (Option.none : Option Jvm.ClassFile.FieldType)) ∈ lw_tbl := qt1 (List.mem_of_getElem? (i := 155) rfl)
theorem q1_156 : (Jvm.Cond.methodLink "java/lang/IllegalStateException" (7 : Nat) ({ cls := "java/lang/RuntimeException", name := "<init>", desc := "(Ljava/lang/String;)V" } : Jvm.MethodName)) ∈ lw_tbl := qt1 (List.mem_of_getElem? (i := 156) rfl)
theorem q1_157 : (Jvm.Cond.lays "java/lang/IllegalStateException" "java/lang/Throwable" "depth" "I") ∈ lw_tbl := qt1 (List.mem_of_getElem? (i := 157) rfl)
theorem q1_158 : (Jvm.Cond.superclass "java/lang/IllegalStateException" "java/lang/RuntimeException") ∈ lw_tbl := qt1 (List.mem_of_getElem? (i := 158) rfl)
theorem q1_159 : (Jvm.Cond.methodLink "BeanGroves" (106 : Nat) ({ cls := "BeanGroves$Beans", name := "growingBut", desc := "(II)I" } : Jvm.MethodName)) ∈ lw_tbl := qt1 (List.mem_of_getElem? (i := 159) rfl)
theorem q1_160 : (Jvm.Cond.instanceMethod ({ cls := "BeanGroves$Beans", name := "growingBut", desc := "(II)I" } : Jvm.MethodName)) ∈ lw_tbl := qt1 (List.mem_of_getElem? (i := 160) rfl)
theorem q1_161 : (Jvm.Cond.selects "BeanGroves$Beans" ({ cls := "BeanGroves$Beans", name := "growingBut", desc := "(II)I" } : Jvm.MethodName) ({ cls := "BeanGroves$Beans", name := "growingBut", desc := "(II)I" } : Jvm.MethodName)) ∈ lw_tbl := qt1 (List.mem_of_getElem? (i := 161) rfl)
theorem q1_162 : (Jvm.Cond.code ({ cls := "BeanGroves$Beans", name := "growingBut", desc := "(II)I" } : Jvm.MethodName) prog_2_method_12_code (5 : Nat) (Option.some Jvm.ClassFile.FieldType.int)) ∈ lw_tbl := qt1 (List.mem_of_getElem? (i := 162) rfl)
theorem q1_163 : (Jvm.Cond.methodLink "BeanGroves$Beans" (41 : Nat) ({ cls := "BeanGroves$Beans", name := "growing", desc := "()I" } : Jvm.MethodName)) ∈ lw_tbl := qt1 (List.mem_of_getElem? (i := 163) rfl)
theorem q1_164 : (Jvm.Cond.instanceMethod ({ cls := "BeanGroves$Beans", name := "growing", desc := "()I" } : Jvm.MethodName)) ∈ lw_tbl := qt1 (List.mem_of_getElem? (i := 164) rfl)
theorem q1_165 : (Jvm.Cond.selects "BeanGroves$Beans" ({ cls := "BeanGroves$Beans", name := "growing", desc := "()I" } : Jvm.MethodName) ({ cls := "BeanGroves$Beans", name := "growing", desc := "()I" } : Jvm.MethodName)) ∈ lw_tbl := qt1 (List.mem_of_getElem? (i := 165) rfl)
theorem q1_166 : (Jvm.Cond.code ({ cls := "BeanGroves$Beans", name := "growing", desc := "()I" } : Jvm.MethodName) prog_2_method_11_code (1 : Nat) (Option.some Jvm.ClassFile.FieldType.int)) ∈ lw_tbl := qt1 (List.mem_of_getElem? (i := 166) rfl)
theorem q1_167 : (Jvm.Cond.stringRef "BeanGroves" (110 : Nat) "there are no beans to grow a tree of") ∈ lw_tbl := qt1 (List.mem_of_getElem? (i := 167) rfl)
theorem q1_168 : (Jvm.Cond.methodLink "BeanGroves" (112 : Nat) ({ cls := "BeanGroves$Tree", name := "grow", desc := "(LBeanGroves$Beans;III)V" } : Jvm.MethodName)) ∈ lw_tbl := qt1 (List.mem_of_getElem? (i := 168) rfl)
theorem q1_169 : (Jvm.Cond.instanceMethod ({ cls := "BeanGroves$Tree", name := "grow", desc := "(LBeanGroves$Beans;III)V" } : Jvm.MethodName)) ∈ lw_tbl := qt1 (List.mem_of_getElem? (i := 169) rfl)
theorem q1_170 : (Jvm.Cond.selects "BeanGroves$Tree" ({ cls := "BeanGroves$Tree", name := "grow", desc := "(LBeanGroves$Beans;III)V" } : Jvm.MethodName) ({ cls := "BeanGroves$Tree", name := "grow", desc := "(LBeanGroves$Beans;III)V" } : Jvm.MethodName)) ∈ lw_tbl := qt1 (List.mem_of_getElem? (i := 170) rfl)
theorem q1_171 : (Jvm.Cond.code ({ cls := "BeanGroves$Tree", name := "grow", desc := "(LBeanGroves$Beans;III)V" } : Jvm.MethodName) prog_3_method_5_code (7 : Nat) (Option.none : Option Jvm.ClassFile.FieldType)) ∈ lw_tbl := qt1 (List.mem_of_getElem? (i := 171) rfl)
theorem q1_172 : (Jvm.Cond.methodLink "BeanGroves$Tree" (40 : Nat) ({ cls := "BeanGroves$Tree", name := "putLeaf", desc := "(LBeanGroves$Beans;III)V" } : Jvm.MethodName)) ∈ lw_tbl := qt1 (List.mem_of_getElem? (i := 172) rfl)
theorem q1_173 : (Jvm.Cond.privateMethod ({ cls := "BeanGroves$Tree", name := "putLeaf", desc := "(LBeanGroves$Beans;III)V" } : Jvm.MethodName)) ∈ lw_tbl := qt1 (List.mem_of_getElem? (i := 173) rfl)
theorem q1_174 : (Jvm.Cond.instanceMethod ({ cls := "BeanGroves$Tree", name := "putLeaf", desc := "(LBeanGroves$Beans;III)V" } : Jvm.MethodName)) ∈ lw_tbl := qt1 (List.mem_of_getElem? (i := 174) rfl)
theorem q1_175 : (Jvm.Cond.instantiable "BeanGroves$Tree" (9 : Nat)) ∈ lw_tbl := qt1 (List.mem_of_getElem? (i := 175) rfl)
theorem q1_176 : (Jvm.Cond.code ({ cls := "BeanGroves$Tree", name := "putLeaf", desc := "(LBeanGroves$Beans;III)V" } : Jvm.MethodName) prog_3_method_6_code (5 : Nat) (Option.none : Option Jvm.ClassFile.FieldType)) ∈ lw_tbl := qt1 (List.mem_of_getElem? (i := 176) rfl)
theorem q1_177 : (Jvm.Cond.methodLink "BeanGroves$Tree" (54 : Nat) ({ cls := "BeanGroves$Beans", name := "mostOf", desc := "(I)I" } : Jvm.MethodName)) ∈ lw_tbl := qt1 (List.mem_of_getElem? (i := 177) rfl)
theorem q1_178 : (Jvm.Cond.instanceMethod ({ cls := "BeanGroves$Beans", name := "mostOf", desc := "(I)I" } : Jvm.MethodName)) ∈ lw_tbl := qt1 (List.mem_of_getElem? (i := 178) rfl)
theorem q1_179 : (Jvm.Cond.selects "BeanGroves$Beans" ({ cls := "BeanGroves$Beans", name := "mostOf", desc := "(I)I" } : Jvm.MethodName) ({ cls := "BeanGroves$Beans", name := "mostOf", desc := "(I)I" } : Jvm.MethodName)) ∈ lw_tbl := qt1 (List.mem_of_getElem? (i := 179) rfl)
theorem q1_180 : (Jvm.Cond.code ({ cls := "BeanGroves$Beans", name := "mostOf", desc := "(I)I" } : Jvm.MethodName) prog_2_method_14_code (4 : Nat) (Option.some Jvm.ClassFile.FieldType.int)) ∈ lw_tbl := qt1 (List.mem_of_getElem? (i := 180) rfl)
theorem q1_181 : (Jvm.Cond.methodLink "BeanGroves$Beans" (51 : Nat) ({ cls := "BeanGroves$Beans", name := "howManyOfSort", desc := "(II)I" } : Jvm.MethodName)) ∈ lw_tbl := qt1 (List.mem_of_getElem? (i := 181) rfl)
theorem q1_182 : (Jvm.Cond.instanceMethod ({ cls := "BeanGroves$Beans", name := "howManyOfSort", desc := "(II)I" } : Jvm.MethodName)) ∈ lw_tbl := qt1 (List.mem_of_getElem? (i := 182) rfl)
theorem q1_183 : (Jvm.Cond.selects "BeanGroves$Beans" ({ cls := "BeanGroves$Beans", name := "howManyOfSort", desc := "(II)I" } : Jvm.MethodName) ({ cls := "BeanGroves$Beans", name := "howManyOfSort", desc := "(II)I" } : Jvm.MethodName)) ∈ lw_tbl := qt1 (List.mem_of_getElem? (i := 183) rfl)
theorem q1_184 : (Jvm.Cond.code ({ cls := "BeanGroves$Beans", name := "howManyOfSort", desc := "(II)I" } : Jvm.MethodName) prog_2_method_13_code (3 : Nat) (Option.some Jvm.ClassFile.FieldType.int)) ∈ lw_tbl := qt1 (List.mem_of_getElem? (i := 184) rfl)
theorem q1_185 : (Jvm.Cond.methodLink "BeanGroves$Beans" (45 : Nat) ({ cls := "java/lang/Integer", name := "bitCount", desc := "(I)I" } : Jvm.MethodName)) ∈ lw_tbl := qt1 (List.mem_of_getElem? (i := 185) rfl)
theorem q1_186 : (Jvm.Cond.static ({ cls := "java/lang/Integer", name := "bitCount", desc := "(I)I" } : Jvm.MethodName)) ∈ lw_tbl := qt1 (List.mem_of_getElem? (i := 186) rfl)
theorem q1_187 : (Jvm.Cond.code ({ cls := "java/lang/Integer", name := "bitCount", desc := "(I)I" } : Jvm.MethodName) prog_10_method_49_code (1 : Nat) (Option.some Jvm.ClassFile.FieldType.int)) ∈ lw_tbl := qt1 (List.mem_of_getElem? (i := 187) rfl)
theorem q1_188 : (Jvm.Cond.constant "java/lang/Integer" (265 : Nat) (1431655765 : Int32)) ∈ lw_tbl := qt1 (List.mem_of_getElem? (i := 188) rfl)
theorem q1_189 : (Jvm.Cond.constant "java/lang/Integer" (266 : Nat) (858993459 : Int32)) ∈ lw_tbl := qt1 (List.mem_of_getElem? (i := 189) rfl)
theorem q1_190 : (Jvm.Cond.constant "java/lang/Integer" (267 : Nat) (252645135 : Int32)) ∈ lw_tbl := qt1 (List.mem_of_getElem? (i := 190) rfl)
theorem q1_191 : (Jvm.Cond.methodLink "BeanGroves$Tree" (58 : Nat) ({ cls := "java/lang/Integer", name := "bitCount", desc := "(I)I" } : Jvm.MethodName)) ∈ lw_tbl := qt1 (List.mem_of_getElem? (i := 191) rfl)
theorem q1_192 : (Jvm.Cond.methodLink "BeanGroves$Tree" (44 : Nat) ({ cls := "BeanGroves$Beans", name := "bestCut", desc := "(II)I" } : Jvm.MethodName)) ∈ lw_tbl := qt1 (List.mem_of_getElem? (i := 192) rfl)
theorem q1_193 : (Jvm.Cond.instanceMethod ({ cls := "BeanGroves$Beans", name := "bestCut", desc := "(II)I" } : Jvm.MethodName)) ∈ lw_tbl := qt1 (List.mem_of_getElem? (i := 193) rfl)
theorem q1_194 : (Jvm.Cond.selects "BeanGroves$Beans" ({ cls := "BeanGroves$Beans", name := "bestCut", desc := "(II)I" } : Jvm.MethodName) ({ cls := "BeanGroves$Beans", name := "bestCut", desc := "(II)I" } : Jvm.MethodName)) ∈ lw_tbl := qt1 (List.mem_of_getElem? (i := 194) rfl)
theorem q1_195 : (Jvm.Cond.code ({ cls := "BeanGroves$Beans", name := "bestCut", desc := "(II)I" } : Jvm.MethodName) prog_2_method_18_code (16 : Nat) (Option.some Jvm.ClassFile.FieldType.int)) ∈ lw_tbl := qt1 (List.mem_of_getElem? (i := 195) rfl)
theorem q1_196 : (Jvm.Cond.methodLink "BeanGroves$Beans" (58 : Nat) ({ cls := "BeanGroves$Beans", name := "lowOf", desc := "(II)I" } : Jvm.MethodName)) ∈ lw_tbl := qt1 (List.mem_of_getElem? (i := 196) rfl)
theorem q1_197 : (Jvm.Cond.instanceMethod ({ cls := "BeanGroves$Beans", name := "lowOf", desc := "(II)I" } : Jvm.MethodName)) ∈ lw_tbl := qt1 (List.mem_of_getElem? (i := 197) rfl)
theorem q1_198 : (Jvm.Cond.selects "BeanGroves$Beans" ({ cls := "BeanGroves$Beans", name := "lowOf", desc := "(II)I" } : Jvm.MethodName) ({ cls := "BeanGroves$Beans", name := "lowOf", desc := "(II)I" } : Jvm.MethodName)) ∈ lw_tbl := qt1 (List.mem_of_getElem? (i := 198) rfl)
theorem q1_199 : (Jvm.Cond.code ({ cls := "BeanGroves$Beans", name := "lowOf", desc := "(II)I" } : Jvm.MethodName) prog_2_method_15_code (3 : Nat) (Option.some Jvm.ClassFile.FieldType.int)) ∈ lw_tbl := qt1 (List.mem_of_getElem? (i := 199) rfl)
theorem q1_200 : (Jvm.Cond.methodLink "BeanGroves$Beans" (61 : Nat) ({ cls := "BeanGroves$Beans", name := "leavesBoth", desc := "(III)Z" } : Jvm.MethodName)) ∈ lw_tbl := qt1 (List.mem_of_getElem? (i := 200) rfl)
theorem q1_201 : (Jvm.Cond.static ({ cls := "BeanGroves$Beans", name := "leavesBoth", desc := "(III)Z" } : Jvm.MethodName)) ∈ lw_tbl := qt1 (List.mem_of_getElem? (i := 201) rfl)
theorem q1_202 : (Jvm.Cond.code ({ cls := "BeanGroves$Beans", name := "leavesBoth", desc := "(III)Z" } : Jvm.MethodName) prog_2_method_19_code (3 : Nat) (Option.some Jvm.ClassFile.FieldType.boolean)) ∈ lw_tbl := qt1 (List.mem_of_getElem? (i := 202) rfl)
theorem q1_203 : (Jvm.Cond.methodLink "BeanGroves$Beans" (65 : Nat) ({ cls := "BeanGroves$Beans", name := "gainAbove", desc := "(II)I" } : Jvm.MethodName)) ∈ lw_tbl := qt1 (List.mem_of_getElem? (i := 203) rfl)
theorem q1_204 : (Jvm.Cond.instanceMethod ({ cls := "BeanGroves$Beans", name := "gainAbove", desc := "(II)I" } : Jvm.MethodName)) ∈ lw_tbl := qt1 (List.mem_of_getElem? (i := 204) rfl)
theorem q1_205 : (Jvm.Cond.selects "BeanGroves$Beans" ({ cls := "BeanGroves$Beans", name := "gainAbove", desc := "(II)I" } : Jvm.MethodName) ({ cls := "BeanGroves$Beans", name := "gainAbove", desc := "(II)I" } : Jvm.MethodName)) ∈ lw_tbl := qt1 (List.mem_of_getElem? (i := 205) rfl)
theorem q1_206 : (Jvm.Cond.code ({ cls := "BeanGroves$Beans", name := "gainAbove", desc := "(II)I" } : Jvm.MethodName) prog_2_method_17_code (7 : Nat) (Option.some Jvm.ClassFile.FieldType.int)) ∈ lw_tbl := qt1 (List.mem_of_getElem? (i := 206) rfl)
theorem q1_207 : (Jvm.Cond.methodLink "BeanGroves$Beans" (55 : Nat) ({ cls := "BeanGroves$Beans", name := "squares", desc := "(I)I" } : Jvm.MethodName)) ∈ lw_tbl := qt1 (List.mem_of_getElem? (i := 207) rfl)
theorem q1_208 : (Jvm.Cond.privateMethod ({ cls := "BeanGroves$Beans", name := "squares", desc := "(I)I" } : Jvm.MethodName)) ∈ lw_tbl := qt1 (List.mem_of_getElem? (i := 208) rfl)
theorem q1_209 : (Jvm.Cond.instanceMethod ({ cls := "BeanGroves$Beans", name := "squares", desc := "(I)I" } : Jvm.MethodName)) ∈ lw_tbl := qt1 (List.mem_of_getElem? (i := 209) rfl)
theorem q1_210 : (Jvm.Cond.instantiable "BeanGroves$Beans" (6 : Nat)) ∈ lw_tbl := qt1 (List.mem_of_getElem? (i := 210) rfl)
theorem q1_211 : (Jvm.Cond.code ({ cls := "BeanGroves$Beans", name := "squares", desc := "(I)I" } : Jvm.MethodName) prog_2_method_16_code (5 : Nat) (Option.some Jvm.ClassFile.FieldType.int)) ∈ lw_tbl := qt1 (List.mem_of_getElem? (i := 211) rfl)
theorem q1_212 : (Jvm.Cond.methodLinkNest "BeanGroves$Beans" (68 : Nat) ({ cls := "BeanGroves", name := "gainBelow", desc := "(II)I" } : Jvm.MethodName) "BeanGroves") ∈ lw_tbl := qt1 (List.mem_of_getElem? (i := 212) rfl)
theorem q1_213 : (Jvm.Cond.static ({ cls := "BeanGroves", name := "gainBelow", desc := "(II)I" } : Jvm.MethodName)) ∈ lw_tbl := qt1 (List.mem_of_getElem? (i := 213) rfl)
theorem q1_214 : (Jvm.Cond.code ({ cls := "BeanGroves", name := "gainBelow", desc := "(II)I" } : Jvm.MethodName) prog_1_method_35_code (2 : Nat) (Option.some Jvm.ClassFile.FieldType.int)) ∈ lw_tbl := qt1 (List.mem_of_getElem? (i := 214) rfl)
theorem q1_215 : (Jvm.Cond.methodLink "BeanGroves" (192 : Nat) ({ cls := "java/lang/Integer", name := "bitCount", desc := "(I)I" } : Jvm.MethodName)) ∈ lw_tbl := qt1 (List.mem_of_getElem? (i := 215) rfl)
theorem q1_216 : (Jvm.Cond.methodLink "BeanGroves$Tree" (50 : Nat) ({ cls := "BeanGroves$Tree", name := "fork", desc := "(LBeanGroves$Beans;II)V" } : Jvm.MethodName)) ∈ lw_tbl := qt1 (List.mem_of_getElem? (i := 216) rfl)
theorem q1_217 : (Jvm.Cond.privateMethod ({ cls := "BeanGroves$Tree", name := "fork", desc := "(LBeanGroves$Beans;II)V" } : Jvm.MethodName)) ∈ lw_tbl := qt1 (List.mem_of_getElem? (i := 217) rfl)
theorem q1_218 : (Jvm.Cond.instanceMethod ({ cls := "BeanGroves$Tree", name := "fork", desc := "(LBeanGroves$Beans;II)V" } : Jvm.MethodName)) ∈ lw_tbl := qt1 (List.mem_of_getElem? (i := 218) rfl)
theorem q1_219 : (Jvm.Cond.code ({ cls := "BeanGroves$Tree", name := "fork", desc := "(LBeanGroves$Beans;II)V" } : Jvm.MethodName) prog_3_method_7_code (5 : Nat) (Option.none : Option Jvm.ClassFile.FieldType)) ∈ lw_tbl := qt1 (List.mem_of_getElem? (i := 219) rfl)
theorem q1_220 : (Jvm.Cond.methodLink "BeanGroves$Tree" (63 : Nat) ({ cls := "BeanGroves$Tree", name := "copyNode", desc := "(II)V" } : Jvm.MethodName)) ∈ lw_tbl := qt1 (List.mem_of_getElem? (i := 220) rfl)
theorem q1_221 : (Jvm.Cond.privateMethod ({ cls := "BeanGroves$Tree", name := "copyNode", desc := "(II)V" } : Jvm.MethodName)) ∈ lw_tbl := qt1 (List.mem_of_getElem? (i := 221) rfl)
theorem q1_222 : (Jvm.Cond.instanceMethod ({ cls := "BeanGroves$Tree", name := "copyNode", desc := "(II)V" } : Jvm.MethodName)) ∈ lw_tbl := qt1 (List.mem_of_getElem? (i := 222) rfl)
theorem q1_223 : (Jvm.Cond.code ({ cls := "BeanGroves$Tree", name := "copyNode", desc := "(II)V" } : Jvm.MethodName) prog_3_method_8_code (3 : Nat) (Option.none : Option Jvm.ClassFile.FieldType)) ∈ lw_tbl := qt1 (List.mem_of_getElem? (i := 223) rfl)
theorem q1_224 : (Jvm.Cond.methodLink "BeanGroves$Tree" (67 : Nat) ({ cls := "BeanGroves$Beans", name := "lowOf", desc := "(II)I" } : Jvm.MethodName)) ∈ lw_tbl := qt1 (List.mem_of_getElem? (i := 224) rfl)
theorem q1_225 : (Jvm.Cond.methodLink "BeanGroves" (116 : Nat) ({ cls := "BeanGroves$Tree", name := "remember", desc := "(II)V" } : Jvm.MethodName)) ∈ lw_tbl := qt1 (List.mem_of_getElem? (i := 225) rfl)
theorem q1_226 : (Jvm.Cond.instanceMethod ({ cls := "BeanGroves$Tree", name := "remember", desc := "(II)V" } : Jvm.MethodName)) ∈ lw_tbl := qt1 (List.mem_of_getElem? (i := 226) rfl)
theorem q1_227 : (Jvm.Cond.selects "BeanGroves$Tree" ({ cls := "BeanGroves$Tree", name := "remember", desc := "(II)V" } : Jvm.MethodName) ({ cls := "BeanGroves$Tree", name := "remember", desc := "(II)V" } : Jvm.MethodName)) ∈ lw_tbl := qt1 (List.mem_of_getElem? (i := 227) rfl)
theorem q1_228 : (Jvm.Cond.code ({ cls := "BeanGroves$Tree", name := "remember", desc := "(II)V" } : Jvm.MethodName) prog_3_method_2_code (3 : Nat) (Option.none : Option Jvm.ClassFile.FieldType)) ∈ lw_tbl := qt1 (List.mem_of_getElem? (i := 228) rfl)
theorem q1_229 : (Jvm.Cond.methodLink "BeanGrovesLaw" (81 : Nat) ({ cls := "BeanGroves", name := "fell", desc := "(I)I" } : Jvm.MethodName)) ∈ lw_tbl := qt1 (List.mem_of_getElem? (i := 229) rfl)
theorem q1_230 : (Jvm.Cond.instanceMethod ({ cls := "BeanGroves", name := "fell", desc := "(I)I" } : Jvm.MethodName)) ∈ lw_tbl := qt1 (List.mem_of_getElem? (i := 230) rfl)
theorem q1_231 : (Jvm.Cond.selects "BeanGroves" ({ cls := "BeanGroves", name := "fell", desc := "(I)I" } : Jvm.MethodName) ({ cls := "BeanGroves", name := "fell", desc := "(I)I" } : Jvm.MethodName)) ∈ lw_tbl := qt1 (List.mem_of_getElem? (i := 231) rfl)
theorem q1_232 : (Jvm.Cond.code ({ cls := "BeanGroves", name := "fell", desc := "(I)I" } : Jvm.MethodName) prog_1_method_8_code (4 : Nat) (Option.some Jvm.ClassFile.FieldType.int)) ∈ lw_tbl := qt1 (List.mem_of_getElem? (i := 232) rfl)
theorem q1_233 : (Jvm.Cond.methodLink "BeanGroves" (119 : Nat) ({ cls := "BeanGroves", name := "isTree", desc := "(I)Z" } : Jvm.MethodName)) ∈ lw_tbl := qt1 (List.mem_of_getElem? (i := 233) rfl)
theorem q1_234 : (Jvm.Cond.privateMethod ({ cls := "BeanGroves", name := "isTree", desc := "(I)Z" } : Jvm.MethodName)) ∈ lw_tbl := qt1 (List.mem_of_getElem? (i := 234) rfl)
theorem q1_235 : (Jvm.Cond.instanceMethod ({ cls := "BeanGroves", name := "isTree", desc := "(I)Z" } : Jvm.MethodName)) ∈ lw_tbl := qt1 (List.mem_of_getElem? (i := 235) rfl)
theorem q1_236 : (Jvm.Cond.code ({ cls := "BeanGroves", name := "isTree", desc := "(I)Z" } : Jvm.MethodName) prog_1_method_26_code (2 : Nat) (Option.some Jvm.ClassFile.FieldType.boolean)) ∈ lw_tbl := qt1 (List.mem_of_getElem? (i := 236) rfl)
theorem q1_237 : (Jvm.Cond.stringRef "BeanGroves" (122 : Nat) "no such tree") ∈ lw_tbl := qt1 (List.mem_of_getElem? (i := 237) rfl)
theorem q1_238 : (Jvm.Cond.methodLink "BeanGrovesLaw" (73 : Nat) ({ cls := "BeanGroves", name := "prune", desc := "(I)I" } : Jvm.MethodName)) ∈ lw_tbl := qt1 (List.mem_of_getElem? (i := 238) rfl)
theorem q1_239 : (Jvm.Cond.instanceMethod ({ cls := "BeanGroves", name := "prune", desc := "(I)I" } : Jvm.MethodName)) ∈ lw_tbl := qt1 (List.mem_of_getElem? (i := 239) rfl)
theorem q2_0 : (Jvm.Cond.selects "BeanGroves" ({ cls := "BeanGroves", name := "prune", desc := "(I)I" } : Jvm.MethodName) ({ cls := "BeanGroves", name := "prune", desc := "(I)I" } : Jvm.MethodName)) ∈ lw_tbl := qt2 (List.mem_of_getElem? (i := 0) rfl)
theorem q2_1 : (Jvm.Cond.code ({ cls := "BeanGroves", name := "prune", desc := "(I)I" } : Jvm.MethodName) prog_1_method_9_code (2 : Nat) (Option.some Jvm.ClassFile.FieldType.int)) ∈ lw_tbl := qt2 (List.mem_of_getElem? (i := 1) rfl)
theorem q2_2 : (Jvm.Cond.methodLink "BeanGroves" (124 : Nat) ({ cls := "BeanGroves$Beans", name := "checks", desc := "()I" } : Jvm.MethodName)) ∈ lw_tbl := qt2 (List.mem_of_getElem? (i := 2) rfl)
theorem q2_3 : (Jvm.Cond.instanceMethod ({ cls := "BeanGroves$Beans", name := "checks", desc := "()I" } : Jvm.MethodName)) ∈ lw_tbl := qt2 (List.mem_of_getElem? (i := 3) rfl)
theorem q2_4 : (Jvm.Cond.selects "BeanGroves$Beans" ({ cls := "BeanGroves$Beans", name := "checks", desc := "()I" } : Jvm.MethodName) ({ cls := "BeanGroves$Beans", name := "checks", desc := "()I" } : Jvm.MethodName)) ∈ lw_tbl := qt2 (List.mem_of_getElem? (i := 4) rfl)
theorem q2_5 : (Jvm.Cond.code ({ cls := "BeanGroves$Beans", name := "checks", desc := "()I" } : Jvm.MethodName) prog_2_method_10_code (1 : Nat) (Option.some Jvm.ClassFile.FieldType.int)) ∈ lw_tbl := qt2 (List.mem_of_getElem? (i := 5) rfl)
theorem q2_6 : (Jvm.Cond.methodLink "BeanGroves" (127 : Nat) ({ cls := "BeanGroves$Tree", name := "pruneBy", desc := "(LBeanGroves$Beans;I)I" } : Jvm.MethodName)) ∈ lw_tbl := qt2 (List.mem_of_getElem? (i := 6) rfl)
theorem q2_7 : (Jvm.Cond.instanceMethod ({ cls := "BeanGroves$Tree", name := "pruneBy", desc := "(LBeanGroves$Beans;I)I" } : Jvm.MethodName)) ∈ lw_tbl := qt2 (List.mem_of_getElem? (i := 7) rfl)
theorem q2_8 : (Jvm.Cond.selects "BeanGroves$Tree" ({ cls := "BeanGroves$Tree", name := "pruneBy", desc := "(LBeanGroves$Beans;I)I" } : Jvm.MethodName) ({ cls := "BeanGroves$Tree", name := "pruneBy", desc := "(LBeanGroves$Beans;I)I" } : Jvm.MethodName)) ∈ lw_tbl := qt2 (List.mem_of_getElem? (i := 8) rfl)
theorem q2_9 : (Jvm.Cond.code ({ cls := "BeanGroves$Tree", name := "pruneBy", desc := "(LBeanGroves$Beans;I)I" } : Jvm.MethodName) prog_3_method_9_code (7 : Nat) (Option.some Jvm.ClassFile.FieldType.int)) ∈ lw_tbl := qt2 (List.mem_of_getElem? (i := 9) rfl)
theorem q2_10 : (Jvm.Cond.methodLink "BeanGroves$Tree" (70 : Nat) ({ cls := "BeanGroves$Tree", name := "send", desc := "(LBeanGroves$Beans;I)V" } : Jvm.MethodName)) ∈ lw_tbl := qt2 (List.mem_of_getElem? (i := 10) rfl)
theorem q2_11 : (Jvm.Cond.privateMethod ({ cls := "BeanGroves$Tree", name := "send", desc := "(LBeanGroves$Beans;I)V" } : Jvm.MethodName)) ∈ lw_tbl := qt2 (List.mem_of_getElem? (i := 11) rfl)
theorem q2_12 : (Jvm.Cond.instanceMethod ({ cls := "BeanGroves$Tree", name := "send", desc := "(LBeanGroves$Beans;I)V" } : Jvm.MethodName)) ∈ lw_tbl := qt2 (List.mem_of_getElem? (i := 12) rfl)
theorem q2_13 : (Jvm.Cond.code ({ cls := "BeanGroves$Tree", name := "send", desc := "(LBeanGroves$Beans;I)V" } : Jvm.MethodName) prog_3_method_12_code (6 : Nat) (Option.none : Option Jvm.ClassFile.FieldType)) ∈ lw_tbl := qt2 (List.mem_of_getElem? (i := 13) rfl)
theorem q2_14 : (Jvm.Cond.methodLink "BeanGroves$Tree" (77 : Nat) ({ cls := "BeanGroves$Tree", name := "highPartAt", desc := "(I)I" } : Jvm.MethodName)) ∈ lw_tbl := qt2 (List.mem_of_getElem? (i := 14) rfl)
theorem q2_15 : (Jvm.Cond.instanceMethod ({ cls := "BeanGroves$Tree", name := "highPartAt", desc := "(I)I" } : Jvm.MethodName)) ∈ lw_tbl := qt2 (List.mem_of_getElem? (i := 15) rfl)
theorem q2_16 : (Jvm.Cond.selects "BeanGroves$Tree" ({ cls := "BeanGroves$Tree", name := "highPartAt", desc := "(I)I" } : Jvm.MethodName) ({ cls := "BeanGroves$Tree", name := "highPartAt", desc := "(I)I" } : Jvm.MethodName)) ∈ lw_tbl := qt2 (List.mem_of_getElem? (i := 16) rfl)
theorem q2_17 : (Jvm.Cond.code ({ cls := "BeanGroves$Tree", name := "highPartAt", desc := "(I)I" } : Jvm.MethodName) prog_3_method_21_code (3 : Nat) (Option.some Jvm.ClassFile.FieldType.int)) ∈ lw_tbl := qt2 (List.mem_of_getElem? (i := 17) rfl)
theorem q2_18 : (Jvm.Cond.methodLink "BeanGroves$Tree" (74 : Nat) ({ cls := "BeanGroves$Beans", name := "howManyOfSort", desc := "(II)I" } : Jvm.MethodName)) ∈ lw_tbl := qt2 (List.mem_of_getElem? (i := 18) rfl)
theorem q2_19 : (Jvm.Cond.methodLink "BeanGroves$Tree" (80 : Nat) ({ cls := "BeanGroves$Tree", name := "dropNodesBelowLeaves", desc := "()V" } : Jvm.MethodName)) ∈ lw_tbl := qt2 (List.mem_of_getElem? (i := 19) rfl)
theorem q2_20 : (Jvm.Cond.privateMethod ({ cls := "BeanGroves$Tree", name := "dropNodesBelowLeaves", desc := "()V" } : Jvm.MethodName)) ∈ lw_tbl := qt2 (List.mem_of_getElem? (i := 20) rfl)
theorem q2_21 : (Jvm.Cond.instanceMethod ({ cls := "BeanGroves$Tree", name := "dropNodesBelowLeaves", desc := "()V" } : Jvm.MethodName)) ∈ lw_tbl := qt2 (List.mem_of_getElem? (i := 21) rfl)
theorem q2_22 : (Jvm.Cond.code ({ cls := "BeanGroves$Tree", name := "dropNodesBelowLeaves", desc := "()V" } : Jvm.MethodName) prog_3_method_10_code (4 : Nat) (Option.none : Option Jvm.ClassFile.FieldType)) ∈ lw_tbl := qt2 (List.mem_of_getElem? (i := 22) rfl)
theorem q2_23 : (Jvm.Cond.methodLink "BeanGrovesLaw" (90 : Nat) ({ cls := "BeanGroves", name := "node", desc := "(III)I" } : Jvm.MethodName)) ∈ lw_tbl := qt2 (List.mem_of_getElem? (i := 23) rfl)
theorem q2_24 : (Jvm.Cond.instanceMethod ({ cls := "BeanGroves", name := "node", desc := "(III)I" } : Jvm.MethodName)) ∈ lw_tbl := qt2 (List.mem_of_getElem? (i := 24) rfl)
theorem q2_25 : (Jvm.Cond.selects "BeanGroves" ({ cls := "BeanGroves", name := "node", desc := "(III)I" } : Jvm.MethodName) ({ cls := "BeanGroves", name := "node", desc := "(III)I" } : Jvm.MethodName)) ∈ lw_tbl := qt2 (List.mem_of_getElem? (i := 25) rfl)
theorem q2_26 : (Jvm.Cond.code ({ cls := "BeanGroves", name := "node", desc := "(III)I" } : Jvm.MethodName) prog_1_method_10_code (5 : Nat) (Option.some Jvm.ClassFile.FieldType.int)) ∈ lw_tbl := qt2 (List.mem_of_getElem? (i := 26) rfl)
theorem q2_27 : (Jvm.Cond.methodLink "BeanGroves" (131 : Nat) ({ cls := "BeanGroves$Tree", name := "hasPlace", desc := "(I)Z" } : Jvm.MethodName)) ∈ lw_tbl := qt2 (List.mem_of_getElem? (i := 27) rfl)
theorem q2_28 : (Jvm.Cond.instanceMethod ({ cls := "BeanGroves$Tree", name := "hasPlace", desc := "(I)Z" } : Jvm.MethodName)) ∈ lw_tbl := qt2 (List.mem_of_getElem? (i := 28) rfl)
theorem q2_29 : (Jvm.Cond.selects "BeanGroves$Tree" ({ cls := "BeanGroves$Tree", name := "hasPlace", desc := "(I)Z" } : Jvm.MethodName) ({ cls := "BeanGroves$Tree", name := "hasPlace", desc := "(I)Z" } : Jvm.MethodName)) ∈ lw_tbl := qt2 (List.mem_of_getElem? (i := 29) rfl)
theorem q2_30 : (Jvm.Cond.code ({ cls := "BeanGroves$Tree", name := "hasPlace", desc := "(I)Z" } : Jvm.MethodName) prog_3_method_14_code (2 : Nat) (Option.some Jvm.ClassFile.FieldType.boolean)) ∈ lw_tbl := qt2 (List.mem_of_getElem? (i := 30) rfl)
theorem q2_31 : (Jvm.Cond.stringRef "BeanGroves" (134 : Nat) "no such tree or place") ∈ lw_tbl := qt2 (List.mem_of_getElem? (i := 31) rfl)
theorem q2_32 : (Jvm.Cond.stringRef "BeanGroves" (136 : Nat) "what is not 0 to 6") ∈ lw_tbl := qt2 (List.mem_of_getElem? (i := 32) rfl)
theorem q2_33 : (Jvm.Cond.methodLink "BeanGroves" (138 : Nat) ({ cls := "BeanGroves$Tree", name := "measureAt", desc := "(I)I" } : Jvm.MethodName)) ∈ lw_tbl := qt2 (List.mem_of_getElem? (i := 33) rfl)
theorem q2_34 : (Jvm.Cond.instanceMethod ({ cls := "BeanGroves$Tree", name := "measureAt", desc := "(I)I" } : Jvm.MethodName)) ∈ lw_tbl := qt2 (List.mem_of_getElem? (i := 34) rfl)
theorem q2_35 : (Jvm.Cond.selects "BeanGroves$Tree" ({ cls := "BeanGroves$Tree", name := "measureAt", desc := "(I)I" } : Jvm.MethodName) ({ cls := "BeanGroves$Tree", name := "measureAt", desc := "(I)I" } : Jvm.MethodName)) ∈ lw_tbl := qt2 (List.mem_of_getElem? (i := 35) rfl)
theorem q2_36 : (Jvm.Cond.code ({ cls := "BeanGroves$Tree", name := "measureAt", desc := "(I)I" } : Jvm.MethodName) prog_3_method_15_code (2 : Nat) (Option.some Jvm.ClassFile.FieldType.int)) ∈ lw_tbl := qt2 (List.mem_of_getElem? (i := 36) rfl)
theorem q2_37 : (Jvm.Cond.methodLinkNest "BeanGroves$Tree" (83 : Nat) ({ cls := "BeanGroves", name := "measureOfCut", desc := "(I)I" } : Jvm.MethodName) "BeanGroves") ∈ lw_tbl := qt2 (List.mem_of_getElem? (i := 37) rfl)
theorem q2_38 : (Jvm.Cond.static ({ cls := "BeanGroves", name := "measureOfCut", desc := "(I)I" } : Jvm.MethodName)) ∈ lw_tbl := qt2 (List.mem_of_getElem? (i := 38) rfl)
theorem q2_39 : (Jvm.Cond.code ({ cls := "BeanGroves", name := "measureOfCut", desc := "(I)I" } : Jvm.MethodName) prog_1_method_33_code (1 : Nat) (Option.some Jvm.ClassFile.FieldType.int)) ∈ lw_tbl := qt2 (List.mem_of_getElem? (i := 39) rfl)
theorem q2_40 : (Jvm.Cond.methodLink "BeanGroves" (141 : Nat) ({ cls := "BeanGroves$Tree", name := "numberAt", desc := "(I)I" } : Jvm.MethodName)) ∈ lw_tbl := qt2 (List.mem_of_getElem? (i := 40) rfl)
theorem q2_41 : (Jvm.Cond.instanceMethod ({ cls := "BeanGroves$Tree", name := "numberAt", desc := "(I)I" } : Jvm.MethodName)) ∈ lw_tbl := qt2 (List.mem_of_getElem? (i := 41) rfl)
theorem q2_42 : (Jvm.Cond.selects "BeanGroves$Tree" ({ cls := "BeanGroves$Tree", name := "numberAt", desc := "(I)I" } : Jvm.MethodName) ({ cls := "BeanGroves$Tree", name := "numberAt", desc := "(I)I" } : Jvm.MethodName)) ∈ lw_tbl := qt2 (List.mem_of_getElem? (i := 42) rfl)
theorem q2_43 : (Jvm.Cond.code ({ cls := "BeanGroves$Tree", name := "numberAt", desc := "(I)I" } : Jvm.MethodName) prog_3_method_16_code (2 : Nat) (Option.some Jvm.ClassFile.FieldType.int)) ∈ lw_tbl := qt2 (List.mem_of_getElem? (i := 43) rfl)
theorem q2_44 : (Jvm.Cond.methodLinkNest "BeanGroves$Tree" (86 : Nat) ({ cls := "BeanGroves", name := "numberOfCut", desc := "(I)I" } : Jvm.MethodName) "BeanGroves") ∈ lw_tbl := qt2 (List.mem_of_getElem? (i := 44) rfl)
theorem q2_45 : (Jvm.Cond.static ({ cls := "BeanGroves", name := "numberOfCut", desc := "(I)I" } : Jvm.MethodName)) ∈ lw_tbl := qt2 (List.mem_of_getElem? (i := 45) rfl)
theorem q2_46 : (Jvm.Cond.code ({ cls := "BeanGroves", name := "numberOfCut", desc := "(I)I" } : Jvm.MethodName) prog_1_method_34_code (1 : Nat) (Option.some Jvm.ClassFile.FieldType.int)) ∈ lw_tbl := qt2 (List.mem_of_getElem? (i := 46) rfl)
theorem q2_47 : (Jvm.Cond.methodLink "BeanGroves" (144 : Nat) ({ cls := "BeanGroves$Tree", name := "sortAt", desc := "(I)I" } : Jvm.MethodName)) ∈ lw_tbl := qt2 (List.mem_of_getElem? (i := 47) rfl)
theorem q2_48 : (Jvm.Cond.instanceMethod ({ cls := "BeanGroves$Tree", name := "sortAt", desc := "(I)I" } : Jvm.MethodName)) ∈ lw_tbl := qt2 (List.mem_of_getElem? (i := 48) rfl)
theorem q2_49 : (Jvm.Cond.selects "BeanGroves$Tree" ({ cls := "BeanGroves$Tree", name := "sortAt", desc := "(I)I" } : Jvm.MethodName) ({ cls := "BeanGroves$Tree", name := "sortAt", desc := "(I)I" } : Jvm.MethodName)) ∈ lw_tbl := qt2 (List.mem_of_getElem? (i := 49) rfl)
theorem q2_50 : (Jvm.Cond.code ({ cls := "BeanGroves$Tree", name := "sortAt", desc := "(I)I" } : Jvm.MethodName) prog_3_method_17_code (2 : Nat) (Option.some Jvm.ClassFile.FieldType.int)) ∈ lw_tbl := qt2 (List.mem_of_getElem? (i := 50) rfl)
theorem q2_51 : (Jvm.Cond.methodLink "BeanGroves" (147 : Nat) ({ cls := "BeanGroves$Tree", name := "grownAt", desc := "(I)I" } : Jvm.MethodName)) ∈ lw_tbl := qt2 (List.mem_of_getElem? (i := 51) rfl)
theorem q2_52 : (Jvm.Cond.instanceMethod ({ cls := "BeanGroves$Tree", name := "grownAt", desc := "(I)I" } : Jvm.MethodName)) ∈ lw_tbl := qt2 (List.mem_of_getElem? (i := 52) rfl)
theorem q2_53 : (Jvm.Cond.selects "BeanGroves$Tree" ({ cls := "BeanGroves$Tree", name := "grownAt", desc := "(I)I" } : Jvm.MethodName) ({ cls := "BeanGroves$Tree", name := "grownAt", desc := "(I)I" } : Jvm.MethodName)) ∈ lw_tbl := qt2 (List.mem_of_getElem? (i := 53) rfl)
theorem q2_54 : (Jvm.Cond.code ({ cls := "BeanGroves$Tree", name := "grownAt", desc := "(I)I" } : Jvm.MethodName) prog_3_method_18_code (2 : Nat) (Option.some Jvm.ClassFile.FieldType.int)) ∈ lw_tbl := qt2 (List.mem_of_getElem? (i := 54) rfl)
theorem q2_55 : (Jvm.Cond.methodLink "BeanGroves" (150 : Nat) ({ cls := "BeanGroves$Tree", name := "depthAt", desc := "(I)I" } : Jvm.MethodName)) ∈ lw_tbl := qt2 (List.mem_of_getElem? (i := 55) rfl)
theorem q2_56 : (Jvm.Cond.instanceMethod ({ cls := "BeanGroves$Tree", name := "depthAt", desc := "(I)I" } : Jvm.MethodName)) ∈ lw_tbl := qt2 (List.mem_of_getElem? (i := 56) rfl)
theorem q2_57 : (Jvm.Cond.selects "BeanGroves$Tree" ({ cls := "BeanGroves$Tree", name := "depthAt", desc := "(I)I" } : Jvm.MethodName) ({ cls := "BeanGroves$Tree", name := "depthAt", desc := "(I)I" } : Jvm.MethodName)) ∈ lw_tbl := qt2 (List.mem_of_getElem? (i := 57) rfl)
theorem q2_58 : (Jvm.Cond.code ({ cls := "BeanGroves$Tree", name := "depthAt", desc := "(I)I" } : Jvm.MethodName) prog_3_method_19_code (2 : Nat) (Option.some Jvm.ClassFile.FieldType.int)) ∈ lw_tbl := qt2 (List.mem_of_getElem? (i := 58) rfl)
theorem q2_59 : (Jvm.Cond.methodLink "BeanGroves" (153 : Nat) ({ cls := "BeanGroves$Tree", name := "lowPartAt", desc := "(I)I" } : Jvm.MethodName)) ∈ lw_tbl := qt2 (List.mem_of_getElem? (i := 59) rfl)
theorem q2_60 : (Jvm.Cond.instanceMethod ({ cls := "BeanGroves$Tree", name := "lowPartAt", desc := "(I)I" } : Jvm.MethodName)) ∈ lw_tbl := qt2 (List.mem_of_getElem? (i := 60) rfl)
theorem q2_61 : (Jvm.Cond.selects "BeanGroves$Tree" ({ cls := "BeanGroves$Tree", name := "lowPartAt", desc := "(I)I" } : Jvm.MethodName) ({ cls := "BeanGroves$Tree", name := "lowPartAt", desc := "(I)I" } : Jvm.MethodName)) ∈ lw_tbl := qt2 (List.mem_of_getElem? (i := 61) rfl)
theorem q2_62 : (Jvm.Cond.code ({ cls := "BeanGroves$Tree", name := "lowPartAt", desc := "(I)I" } : Jvm.MethodName) prog_3_method_20_code (2 : Nat) (Option.some Jvm.ClassFile.FieldType.int)) ∈ lw_tbl := qt2 (List.mem_of_getElem? (i := 62) rfl)
theorem q2_63 : (Jvm.Cond.methodLink "BeanGroves" (156 : Nat) ({ cls := "BeanGroves$Tree", name := "highPartAt", desc := "(I)I" } : Jvm.MethodName)) ∈ lw_tbl := qt2 (List.mem_of_getElem? (i := 63) rfl)
theorem q2_64 : (Jvm.Cond.methodLink "BeanGrovesLaw" (70 : Nat) ({ cls := "BeanGroves", name := "about", desc := "(II)I" } : Jvm.MethodName)) ∈ lw_tbl := qt2 (List.mem_of_getElem? (i := 64) rfl)
theorem q2_65 : (Jvm.Cond.instanceMethod ({ cls := "BeanGroves", name := "about", desc := "(II)I" } : Jvm.MethodName)) ∈ lw_tbl := qt2 (List.mem_of_getElem? (i := 65) rfl)
theorem q2_66 : (Jvm.Cond.selects "BeanGroves" ({ cls := "BeanGroves", name := "about", desc := "(II)I" } : Jvm.MethodName) ({ cls := "BeanGroves", name := "about", desc := "(II)I" } : Jvm.MethodName)) ∈ lw_tbl := qt2 (List.mem_of_getElem? (i := 66) rfl)
theorem q2_67 : (Jvm.Cond.code ({ cls := "BeanGroves", name := "about", desc := "(II)I" } : Jvm.MethodName) prog_1_method_11_code (4 : Nat) (Option.some Jvm.ClassFile.FieldType.int)) ∈ lw_tbl := qt2 (List.mem_of_getElem? (i := 67) rfl)
theorem q2_68 : (Jvm.Cond.methodLink "BeanGroves" (159 : Nat) ({ cls := "BeanGroves$Tree", name := "howManyNodes", desc := "()I" } : Jvm.MethodName)) ∈ lw_tbl := qt2 (List.mem_of_getElem? (i := 68) rfl)
theorem q2_69 : (Jvm.Cond.instanceMethod ({ cls := "BeanGroves$Tree", name := "howManyNodes", desc := "()I" } : Jvm.MethodName)) ∈ lw_tbl := qt2 (List.mem_of_getElem? (i := 69) rfl)
theorem q2_70 : (Jvm.Cond.selects "BeanGroves$Tree" ({ cls := "BeanGroves$Tree", name := "howManyNodes", desc := "()I" } : Jvm.MethodName) ({ cls := "BeanGroves$Tree", name := "howManyNodes", desc := "()I" } : Jvm.MethodName)) ∈ lw_tbl := qt2 (List.mem_of_getElem? (i := 70) rfl)
theorem q2_71 : (Jvm.Cond.code ({ cls := "BeanGroves$Tree", name := "howManyNodes", desc := "()I" } : Jvm.MethodName) prog_3_method_22_code (1 : Nat) (Option.some Jvm.ClassFile.FieldType.int)) ∈ lw_tbl := qt2 (List.mem_of_getElem? (i := 71) rfl)
theorem q2_72 : (Jvm.Cond.methodLink "BeanGroves" (162 : Nat) ({ cls := "BeanGroves$Tree", name := "howManyLeaves", desc := "()I" } : Jvm.MethodName)) ∈ lw_tbl := qt2 (List.mem_of_getElem? (i := 72) rfl)
theorem q2_73 : (Jvm.Cond.instanceMethod ({ cls := "BeanGroves$Tree", name := "howManyLeaves", desc := "()I" } : Jvm.MethodName)) ∈ lw_tbl := qt2 (List.mem_of_getElem? (i := 73) rfl)
theorem q2_74 : (Jvm.Cond.selects "BeanGroves$Tree" ({ cls := "BeanGroves$Tree", name := "howManyLeaves", desc := "()I" } : Jvm.MethodName) ({ cls := "BeanGroves$Tree", name := "howManyLeaves", desc := "()I" } : Jvm.MethodName)) ∈ lw_tbl := qt2 (List.mem_of_getElem? (i := 74) rfl)
theorem q2_75 : (Jvm.Cond.code ({ cls := "BeanGroves$Tree", name := "howManyLeaves", desc := "()I" } : Jvm.MethodName) prog_3_method_23_code (3 : Nat) (Option.some Jvm.ClassFile.FieldType.int)) ∈ lw_tbl := qt2 (List.mem_of_getElem? (i := 75) rfl)
theorem q2_76 : (Jvm.Cond.methodLink "BeanGroves" (165 : Nat) ({ cls := "BeanGroves$Tree", name := "deepest", desc := "()I" } : Jvm.MethodName)) ∈ lw_tbl := qt2 (List.mem_of_getElem? (i := 76) rfl)
theorem q2_77 : (Jvm.Cond.instanceMethod ({ cls := "BeanGroves$Tree", name := "deepest", desc := "()I" } : Jvm.MethodName)) ∈ lw_tbl := qt2 (List.mem_of_getElem? (i := 77) rfl)
theorem q2_78 : (Jvm.Cond.selects "BeanGroves$Tree" ({ cls := "BeanGroves$Tree", name := "deepest", desc := "()I" } : Jvm.MethodName) ({ cls := "BeanGroves$Tree", name := "deepest", desc := "()I" } : Jvm.MethodName)) ∈ lw_tbl := qt2 (List.mem_of_getElem? (i := 78) rfl)
theorem q2_79 : (Jvm.Cond.code ({ cls := "BeanGroves$Tree", name := "deepest", desc := "()I" } : Jvm.MethodName) prog_3_method_24_code (3 : Nat) (Option.some Jvm.ClassFile.FieldType.int)) ∈ lw_tbl := qt2 (List.mem_of_getElem? (i := 79) rfl)
theorem q2_80 : (Jvm.Cond.methodLink "BeanGroves$Tree" (89 : Nat) ({ cls := "java/lang/Math", name := "max", desc := "(II)I" } : Jvm.MethodName)) ∈ lw_tbl := qt2 (List.mem_of_getElem? (i := 80) rfl)
theorem q2_81 : (Jvm.Cond.static ({ cls := "java/lang/Math", name := "max", desc := "(II)I" } : Jvm.MethodName)) ∈ lw_tbl := qt2 (List.mem_of_getElem? (i := 81) rfl)
theorem q2_82 : (Jvm.Cond.code ({ cls := "java/lang/Math", name := "max", desc := "(II)I" } : Jvm.MethodName) prog_11_method_65_code (2 : Nat) (Option.some Jvm.ClassFile.FieldType.int)) ∈ lw_tbl := qt2 (List.mem_of_getElem? (i := 82) rfl)
theorem q2_83 : (Jvm.Cond.methodLink "BeanGroves" (168 : Nat) ({ cls := "BeanGroves$Beans", name := "growing", desc := "()I" } : Jvm.MethodName)) ∈ lw_tbl := qt2 (List.mem_of_getElem? (i := 83) rfl)
theorem q2_84 : (Jvm.Cond.methodLink "BeanGroves" (171 : Nat) ({ cls := "BeanGroves$Tree", name := "rightAbout", desc := "(LBeanGroves$Beans;I)I" } : Jvm.MethodName)) ∈ lw_tbl := qt2 (List.mem_of_getElem? (i := 84) rfl)
theorem q2_85 : (Jvm.Cond.instanceMethod ({ cls := "BeanGroves$Tree", name := "rightAbout", desc := "(LBeanGroves$Beans;I)I" } : Jvm.MethodName)) ∈ lw_tbl := qt2 (List.mem_of_getElem? (i := 85) rfl)
theorem q2_86 : (Jvm.Cond.selects "BeanGroves$Tree" ({ cls := "BeanGroves$Tree", name := "rightAbout", desc := "(LBeanGroves$Beans;I)I" } : Jvm.MethodName) ({ cls := "BeanGroves$Tree", name := "rightAbout", desc := "(LBeanGroves$Beans;I)I" } : Jvm.MethodName)) ∈ lw_tbl := qt2 (List.mem_of_getElem? (i := 86) rfl)
theorem q2_87 : (Jvm.Cond.code ({ cls := "BeanGroves$Tree", name := "rightAbout", desc := "(LBeanGroves$Beans;I)I" } : Jvm.MethodName) prog_3_method_11_code (5 : Nat) (Option.some Jvm.ClassFile.FieldType.int)) ∈ lw_tbl := qt2 (List.mem_of_getElem? (i := 87) rfl)
theorem q2_88 : (Jvm.Cond.methodLink "BeanGroves" (174 : Nat) ({ cls := "BeanGroves$Tree", name := "partsTold", desc := "()I" } : Jvm.MethodName)) ∈ lw_tbl := qt2 (List.mem_of_getElem? (i := 88) rfl)
theorem q2_89 : (Jvm.Cond.instanceMethod ({ cls := "BeanGroves$Tree", name := "partsTold", desc := "()I" } : Jvm.MethodName)) ∈ lw_tbl := qt2 (List.mem_of_getElem? (i := 89) rfl)
theorem q2_90 : (Jvm.Cond.selects "BeanGroves$Tree" ({ cls := "BeanGroves$Tree", name := "partsTold", desc := "()I" } : Jvm.MethodName) ({ cls := "BeanGroves$Tree", name := "partsTold", desc := "()I" } : Jvm.MethodName)) ∈ lw_tbl := qt2 (List.mem_of_getElem? (i := 90) rfl)
theorem q2_91 : (Jvm.Cond.code ({ cls := "BeanGroves$Tree", name := "partsTold", desc := "()I" } : Jvm.MethodName) prog_3_method_3_code (1 : Nat) (Option.some Jvm.ClassFile.FieldType.int)) ∈ lw_tbl := qt2 (List.mem_of_getElem? (i := 91) rfl)
theorem q2_92 : (Jvm.Cond.methodLink "BeanGroves" (177 : Nat) ({ cls := "BeanGroves$Tree", name := "leftTold", desc := "()I" } : Jvm.MethodName)) ∈ lw_tbl := qt2 (List.mem_of_getElem? (i := 92) rfl)
theorem q2_93 : (Jvm.Cond.instanceMethod ({ cls := "BeanGroves$Tree", name := "leftTold", desc := "()I" } : Jvm.MethodName)) ∈ lw_tbl := qt2 (List.mem_of_getElem? (i := 93) rfl)
theorem q2_94 : (Jvm.Cond.selects "BeanGroves$Tree" ({ cls := "BeanGroves$Tree", name := "leftTold", desc := "()I" } : Jvm.MethodName) ({ cls := "BeanGroves$Tree", name := "leftTold", desc := "()I" } : Jvm.MethodName)) ∈ lw_tbl := qt2 (List.mem_of_getElem? (i := 94) rfl)
theorem q2_95 : (Jvm.Cond.code ({ cls := "BeanGroves$Tree", name := "leftTold", desc := "()I" } : Jvm.MethodName) prog_3_method_4_code (1 : Nat) (Option.some Jvm.ClassFile.FieldType.int)) ∈ lw_tbl := qt2 (List.mem_of_getElem? (i := 95) rfl)
theorem q2_96 : (Jvm.Cond.methodLink "BeanGrovesLaw" (87 : Nat) ({ cls := "BeanGroves", name := "told", desc := "(II)I" } : Jvm.MethodName)) ∈ lw_tbl := qt2 (List.mem_of_getElem? (i := 96) rfl)
theorem q2_97 : (Jvm.Cond.instanceMethod ({ cls := "BeanGroves", name := "told", desc := "(II)I" } : Jvm.MethodName)) ∈ lw_tbl := qt2 (List.mem_of_getElem? (i := 97) rfl)
theorem q2_98 : (Jvm.Cond.selects "BeanGroves" ({ cls := "BeanGroves", name := "told", desc := "(II)I" } : Jvm.MethodName) ({ cls := "BeanGroves", name := "told", desc := "(II)I" } : Jvm.MethodName)) ∈ lw_tbl := qt2 (List.mem_of_getElem? (i := 98) rfl)
theorem q2_99 : (Jvm.Cond.code ({ cls := "BeanGroves", name := "told", desc := "(II)I" } : Jvm.MethodName) prog_1_method_12_code (3 : Nat) (Option.some Jvm.ClassFile.FieldType.int)) ∈ lw_tbl := qt2 (List.mem_of_getElem? (i := 99) rfl)
theorem q2_100 : (Jvm.Cond.stringRef "BeanGroves" (180 : Nat) "what is not 0 to 4") ∈ lw_tbl := qt2 (List.mem_of_getElem? (i := 100) rfl)
theorem q2_101 : (Jvm.Cond.methodLink "BeanGroves" (182 : Nat) ({ cls := "BeanGroves$Beans", name := "measureOf", desc := "(II)I" } : Jvm.MethodName)) ∈ lw_tbl := qt2 (List.mem_of_getElem? (i := 101) rfl)
theorem q2_102 : (Jvm.Cond.instanceMethod ({ cls := "BeanGroves$Beans", name := "measureOf", desc := "(II)I" } : Jvm.MethodName)) ∈ lw_tbl := qt2 (List.mem_of_getElem? (i := 102) rfl)
theorem q2_103 : (Jvm.Cond.selects "BeanGroves$Beans" ({ cls := "BeanGroves$Beans", name := "measureOf", desc := "(II)I" } : Jvm.MethodName) ({ cls := "BeanGroves$Beans", name := "measureOf", desc := "(II)I" } : Jvm.MethodName)) ∈ lw_tbl := qt2 (List.mem_of_getElem? (i := 103) rfl)
theorem q2_104 : (Jvm.Cond.code ({ cls := "BeanGroves$Beans", name := "measureOf", desc := "(II)I" } : Jvm.MethodName) prog_2_method_5_code (3 : Nat) (Option.some Jvm.ClassFile.FieldType.int)) ∈ lw_tbl := qt2 (List.mem_of_getElem? (i := 104) rfl)
theorem q2_105 : (Jvm.Cond.methodLink "BeanGroves" (75 : Nat) ({ cls := "BeanGroves$Beans", name := "sortOf", desc := "(I)I" } : Jvm.MethodName)) ∈ lw_tbl := qt2 (List.mem_of_getElem? (i := 105) rfl)
theorem q2_106 : (Jvm.Cond.instanceMethod ({ cls := "BeanGroves$Beans", name := "sortOf", desc := "(I)I" } : Jvm.MethodName)) ∈ lw_tbl := qt2 (List.mem_of_getElem? (i := 106) rfl)
theorem q2_107 : (Jvm.Cond.selects "BeanGroves$Beans" ({ cls := "BeanGroves$Beans", name := "sortOf", desc := "(I)I" } : Jvm.MethodName) ({ cls := "BeanGroves$Beans", name := "sortOf", desc := "(I)I" } : Jvm.MethodName)) ∈ lw_tbl := qt2 (List.mem_of_getElem? (i := 107) rfl)
theorem q2_108 : (Jvm.Cond.code ({ cls := "BeanGroves$Beans", name := "sortOf", desc := "(I)I" } : Jvm.MethodName) prog_2_method_6_code (2 : Nat) (Option.some Jvm.ClassFile.FieldType.int)) ∈ lw_tbl := qt2 (List.mem_of_getElem? (i := 108) rfl)
theorem q2_109 : (Jvm.Cond.methodLink "BeanGrovesLaw" (67 : Nat) ({ cls := "BeanGroves", name := "count", desc := "(I)I" } : Jvm.MethodName)) ∈ lw_tbl := qt2 (List.mem_of_getElem? (i := 109) rfl)
theorem q2_110 : (Jvm.Cond.instanceMethod ({ cls := "BeanGroves", name := "count", desc := "(I)I" } : Jvm.MethodName)) ∈ lw_tbl := qt2 (List.mem_of_getElem? (i := 110) rfl)
theorem q2_111 : (Jvm.Cond.selects "BeanGroves" ({ cls := "BeanGroves", name := "count", desc := "(I)I" } : Jvm.MethodName) ({ cls := "BeanGroves", name := "count", desc := "(I)I" } : Jvm.MethodName)) ∈ lw_tbl := qt2 (List.mem_of_getElem? (i := 111) rfl)
theorem q2_112 : (Jvm.Cond.code ({ cls := "BeanGroves", name := "count", desc := "(I)I" } : Jvm.MethodName) prog_1_method_15_code (2 : Nat) (Option.some Jvm.ClassFile.FieldType.int)) ∈ lw_tbl := qt2 (List.mem_of_getElem? (i := 112) rfl)
theorem q2_113 : (Jvm.Cond.methodLink "BeanGroves" (197 : Nat) ({ cls := "BeanGroves", name := "votedRight", desc := "(I)I" } : Jvm.MethodName)) ∈ lw_tbl := qt2 (List.mem_of_getElem? (i := 113) rfl)
theorem q2_114 : (Jvm.Cond.privateMethod ({ cls := "BeanGroves", name := "votedRight", desc := "(I)I" } : Jvm.MethodName)) ∈ lw_tbl := qt2 (List.mem_of_getElem? (i := 114) rfl)
theorem q2_115 : (Jvm.Cond.instanceMethod ({ cls := "BeanGroves", name := "votedRight", desc := "(I)I" } : Jvm.MethodName)) ∈ lw_tbl := qt2 (List.mem_of_getElem? (i := 115) rfl)
theorem q2_116 : (Jvm.Cond.code ({ cls := "BeanGroves", name := "votedRight", desc := "(I)I" } : Jvm.MethodName) prog_1_method_24_code (7 : Nat) (Option.some Jvm.ClassFile.FieldType.int)) ∈ lw_tbl := qt2 (List.mem_of_getElem? (i := 116) rfl)
theorem q2_117 : (Jvm.Cond.methodLink "BeanGroves" (252 : Nat) ({ cls := "BeanGroves", name := "isIn", desc := "(II)Z" } : Jvm.MethodName)) ∈ lw_tbl := qt2 (List.mem_of_getElem? (i := 117) rfl)
theorem q2_118 : (Jvm.Cond.methodLink "BeanGroves" (189 : Nat) ({ cls := "BeanGroves", name := "votedFor", desc := "(III)I" } : Jvm.MethodName)) ∈ lw_tbl := qt2 (List.mem_of_getElem? (i := 118) rfl)
theorem q2_119 : (Jvm.Cond.privateMethod ({ cls := "BeanGroves", name := "votedFor", desc := "(III)I" } : Jvm.MethodName)) ∈ lw_tbl := qt2 (List.mem_of_getElem? (i := 119) rfl)
theorem q2_120 : (Jvm.Cond.instanceMethod ({ cls := "BeanGroves", name := "votedFor", desc := "(III)I" } : Jvm.MethodName)) ∈ lw_tbl := qt2 (List.mem_of_getElem? (i := 120) rfl)
theorem q2_121 : (Jvm.Cond.code ({ cls := "BeanGroves", name := "votedFor", desc := "(III)I" } : Jvm.MethodName) prog_1_method_23_code (9 : Nat) (Option.some Jvm.ClassFile.FieldType.int)) ∈ lw_tbl := qt2 (List.mem_of_getElem? (i := 121) rfl)
theorem q2_122 : (Jvm.Cond.methodLink "BeanGroves" (185 : Nat) ({ cls := "BeanGroves$Tree", name := "sortFor", desc := "(III)I" } : Jvm.MethodName)) ∈ lw_tbl := qt2 (List.mem_of_getElem? (i := 122) rfl)
theorem q2_123 : (Jvm.Cond.instanceMethod ({ cls := "BeanGroves$Tree", name := "sortFor", desc := "(III)I" } : Jvm.MethodName)) ∈ lw_tbl := qt2 (List.mem_of_getElem? (i := 123) rfl)
theorem q2_124 : (Jvm.Cond.selects "BeanGroves$Tree" ({ cls := "BeanGroves$Tree", name := "sortFor", desc := "(III)I" } : Jvm.MethodName) ({ cls := "BeanGroves$Tree", name := "sortFor", desc := "(III)I" } : Jvm.MethodName)) ∈ lw_tbl := qt2 (List.mem_of_getElem? (i := 124) rfl)
theorem q2_125 : (Jvm.Cond.code ({ cls := "BeanGroves$Tree", name := "sortFor", desc := "(III)I" } : Jvm.MethodName) prog_3_method_13_code (9 : Nat) (Option.some Jvm.ClassFile.FieldType.int)) ∈ lw_tbl := qt2 (List.mem_of_getElem? (i := 125) rfl)
theorem q2_126 : (Jvm.Cond.methodLink "BeanGrovesLaw" (64 : Nat) ({ cls := "BeanGroves", name := "gain", desc := "(III)I" } : Jvm.MethodName)) ∈ lw_tbl := qt2 (List.mem_of_getElem? (i := 126) rfl)
theorem q2_127 : (Jvm.Cond.instanceMethod ({ cls := "BeanGroves", name := "gain", desc := "(III)I" } : Jvm.MethodName)) ∈ lw_tbl := qt2 (List.mem_of_getElem? (i := 127) rfl)
theorem q2_128 : (Jvm.Cond.selects "BeanGroves" ({ cls := "BeanGroves", name := "gain", desc := "(III)I" } : Jvm.MethodName) ({ cls := "BeanGroves", name := "gain", desc := "(III)I" } : Jvm.MethodName)) ∈ lw_tbl := qt2 (List.mem_of_getElem? (i := 128) rfl)
theorem q2_129 : (Jvm.Cond.code ({ cls := "BeanGroves", name := "gain", desc := "(III)I" } : Jvm.MethodName) prog_1_method_16_code (8 : Nat) (Option.some Jvm.ClassFile.FieldType.int)) ∈ lw_tbl := qt2 (List.mem_of_getElem? (i := 129) rfl)
theorem q2_130 : (Jvm.Cond.stringRef "BeanGroves" (200 : Nat) "the measure is not 0 to 2") ∈ lw_tbl := qt2 (List.mem_of_getElem? (i := 130) rfl)
theorem q2_131 : (Jvm.Cond.stringRef "BeanGroves" (202 : Nat) "what is not 0 or 1") ∈ lw_tbl := qt2 (List.mem_of_getElem? (i := 131) rfl)
theorem q2_132 : (Jvm.Cond.methodLink "BeanGroves" (204 : Nat) ({ cls := "BeanGroves", name := "isMeasure", desc := "(I)Z" } : Jvm.MethodName)) ∈ lw_tbl := qt2 (List.mem_of_getElem? (i := 132) rfl)
theorem q2_133 : (Jvm.Cond.static ({ cls := "BeanGroves", name := "isMeasure", desc := "(I)Z" } : Jvm.MethodName)) ∈ lw_tbl := qt2 (List.mem_of_getElem? (i := 133) rfl)
theorem q2_134 : (Jvm.Cond.code ({ cls := "BeanGroves", name := "isMeasure", desc := "(I)Z" } : Jvm.MethodName) prog_1_method_27_code (1 : Nat) (Option.some Jvm.ClassFile.FieldType.boolean)) ∈ lw_tbl := qt2 (List.mem_of_getElem? (i := 134) rfl)
theorem q2_135 : (Jvm.Cond.stringRef "BeanGroves" (207 : Nat) "the number is not 0 to 50") ∈ lw_tbl := qt2 (List.mem_of_getElem? (i := 135) rfl)
theorem q2_136 : (Jvm.Cond.methodLink "BeanGroves" (209 : Nat) ({ cls := "BeanGroves$Beans", name := "lowOf", desc := "(II)I" } : Jvm.MethodName)) ∈ lw_tbl := qt2 (List.mem_of_getElem? (i := 136) rfl)
theorem q2_137 : (Jvm.Cond.methodLink "BeanGroves" (212 : Nat) ({ cls := "BeanGroves$Beans", name := "gainAbove", desc := "(II)I" } : Jvm.MethodName)) ∈ lw_tbl := qt2 (List.mem_of_getElem? (i := 137) rfl)
theorem q2_138 : (Jvm.Cond.methodLink "BeanGroves" (215 : Nat) ({ cls := "BeanGroves", name := "gainBelow", desc := "(II)I" } : Jvm.MethodName)) ∈ lw_tbl := qt2 (List.mem_of_getElem? (i := 138) rfl)
theorem q2_139 : (Jvm.Cond.methodLink "BeanGroves" (218 : Nat) ({ cls := "BeanGroves", name := "commonDivisor", desc := "(II)I" } : Jvm.MethodName)) ∈ lw_tbl := qt2 (List.mem_of_getElem? (i := 139) rfl)
theorem q2_140 : (Jvm.Cond.static ({ cls := "BeanGroves", name := "commonDivisor", desc := "(II)I" } : Jvm.MethodName)) ∈ lw_tbl := qt2 (List.mem_of_getElem? (i := 140) rfl)
theorem q2_141 : (Jvm.Cond.code ({ cls := "BeanGroves", name := "commonDivisor", desc := "(II)I" } : Jvm.MethodName) prog_1_method_36_code (6 : Nat) (Option.some Jvm.ClassFile.FieldType.int)) ∈ lw_tbl := qt2 (List.mem_of_getElem? (i := 141) rfl)
theorem q2_142 : (Jvm.Cond.methodLink "BeanGrovesLaw" (53 : Nat) ({ cls := "BeanGroves", name := "best", desc := "(I)I" } : Jvm.MethodName)) ∈ lw_tbl := qt2 (List.mem_of_getElem? (i := 142) rfl)
theorem q2_143 : (Jvm.Cond.instanceMethod ({ cls := "BeanGroves", name := "best", desc := "(I)I" } : Jvm.MethodName)) ∈ lw_tbl := qt2 (List.mem_of_getElem? (i := 143) rfl)
theorem q2_144 : (Jvm.Cond.selects "BeanGroves" ({ cls := "BeanGroves", name := "best", desc := "(I)I" } : Jvm.MethodName) ({ cls := "BeanGroves", name := "best", desc := "(I)I" } : Jvm.MethodName)) ∈ lw_tbl := qt2 (List.mem_of_getElem? (i := 144) rfl)
theorem q2_145 : (Jvm.Cond.code ({ cls := "BeanGroves", name := "best", desc := "(I)I" } : Jvm.MethodName) prog_1_method_17_code (3 : Nat) (Option.some Jvm.ClassFile.FieldType.int)) ∈ lw_tbl := qt2 (List.mem_of_getElem? (i := 145) rfl)
theorem q2_146 : (Jvm.Cond.methodLink "BeanGroves" (221 : Nat) ({ cls := "BeanGroves$Beans", name := "bestCut", desc := "(II)I" } : Jvm.MethodName)) ∈ lw_tbl := qt2 (List.mem_of_getElem? (i := 146) rfl)
theorem q2_147 : (Jvm.Cond.methodLink "BeanGroves" (224 : Nat) ({ cls := "BeanGroves", name := "measureOfCut", desc := "(I)I" } : Jvm.MethodName)) ∈ lw_tbl := qt2 (List.mem_of_getElem? (i := 147) rfl)
theorem q2_148 : (Jvm.Cond.methodLink "BeanGroves" (227 : Nat) ({ cls := "BeanGroves", name := "numberOfCut", desc := "(I)I" } : Jvm.MethodName)) ∈ lw_tbl := qt2 (List.mem_of_getElem? (i := 148) rfl)
theorem q2_149 : (Jvm.Cond.methodLink "BeanGrovesLaw" (60 : Nat) ({ cls := "BeanGroves", name := "would", desc := "(III)I" } : Jvm.MethodName)) ∈ lw_tbl := qt2 (List.mem_of_getElem? (i := 149) rfl)
theorem q2_150 : (Jvm.Cond.instanceMethod ({ cls := "BeanGroves", name := "would", desc := "(III)I" } : Jvm.MethodName)) ∈ lw_tbl := qt2 (List.mem_of_getElem? (i := 150) rfl)
theorem q2_151 : (Jvm.Cond.selects "BeanGroves" ({ cls := "BeanGroves", name := "would", desc := "(III)I" } : Jvm.MethodName) ({ cls := "BeanGroves", name := "would", desc := "(III)I" } : Jvm.MethodName)) ∈ lw_tbl := qt2 (List.mem_of_getElem? (i := 151) rfl)
theorem q2_152 : (Jvm.Cond.code ({ cls := "BeanGroves", name := "would", desc := "(III)I" } : Jvm.MethodName) prog_1_method_18_code (5 : Nat) (Option.some Jvm.ClassFile.FieldType.int)) ∈ lw_tbl := qt2 (List.mem_of_getElem? (i := 152) rfl)
theorem q2_153 : (Jvm.Cond.stringRef "BeanGroves" (230 : Nat) "what is not 0 to 2") ∈ lw_tbl := qt2 (List.mem_of_getElem? (i := 153) rfl)
theorem q2_154 : (Jvm.Cond.methodLink "BeanGrovesLaw" (56 : Nat) ({ cls := "BeanGroves", name := "advise", desc := "()I" } : Jvm.MethodName)) ∈ lw_tbl := qt2 (List.mem_of_getElem? (i := 154) rfl)
theorem q2_155 : (Jvm.Cond.instanceMethod ({ cls := "BeanGroves", name := "advise", desc := "()I" } : Jvm.MethodName)) ∈ lw_tbl := qt2 (List.mem_of_getElem? (i := 155) rfl)
theorem q2_156 : (Jvm.Cond.selects "BeanGroves" ({ cls := "BeanGroves", name := "advise", desc := "()I" } : Jvm.MethodName) ({ cls := "BeanGroves", name := "advise", desc := "()I" } : Jvm.MethodName)) ∈ lw_tbl := qt2 (List.mem_of_getElem? (i := 156) rfl)
theorem q2_157 : (Jvm.Cond.code ({ cls := "BeanGroves", name := "advise", desc := "()I" } : Jvm.MethodName) prog_1_method_19_code (6 : Nat) (Option.some Jvm.ClassFile.FieldType.int)) ∈ lw_tbl := qt2 (List.mem_of_getElem? (i := 157) rfl)
theorem q2_158 : (Jvm.Cond.methodLink "BeanGrovesLaw" (93 : Nat) ({ cls := "BeanGroves", name := "mean", desc := "()D" } : Jvm.MethodName)) ∈ lw_tbl := qt2 (List.mem_of_getElem? (i := 158) rfl)
theorem q2_159 : (Jvm.Cond.instanceMethod ({ cls := "BeanGroves", name := "mean", desc := "()D" } : Jvm.MethodName)) ∈ lw_tbl := qt2 (List.mem_of_getElem? (i := 159) rfl)
theorem q2_160 : (Jvm.Cond.selects "BeanGroves" ({ cls := "BeanGroves", name := "mean", desc := "()D" } : Jvm.MethodName) ({ cls := "BeanGroves", name := "mean", desc := "()D" } : Jvm.MethodName)) ∈ lw_tbl := qt2 (List.mem_of_getElem? (i := 160) rfl)
theorem q2_161 : (Jvm.Cond.code ({ cls := "BeanGroves", name := "mean", desc := "()D" } : Jvm.MethodName) prog_1_method_20_code (3 : Nat) (Option.some Jvm.ClassFile.FieldType.double)) ∈ lw_tbl := qt2 (List.mem_of_getElem? (i := 161) rfl)
theorem q2_162 : (Jvm.Cond.methodLink "BeanGrovesLaw" (49 : Nat) ({ cls := "BeanGroves", name := "digest", desc := "()J" } : Jvm.MethodName)) ∈ lw_tbl := qt2 (List.mem_of_getElem? (i := 162) rfl)
theorem q2_163 : (Jvm.Cond.instanceMethod ({ cls := "BeanGroves", name := "digest", desc := "()J" } : Jvm.MethodName)) ∈ lw_tbl := qt2 (List.mem_of_getElem? (i := 163) rfl)
theorem q2_164 : (Jvm.Cond.selects "BeanGroves" ({ cls := "BeanGroves", name := "digest", desc := "()J" } : Jvm.MethodName) ({ cls := "BeanGroves", name := "digest", desc := "()J" } : Jvm.MethodName)) ∈ lw_tbl := qt2 (List.mem_of_getElem? (i := 164) rfl)
theorem q2_165 : (Jvm.Cond.code ({ cls := "BeanGroves", name := "digest", desc := "()J" } : Jvm.MethodName) prog_1_method_21_code (5 : Nat) (Option.some Jvm.ClassFile.FieldType.long)) ∈ lw_tbl := qt2 (List.mem_of_getElem? (i := 165) rfl)
theorem q2_166 : (Jvm.Cond.constantLong "BeanGroves" (232 : Nat) (1699 : Int64)) ∈ lw_tbl := qt2 (List.mem_of_getElem? (i := 166) rfl)
theorem q2_167 : (Jvm.Cond.constantLong "BeanGroves" (234 : Nat) (31 : Int64)) ∈ lw_tbl := qt2 (List.mem_of_getElem? (i := 167) rfl)
theorem q2_168 : (Jvm.Cond.methodLink "BeanGroves" (236 : Nat) ({ cls := "BeanGroves", name := "count", desc := "(I)I" } : Jvm.MethodName)) ∈ lw_tbl := qt2 (List.mem_of_getElem? (i := 168) rfl)
theorem q2_169 : (Jvm.Cond.methodLink "BeanGroves" (239 : Nat) ({ cls := "BeanGroves", name := "told", desc := "(II)I" } : Jvm.MethodName)) ∈ lw_tbl := qt2 (List.mem_of_getElem? (i := 169) rfl)
theorem q2_170 : (Jvm.Cond.methodLink "BeanGroves" (242 : Nat) ({ cls := "BeanGroves", name := "digestTree", desc := "(JI)J" } : Jvm.MethodName)) ∈ lw_tbl := qt2 (List.mem_of_getElem? (i := 170) rfl)
theorem q2_171 : (Jvm.Cond.privateMethod ({ cls := "BeanGroves", name := "digestTree", desc := "(JI)J" } : Jvm.MethodName)) ∈ lw_tbl := qt2 (List.mem_of_getElem? (i := 171) rfl)
theorem q2_172 : (Jvm.Cond.instanceMethod ({ cls := "BeanGroves", name := "digestTree", desc := "(JI)J" } : Jvm.MethodName)) ∈ lw_tbl := qt2 (List.mem_of_getElem? (i := 172) rfl)
theorem q2_173 : (Jvm.Cond.code ({ cls := "BeanGroves", name := "digestTree", desc := "(JI)J" } : Jvm.MethodName) prog_1_method_22_code (8 : Nat) (Option.some Jvm.ClassFile.FieldType.long)) ∈ lw_tbl := qt2 (List.mem_of_getElem? (i := 173) rfl)
theorem q2_174 : (Jvm.Cond.methodLink "BeanGroves" (246 : Nat) ({ cls := "BeanGroves", name := "about", desc := "(II)I" } : Jvm.MethodName)) ∈ lw_tbl := qt2 (List.mem_of_getElem? (i := 174) rfl)
theorem q2_175 : (Jvm.Cond.methodLink "BeanGroves" (249 : Nat) ({ cls := "BeanGroves", name := "node", desc := "(III)I" } : Jvm.MethodName)) ∈ lw_tbl := qt2 (List.mem_of_getElem? (i := 175) rfl)
theorem q2_176 : (Jvm.Cond.methodLink "BeanGrovesLaw" (15 : Nat) ({ cls := "BeanGrovesLaw", name := "below", desc := "(II)I" } : Jvm.MethodName)) ∈ lw_tbl := qt2 (List.mem_of_getElem? (i := 176) rfl)
theorem q2_177 : (Jvm.Cond.static ({ cls := "BeanGrovesLaw", name := "below", desc := "(II)I" } : Jvm.MethodName)) ∈ lw_tbl := qt2 (List.mem_of_getElem? (i := 177) rfl)
theorem q2_178 : (Jvm.Cond.code ({ cls := "BeanGrovesLaw", name := "below", desc := "(II)I" } : Jvm.MethodName) method_2_code (2 : Nat) (Option.some Jvm.ClassFile.FieldType.int)) ∈ lw_tbl := qt2 (List.mem_of_getElem? (i := 178) rfl)
theorem q2_179 : (Jvm.Cond.constant "BeanGrovesLaw" (7 : Nat) (2147483647 : Int32)) ∈ lw_tbl := qt2 (List.mem_of_getElem? (i := 179) rfl)
theorem q2_180 : (Jvm.Cond.methodLink "BeanGrovesLaw" (9 : Nat) ({ cls := "BeanGrovesLaw", name := "cell", desc := "([II)I" } : Jvm.MethodName)) ∈ lw_tbl := qt2 (List.mem_of_getElem? (i := 180) rfl)
theorem q2_181 : (Jvm.Cond.static ({ cls := "BeanGrovesLaw", name := "cell", desc := "([II)I" } : Jvm.MethodName)) ∈ lw_tbl := qt2 (List.mem_of_getElem? (i := 181) rfl)
theorem q2_182 : (Jvm.Cond.code ({ cls := "BeanGrovesLaw", name := "cell", desc := "([II)I" } : Jvm.MethodName) method_3_code (2 : Nat) (Option.some Jvm.ClassFile.FieldType.int)) ∈ lw_tbl := qt2 (List.mem_of_getElem? (i := 182) rfl)
theorem q2_183 : (Jvm.Cond.constant "BeanGrovesLaw" (8 : Nat) (461243603 : Int32)) ∈ lw_tbl := qt2 (List.mem_of_getElem? (i := 183) rfl)
theorem q2_184 : (Jvm.Cond.methodLink "BeanGrovesLaw" (38 : Nat) ({ cls := "BeanGrovesLaw", name := "sorter", desc := "([I)LBeanGroves;" } : Jvm.MethodName)) ∈ lw_tbl := qt2 (List.mem_of_getElem? (i := 184) rfl)
theorem q2_185 : (Jvm.Cond.static ({ cls := "BeanGrovesLaw", name := "sorter", desc := "([I)LBeanGroves;" } : Jvm.MethodName)) ∈ lw_tbl := qt2 (List.mem_of_getElem? (i := 185) rfl)
theorem q2_186 : (Jvm.Cond.code ({ cls := "BeanGrovesLaw", name := "sorter", desc := "([I)LBeanGroves;" } : Jvm.MethodName) method_6_code (4 : Nat) (Option.some (Jvm.ClassFile.FieldType.object "BeanGroves"))) ∈ lw_tbl := qt2 (List.mem_of_getElem? (i := 186) rfl)
theorem q2_187 : (Jvm.Cond.classLink "BeanGrovesLaw" (19 : Nat) "BeanGroves") ∈ lw_tbl := qt2 (List.mem_of_getElem? (i := 187) rfl)
theorem q2_188 : (Jvm.Cond.methodLink "BeanGrovesLaw" (21 : Nat) ({ cls := "BeanGroves", name := "<init>", desc := "()V" } : Jvm.MethodName)) ∈ lw_tbl := qt2 (List.mem_of_getElem? (i := 188) rfl)
theorem q2_189 : (Jvm.Cond.instanceMethod ({ cls := "BeanGroves", name := "<init>", desc := "()V" } : Jvm.MethodName)) ∈ lw_tbl := qt2 (List.mem_of_getElem? (i := 189) rfl)
theorem q2_190 : (Jvm.Cond.code ({ cls := "BeanGroves", name := "<init>", desc := "()V" } : Jvm.MethodName) prog_1_method_1_code (2 : Nat) (Option.none : Option Jvm.ClassFile.FieldType)) ∈ lw_tbl := qt2 (List.mem_of_getElem? (i := 190) rfl)
theorem q2_191 : (Jvm.Cond.methodLink "BeanGroves" (3 : Nat) ({ cls := "java/lang/Object", name := "<init>", desc := "()V" } : Jvm.MethodName)) ∈ lw_tbl := qt2 (List.mem_of_getElem? (i := 191) rfl)
theorem q2_192 : (Jvm.Cond.classLink "BeanGroves" (9 : Nat) "BeanGroves$Beans") ∈ lw_tbl := qt2 (List.mem_of_getElem? (i := 192) rfl)
theorem q2_193 : (Jvm.Cond.methodLinkNest "BeanGroves" (11 : Nat) ({ cls := "BeanGroves$Beans", name := "<init>", desc := "()V" } : Jvm.MethodName) "BeanGroves") ∈ lw_tbl := qt2 (List.mem_of_getElem? (i := 193) rfl)
theorem q2_194 : (Jvm.Cond.instanceMethod ({ cls := "BeanGroves$Beans", name := "<init>", desc := "()V" } : Jvm.MethodName)) ∈ lw_tbl := qt2 (List.mem_of_getElem? (i := 194) rfl)
theorem q2_195 : (Jvm.Cond.code ({ cls := "BeanGroves$Beans", name := "<init>", desc := "()V" } : Jvm.MethodName) prog_2_method_1_code (1 : Nat) (Option.none : Option Jvm.ClassFile.FieldType)) ∈ lw_tbl := qt2 (List.mem_of_getElem? (i := 195) rfl)
theorem q2_196 : (Jvm.Cond.methodLink "BeanGroves$Beans" (3 : Nat) ({ cls := "java/lang/Object", name := "<init>", desc := "()V" } : Jvm.MethodName)) ∈ lw_tbl := qt2 (List.mem_of_getElem? (i := 196) rfl)
theorem q2_197 : (Jvm.Cond.classLink "BeanGroves$Beans" (9 : Nat) "[[I") ∈ lw_tbl := qt2 (List.mem_of_getElem? (i := 197) rfl)
theorem q2_198 : (Jvm.Cond.arrayOver (Jvm.ClassFile.FieldType.array Jvm.ClassFile.FieldType.int)) ∈ lw_tbl := qt2 (List.mem_of_getElem? (i := 198) rfl)
theorem q2_199 : (Jvm.Cond.fieldLink "BeanGroves$Beans" (11 : Nat) "BeanGroves$Beans" "measures" "[[I") ∈ lw_tbl := qt2 (List.mem_of_getElem? (i := 199) rfl)
theorem q2_200 : (Jvm.Cond.fieldLink "BeanGroves$Beans" (16 : Nat) "BeanGroves$Beans" "sorts" "[I") ∈ lw_tbl := qt2 (List.mem_of_getElem? (i := 200) rfl)
theorem q2_201 : (Jvm.Cond.fieldLink "BeanGroves$Beans" (20 : Nat) "BeanGroves$Beans" "ofSort" "[I") ∈ lw_tbl := qt2 (List.mem_of_getElem? (i := 201) rfl)
theorem q2_202 : (Jvm.Cond.fieldLink "BeanGroves$Beans" (23 : Nat) "BeanGroves$Beans" "lowByCut" "[I") ∈ lw_tbl := qt2 (List.mem_of_getElem? (i := 202) rfl)
theorem q2_203 : (Jvm.Cond.fieldLink "BeanGroves$Beans" (26 : Nat) "BeanGroves$Beans" "many" "I") ∈ lw_tbl := qt2 (List.mem_of_getElem? (i := 203) rfl)
theorem q2_204 : (Jvm.Cond.fieldLink "BeanGroves$Beans" (30 : Nat) "BeanGroves$Beans" "checks" "I") ∈ lw_tbl := qt2 (List.mem_of_getElem? (i := 204) rfl)
theorem q2_205 : (Jvm.Cond.laysFinal "BeanGroves$Beans" "BeanGroves$Beans" "measures" "[[I") ∈ lw_tbl := qt2 (List.mem_of_getElem? (i := 205) rfl)
theorem q2_206 : (Jvm.Cond.soleField "BeanGroves$Beans" "measures") ∈ lw_tbl := qt2 (List.mem_of_getElem? (i := 206) rfl)
theorem q2_207 : (Jvm.Cond.laysFinal "BeanGroves$Beans" "BeanGroves$Beans" "sorts" "[I") ∈ lw_tbl := qt2 (List.mem_of_getElem? (i := 207) rfl)
theorem q2_208 : (Jvm.Cond.soleField "BeanGroves$Beans" "sorts") ∈ lw_tbl := qt2 (List.mem_of_getElem? (i := 208) rfl)
theorem q2_209 : (Jvm.Cond.laysFinal "BeanGroves$Beans" "BeanGroves$Beans" "ofSort" "[I") ∈ lw_tbl := qt2 (List.mem_of_getElem? (i := 209) rfl)
theorem q2_210 : (Jvm.Cond.soleField "BeanGroves$Beans" "ofSort") ∈ lw_tbl := qt2 (List.mem_of_getElem? (i := 210) rfl)
theorem q2_211 : (Jvm.Cond.laysFinal "BeanGroves$Beans" "BeanGroves$Beans" "lowByCut" "[I") ∈ lw_tbl := qt2 (List.mem_of_getElem? (i := 211) rfl)
theorem q2_212 : (Jvm.Cond.soleField "BeanGroves$Beans" "lowByCut") ∈ lw_tbl := qt2 (List.mem_of_getElem? (i := 212) rfl)
theorem q2_213 : (Jvm.Cond.lays "BeanGroves$Beans" "BeanGroves$Beans" "many" "I") ∈ lw_tbl := qt2 (List.mem_of_getElem? (i := 213) rfl)
theorem q2_214 : (Jvm.Cond.soleField "BeanGroves$Beans" "many") ∈ lw_tbl := qt2 (List.mem_of_getElem? (i := 214) rfl)
theorem q2_215 : (Jvm.Cond.lays "BeanGroves$Beans" "BeanGroves$Beans" "checks" "I") ∈ lw_tbl := qt2 (List.mem_of_getElem? (i := 215) rfl)
theorem q2_216 : (Jvm.Cond.soleField "BeanGroves$Beans" "checks") ∈ lw_tbl := qt2 (List.mem_of_getElem? (i := 216) rfl)
theorem q2_217 : (Jvm.Cond.superclass "BeanGroves$Beans" "java/lang/Object") ∈ lw_tbl := qt2 (List.mem_of_getElem? (i := 217) rfl)
theorem q2_218 : (Jvm.Cond.arrayClass Jvm.ClassFile.FieldType.int) ∈ lw_tbl := qt2 (List.mem_of_getElem? (i := 218) rfl)
theorem q2_219 : (Jvm.Cond.classLink "BeanGroves" (16 : Nat) "BeanGroves$Tree") ∈ lw_tbl := qt2 (List.mem_of_getElem? (i := 219) rfl)
theorem q2_220 : (Jvm.Cond.arrayOver (Jvm.ClassFile.FieldType.object "BeanGroves$Tree")) ∈ lw_tbl := qt2 (List.mem_of_getElem? (i := 220) rfl)
theorem q2_221 : (Jvm.Cond.methodLinkNest "BeanGroves" (22 : Nat) ({ cls := "BeanGroves$Tree", name := "<init>", desc := "()V" } : Jvm.MethodName) "BeanGroves") ∈ lw_tbl := qt2 (List.mem_of_getElem? (i := 221) rfl)
theorem q2_222 : (Jvm.Cond.instanceMethod ({ cls := "BeanGroves$Tree", name := "<init>", desc := "()V" } : Jvm.MethodName)) ∈ lw_tbl := qt2 (List.mem_of_getElem? (i := 222) rfl)
theorem q2_223 : (Jvm.Cond.code ({ cls := "BeanGroves$Tree", name := "<init>", desc := "()V" } : Jvm.MethodName) prog_3_method_1_code (1 : Nat) (Option.none : Option Jvm.ClassFile.FieldType)) ∈ lw_tbl := qt2 (List.mem_of_getElem? (i := 223) rfl)
theorem q2_224 : (Jvm.Cond.methodLink "BeanGroves$Tree" (3 : Nat) ({ cls := "java/lang/Object", name := "<init>", desc := "()V" } : Jvm.MethodName)) ∈ lw_tbl := qt2 (List.mem_of_getElem? (i := 224) rfl)
theorem q2_225 : (Jvm.Cond.fieldLink "BeanGroves$Tree" (9 : Nat) "BeanGroves$Tree" "cuts" "[I") ∈ lw_tbl := qt2 (List.mem_of_getElem? (i := 225) rfl)
theorem q2_226 : (Jvm.Cond.fieldLink "BeanGroves$Tree" (15 : Nat) "BeanGroves$Tree" "sorts" "[I") ∈ lw_tbl := qt2 (List.mem_of_getElem? (i := 226) rfl)
theorem q2_227 : (Jvm.Cond.fieldLink "BeanGroves$Tree" (18 : Nat) "BeanGroves$Tree" "grown" "[I") ∈ lw_tbl := qt2 (List.mem_of_getElem? (i := 227) rfl)
theorem q2_228 : (Jvm.Cond.fieldLink "BeanGroves$Tree" (21 : Nat) "BeanGroves$Tree" "depths" "[I") ∈ lw_tbl := qt2 (List.mem_of_getElem? (i := 228) rfl)
theorem q2_229 : (Jvm.Cond.fieldLink "BeanGroves$Tree" (24 : Nat) "BeanGroves$Tree" "comes" "[I") ∈ lw_tbl := qt2 (List.mem_of_getElem? (i := 229) rfl)
theorem q2_230 : (Jvm.Cond.fieldLink "BeanGroves$Tree" (27 : Nat) "BeanGroves$Tree" "rights" "[I") ∈ lw_tbl := qt2 (List.mem_of_getElem? (i := 230) rfl)
theorem q2_231 : (Jvm.Cond.fieldLink "BeanGroves$Tree" (30 : Nat) "BeanGroves$Tree" "nodes" "I") ∈ lw_tbl := qt2 (List.mem_of_getElem? (i := 231) rfl)
theorem q2_232 : (Jvm.Cond.fieldLink "BeanGroves$Tree" (34 : Nat) "BeanGroves$Tree" "parts" "I") ∈ lw_tbl := qt2 (List.mem_of_getElem? (i := 232) rfl)
theorem q2_233 : (Jvm.Cond.fieldLink "BeanGroves$Tree" (37 : Nat) "BeanGroves$Tree" "left" "I") ∈ lw_tbl := qt2 (List.mem_of_getElem? (i := 233) rfl)
theorem q2_234 : (Jvm.Cond.laysFinal "BeanGroves$Tree" "BeanGroves$Tree" "cuts" "[I") ∈ lw_tbl := qt2 (List.mem_of_getElem? (i := 234) rfl)
theorem q2_235 : (Jvm.Cond.soleField "BeanGroves$Tree" "cuts") ∈ lw_tbl := qt2 (List.mem_of_getElem? (i := 235) rfl)
theorem q2_236 : (Jvm.Cond.laysFinal "BeanGroves$Tree" "BeanGroves$Tree" "sorts" "[I") ∈ lw_tbl := qt2 (List.mem_of_getElem? (i := 236) rfl)
theorem q2_237 : (Jvm.Cond.soleField "BeanGroves$Tree" "sorts") ∈ lw_tbl := qt2 (List.mem_of_getElem? (i := 237) rfl)
theorem q2_238 : (Jvm.Cond.laysFinal "BeanGroves$Tree" "BeanGroves$Tree" "grown" "[I") ∈ lw_tbl := qt2 (List.mem_of_getElem? (i := 238) rfl)
theorem q2_239 : (Jvm.Cond.soleField "BeanGroves$Tree" "grown") ∈ lw_tbl := qt2 (List.mem_of_getElem? (i := 239) rfl)
theorem q3_0 : (Jvm.Cond.laysFinal "BeanGroves$Tree" "BeanGroves$Tree" "depths" "[I") ∈ lw_tbl := qt3 (List.mem_of_getElem? (i := 0) rfl)
theorem q3_1 : (Jvm.Cond.soleField "BeanGroves$Tree" "depths") ∈ lw_tbl := qt3 (List.mem_of_getElem? (i := 1) rfl)
theorem q3_2 : (Jvm.Cond.laysFinal "BeanGroves$Tree" "BeanGroves$Tree" "comes" "[I") ∈ lw_tbl := qt3 (List.mem_of_getElem? (i := 2) rfl)
theorem q3_3 : (Jvm.Cond.soleField "BeanGroves$Tree" "comes") ∈ lw_tbl := qt3 (List.mem_of_getElem? (i := 3) rfl)
theorem q3_4 : (Jvm.Cond.laysFinal "BeanGroves$Tree" "BeanGroves$Tree" "rights" "[I") ∈ lw_tbl := qt3 (List.mem_of_getElem? (i := 4) rfl)
theorem q3_5 : (Jvm.Cond.soleField "BeanGroves$Tree" "rights") ∈ lw_tbl := qt3 (List.mem_of_getElem? (i := 5) rfl)
theorem q3_6 : (Jvm.Cond.lays "BeanGroves$Tree" "BeanGroves$Tree" "nodes" "I") ∈ lw_tbl := qt3 (List.mem_of_getElem? (i := 6) rfl)
theorem q3_7 : (Jvm.Cond.soleField "BeanGroves$Tree" "nodes") ∈ lw_tbl := qt3 (List.mem_of_getElem? (i := 7) rfl)
theorem q3_8 : (Jvm.Cond.lays "BeanGroves$Tree" "BeanGroves$Tree" "parts" "I") ∈ lw_tbl := qt3 (List.mem_of_getElem? (i := 8) rfl)
theorem q3_9 : (Jvm.Cond.soleField "BeanGroves$Tree" "parts") ∈ lw_tbl := qt3 (List.mem_of_getElem? (i := 9) rfl)
theorem q3_10 : (Jvm.Cond.lays "BeanGroves$Tree" "BeanGroves$Tree" "left" "I") ∈ lw_tbl := qt3 (List.mem_of_getElem? (i := 10) rfl)
theorem q3_11 : (Jvm.Cond.soleField "BeanGroves$Tree" "left") ∈ lw_tbl := qt3 (List.mem_of_getElem? (i := 11) rfl)
theorem q3_12 : (Jvm.Cond.superclass "BeanGroves$Tree" "java/lang/Object") ∈ lw_tbl := qt3 (List.mem_of_getElem? (i := 12) rfl)
theorem q3_13 : (Jvm.Cond.fieldLink "BeanGroves" (12 : Nat) "BeanGroves" "beans" "LBeanGroves$Beans;") ∈ lw_tbl := qt3 (List.mem_of_getElem? (i := 13) rfl)
theorem q3_14 : (Jvm.Cond.fieldLink "BeanGroves" (18 : Nat) "BeanGroves" "trees" "[LBeanGroves$Tree;") ∈ lw_tbl := qt3 (List.mem_of_getElem? (i := 14) rfl)
theorem q3_15 : (Jvm.Cond.fieldLink "BeanGroves" (23 : Nat) "BeanGroves" "trial" "LBeanGroves$Tree;") ∈ lw_tbl := qt3 (List.mem_of_getElem? (i := 15) rfl)
theorem q3_16 : (Jvm.Cond.fieldLink "BeanGroves" (27 : Nat) "BeanGroves" "standing" "I") ∈ lw_tbl := qt3 (List.mem_of_getElem? (i := 16) rfl)
theorem q3_17 : (Jvm.Cond.fieldLink "BeanGroves" (31 : Nat) "BeanGroves" "depth" "I") ∈ lw_tbl := qt3 (List.mem_of_getElem? (i := 17) rfl)
theorem q3_18 : (Jvm.Cond.fieldLink "BeanGroves" (34 : Nat) "BeanGroves" "least" "I") ∈ lw_tbl := qt3 (List.mem_of_getElem? (i := 18) rfl)
theorem q3_19 : (Jvm.Cond.laysFinal "BeanGroves" "BeanGroves" "beans" "LBeanGroves$Beans;") ∈ lw_tbl := qt3 (List.mem_of_getElem? (i := 19) rfl)
theorem q3_20 : (Jvm.Cond.soleField "BeanGroves" "beans") ∈ lw_tbl := qt3 (List.mem_of_getElem? (i := 20) rfl)
theorem q3_21 : (Jvm.Cond.laysFinal "BeanGroves" "BeanGroves" "trees" "[LBeanGroves$Tree;") ∈ lw_tbl := qt3 (List.mem_of_getElem? (i := 21) rfl)
theorem q3_22 : (Jvm.Cond.soleField "BeanGroves" "trees") ∈ lw_tbl := qt3 (List.mem_of_getElem? (i := 22) rfl)
theorem q3_23 : (Jvm.Cond.laysFinal "BeanGroves" "BeanGroves" "trial" "LBeanGroves$Tree;") ∈ lw_tbl := qt3 (List.mem_of_getElem? (i := 23) rfl)
theorem q3_24 : (Jvm.Cond.soleField "BeanGroves" "trial") ∈ lw_tbl := qt3 (List.mem_of_getElem? (i := 24) rfl)
theorem q3_25 : (Jvm.Cond.lays "BeanGroves" "BeanGroves" "standing" "I") ∈ lw_tbl := qt3 (List.mem_of_getElem? (i := 25) rfl)
theorem q3_26 : (Jvm.Cond.soleField "BeanGroves" "standing") ∈ lw_tbl := qt3 (List.mem_of_getElem? (i := 26) rfl)
theorem q3_27 : (Jvm.Cond.lays "BeanGroves" "BeanGroves" "depth" "I") ∈ lw_tbl := qt3 (List.mem_of_getElem? (i := 27) rfl)
theorem q3_28 : (Jvm.Cond.soleField "BeanGroves" "depth") ∈ lw_tbl := qt3 (List.mem_of_getElem? (i := 28) rfl)
theorem q3_29 : (Jvm.Cond.lays "BeanGroves" "BeanGroves" "least" "I") ∈ lw_tbl := qt3 (List.mem_of_getElem? (i := 29) rfl)
theorem q3_30 : (Jvm.Cond.soleField "BeanGroves" "least") ∈ lw_tbl := qt3 (List.mem_of_getElem? (i := 30) rfl)
theorem q3_31 : (Jvm.Cond.superclass "BeanGroves" "java/lang/Object") ∈ lw_tbl := qt3 (List.mem_of_getElem? (i := 31) rfl)
theorem q3_32 : (Jvm.Cond.methodLink "BeanGrovesLaw" (22 : Nat) ({ cls := "BeanGrovesLaw", name := "beansOf", desc := "([I)I" } : Jvm.MethodName)) ∈ lw_tbl := qt3 (List.mem_of_getElem? (i := 32) rfl)
theorem q3_33 : (Jvm.Cond.static ({ cls := "BeanGrovesLaw", name := "beansOf", desc := "([I)I" } : Jvm.MethodName)) ∈ lw_tbl := qt3 (List.mem_of_getElem? (i := 33) rfl)
theorem q3_34 : (Jvm.Cond.code ({ cls := "BeanGrovesLaw", name := "beansOf", desc := "([I)I" } : Jvm.MethodName) method_4_code (1 : Nat) (Option.some Jvm.ClassFile.FieldType.int)) ∈ lw_tbl := qt3 (List.mem_of_getElem? (i := 34) rfl)
theorem q3_35 : (Jvm.Cond.methodLink "BeanGrovesLaw" (26 : Nat) ({ cls := "BeanGrovesLaw", name := "beanOf", desc := "([II)[I" } : Jvm.MethodName)) ∈ lw_tbl := qt3 (List.mem_of_getElem? (i := 35) rfl)
theorem q3_36 : (Jvm.Cond.static ({ cls := "BeanGrovesLaw", name := "beanOf", desc := "([II)[I" } : Jvm.MethodName)) ∈ lw_tbl := qt3 (List.mem_of_getElem? (i := 36) rfl)
theorem q3_37 : (Jvm.Cond.code ({ cls := "BeanGrovesLaw", name := "beanOf", desc := "([II)[I" } : Jvm.MethodName) method_5_code (6 : Nat) (Option.some (Jvm.ClassFile.FieldType.array Jvm.ClassFile.FieldType.int))) ∈ lw_tbl := qt3 (List.mem_of_getElem? (i := 37) rfl)
theorem q3_38 : (Jvm.Cond.methodLink "BeanGrovesLaw" (30 : Nat) ({ cls := "BeanGroves", name := "bean", desc := "(IIII)I" } : Jvm.MethodName)) ∈ lw_tbl := qt3 (List.mem_of_getElem? (i := 38) rfl)
theorem q3_39 : (Jvm.Cond.instanceMethod ({ cls := "BeanGroves", name := "bean", desc := "(IIII)I" } : Jvm.MethodName)) ∈ lw_tbl := qt3 (List.mem_of_getElem? (i := 39) rfl)
theorem q3_40 : (Jvm.Cond.selects "BeanGroves" ({ cls := "BeanGroves", name := "bean", desc := "(IIII)I" } : Jvm.MethodName) ({ cls := "BeanGroves", name := "bean", desc := "(IIII)I" } : Jvm.MethodName)) ∈ lw_tbl := qt3 (List.mem_of_getElem? (i := 40) rfl)
theorem q3_41 : (Jvm.Cond.code ({ cls := "BeanGroves", name := "bean", desc := "(IIII)I" } : Jvm.MethodName) prog_1_method_2_code (5 : Nat) (Option.some Jvm.ClassFile.FieldType.int)) ∈ lw_tbl := qt3 (List.mem_of_getElem? (i := 41) rfl)
theorem q3_42 : (Jvm.Cond.methodLink "BeanGroves" (37 : Nat) ({ cls := "BeanGroves", name := "areMeasures", desc := "(III)Z" } : Jvm.MethodName)) ∈ lw_tbl := qt3 (List.mem_of_getElem? (i := 42) rfl)
theorem q3_43 : (Jvm.Cond.static ({ cls := "BeanGroves", name := "areMeasures", desc := "(III)Z" } : Jvm.MethodName)) ∈ lw_tbl := qt3 (List.mem_of_getElem? (i := 43) rfl)
theorem q3_44 : (Jvm.Cond.code ({ cls := "BeanGroves", name := "areMeasures", desc := "(III)Z" } : Jvm.MethodName) prog_1_method_28_code (3 : Nat) (Option.some Jvm.ClassFile.FieldType.boolean)) ∈ lw_tbl := qt3 (List.mem_of_getElem? (i := 44) rfl)
theorem q3_45 : (Jvm.Cond.stringRef "BeanGroves" (43 : Nat) "a measure is not 0 to 50") ∈ lw_tbl := qt3 (List.mem_of_getElem? (i := 45) rfl)
theorem q3_46 : (Jvm.Cond.methodLink "BeanGroves" (48 : Nat) ({ cls := "BeanGroves", name := "isSort", desc := "(I)Z" } : Jvm.MethodName)) ∈ lw_tbl := qt3 (List.mem_of_getElem? (i := 46) rfl)
theorem q3_47 : (Jvm.Cond.static ({ cls := "BeanGroves", name := "isSort", desc := "(I)Z" } : Jvm.MethodName)) ∈ lw_tbl := qt3 (List.mem_of_getElem? (i := 47) rfl)
theorem q3_48 : (Jvm.Cond.code ({ cls := "BeanGroves", name := "isSort", desc := "(I)Z" } : Jvm.MethodName) prog_1_method_29_code (1 : Nat) (Option.some Jvm.ClassFile.FieldType.boolean)) ∈ lw_tbl := qt3 (List.mem_of_getElem? (i := 48) rfl)
theorem q3_49 : (Jvm.Cond.stringRef "BeanGroves" (52 : Nat) "the sort is not 0 to 2") ∈ lw_tbl := qt3 (List.mem_of_getElem? (i := 49) rfl)
theorem q3_50 : (Jvm.Cond.stringRef "BeanGroves" (60 : Nat) "there are 20 beans") ∈ lw_tbl := qt3 (List.mem_of_getElem? (i := 50) rfl)
theorem q3_51 : (Jvm.Cond.methodLink "BeanGroves" (63 : Nat) ({ cls := "BeanGroves$Beans", name := "add", desc := "(IIII)I" } : Jvm.MethodName)) ∈ lw_tbl := qt3 (List.mem_of_getElem? (i := 51) rfl)
theorem q3_52 : (Jvm.Cond.instanceMethod ({ cls := "BeanGroves$Beans", name := "add", desc := "(IIII)I" } : Jvm.MethodName)) ∈ lw_tbl := qt3 (List.mem_of_getElem? (i := 52) rfl)
theorem q3_53 : (Jvm.Cond.selects "BeanGroves$Beans" ({ cls := "BeanGroves$Beans", name := "add", desc := "(IIII)I" } : Jvm.MethodName) ({ cls := "BeanGroves$Beans", name := "add", desc := "(IIII)I" } : Jvm.MethodName)) ∈ lw_tbl := qt3 (List.mem_of_getElem? (i := 53) rfl)
theorem q3_54 : (Jvm.Cond.code ({ cls := "BeanGroves$Beans", name := "add", desc := "(IIII)I" } : Jvm.MethodName) prog_2_method_3_code (6 : Nat) (Option.some Jvm.ClassFile.FieldType.int)) ∈ lw_tbl := qt3 (List.mem_of_getElem? (i := 54) rfl)
theorem q3_55 : (Jvm.Cond.methodLink "BeanGroves$Beans" (33 : Nat) ({ cls := "BeanGroves$Beans", name := "addMeasure", desc := "(III)V" } : Jvm.MethodName)) ∈ lw_tbl := qt3 (List.mem_of_getElem? (i := 55) rfl)
theorem q3_56 : (Jvm.Cond.privateMethod ({ cls := "BeanGroves$Beans", name := "addMeasure", desc := "(III)V" } : Jvm.MethodName)) ∈ lw_tbl := qt3 (List.mem_of_getElem? (i := 56) rfl)
theorem q3_57 : (Jvm.Cond.instanceMethod ({ cls := "BeanGroves$Beans", name := "addMeasure", desc := "(III)V" } : Jvm.MethodName)) ∈ lw_tbl := qt3 (List.mem_of_getElem? (i := 57) rfl)
theorem q3_58 : (Jvm.Cond.code ({ cls := "BeanGroves$Beans", name := "addMeasure", desc := "(III)V" } : Jvm.MethodName) prog_2_method_4_code (5 : Nat) (Option.none : Option Jvm.ClassFile.FieldType)) ∈ lw_tbl := qt3 (List.mem_of_getElem? (i := 58) rfl)
theorem q3_59 : (Jvm.Cond.methodLink "BeanGrovesLaw" (76 : Nat) ({ cls := "java/lang/Math", name := "min", desc := "(II)I" } : Jvm.MethodName)) ∈ lw_tbl := qt3 (List.mem_of_getElem? (i := 59) rfl)
theorem q3_60 : (Jvm.Cond.static ({ cls := "java/lang/Math", name := "min", desc := "(II)I" } : Jvm.MethodName)) ∈ lw_tbl := qt3 (List.mem_of_getElem? (i := 60) rfl)
theorem q3_61 : (Jvm.Cond.code ({ cls := "java/lang/Math", name := "min", desc := "(II)I" } : Jvm.MethodName) prog_11_method_69_code (2 : Nat) (Option.some Jvm.ClassFile.FieldType.int)) ∈ lw_tbl := qt3 (List.mem_of_getElem? (i := 61) rfl)
theorem q3_62 : (Jvm.Cond.sameMethod "java/lang/Throwable" "java/lang/Throwable" "fillInStackTrace" "(I)Ljava/lang/Throwable;") ∈ lw_tbl := qt3 (List.mem_of_getElem? (i := 62) rfl)
theorem qs1_0 : Cond.selects "BeanGroves" (⟨"BeanGroves", "isBean", "(I)Z"⟩ : MethodName) (⟨"BeanGroves", "isBean", "(I)Z"⟩ : MethodName) ∈ lw_tbl := List.mem_append_left _ (List.mem_map.mpr ⟨((⟨"BeanGroves", "isBean", "(I)Z"⟩ : MethodName), 6), (show _ ∈ lw_privs from List.mem_of_getElem? (i := 0) rfl), rfl⟩)
theorem qs1_1 : Cond.selects "java/lang/Throwable" (⟨"java/lang/Throwable", "fillInStackTrace", "(I)Ljava/lang/Throwable;"⟩ : MethodName) (⟨"java/lang/Throwable", "fillInStackTrace", "(I)Ljava/lang/Throwable;"⟩ : MethodName) ∈ lw_tbl := List.mem_append_left _ (List.mem_map.mpr ⟨((⟨"java/lang/Throwable", "fillInStackTrace", "(I)Ljava/lang/Throwable;"⟩ : MethodName), 6), (show _ ∈ lw_privs from List.mem_of_getElem? (i := 1) rfl), rfl⟩)
theorem qs1_2 : Cond.selects "BeanGroves$Tree" (⟨"BeanGroves$Tree", "putLeaf", "(LBeanGroves$Beans;III)V"⟩ : MethodName) (⟨"BeanGroves$Tree", "putLeaf", "(LBeanGroves$Beans;III)V"⟩ : MethodName) ∈ lw_tbl := List.mem_append_left _ (List.mem_map.mpr ⟨((⟨"BeanGroves$Tree", "putLeaf", "(LBeanGroves$Beans;III)V"⟩ : MethodName), 9), (show _ ∈ lw_privs from List.mem_of_getElem? (i := 2) rfl), rfl⟩)
theorem qs1_3 : Cond.selects "BeanGroves$Beans" (⟨"BeanGroves$Beans", "squares", "(I)I"⟩ : MethodName) (⟨"BeanGroves$Beans", "squares", "(I)I"⟩ : MethodName) ∈ lw_tbl := List.mem_append_left _ (List.mem_map.mpr ⟨((⟨"BeanGroves$Beans", "squares", "(I)I"⟩ : MethodName), 6), (show _ ∈ lw_privs from List.mem_of_getElem? (i := 3) rfl), rfl⟩)
theorem qs1_4 : Cond.selects "BeanGroves$Tree" (⟨"BeanGroves$Tree", "fork", "(LBeanGroves$Beans;II)V"⟩ : MethodName) (⟨"BeanGroves$Tree", "fork", "(LBeanGroves$Beans;II)V"⟩ : MethodName) ∈ lw_tbl := List.mem_append_left _ (List.mem_map.mpr ⟨((⟨"BeanGroves$Tree", "fork", "(LBeanGroves$Beans;II)V"⟩ : MethodName), 9), (show _ ∈ lw_privs from List.mem_of_getElem? (i := 4) rfl), rfl⟩)
theorem qs1_5 : Cond.selects "BeanGroves$Tree" (⟨"BeanGroves$Tree", "copyNode", "(II)V"⟩ : MethodName) (⟨"BeanGroves$Tree", "copyNode", "(II)V"⟩ : MethodName) ∈ lw_tbl := List.mem_append_left _ (List.mem_map.mpr ⟨((⟨"BeanGroves$Tree", "copyNode", "(II)V"⟩ : MethodName), 9), (show _ ∈ lw_privs from List.mem_of_getElem? (i := 5) rfl), rfl⟩)
theorem qs1_6 : Cond.selects "BeanGroves" (⟨"BeanGroves", "isTree", "(I)Z"⟩ : MethodName) (⟨"BeanGroves", "isTree", "(I)Z"⟩ : MethodName) ∈ lw_tbl := List.mem_append_left _ (List.mem_map.mpr ⟨((⟨"BeanGroves", "isTree", "(I)Z"⟩ : MethodName), 6), (show _ ∈ lw_privs from List.mem_of_getElem? (i := 6) rfl), rfl⟩)
theorem qs1_7 : Cond.selects "BeanGroves$Tree" (⟨"BeanGroves$Tree", "send", "(LBeanGroves$Beans;I)V"⟩ : MethodName) (⟨"BeanGroves$Tree", "send", "(LBeanGroves$Beans;I)V"⟩ : MethodName) ∈ lw_tbl := List.mem_append_left _ (List.mem_map.mpr ⟨((⟨"BeanGroves$Tree", "send", "(LBeanGroves$Beans;I)V"⟩ : MethodName), 9), (show _ ∈ lw_privs from List.mem_of_getElem? (i := 7) rfl), rfl⟩)
theorem qs1_8 : Cond.selects "BeanGroves$Tree" (⟨"BeanGroves$Tree", "dropNodesBelowLeaves", "()V"⟩ : MethodName) (⟨"BeanGroves$Tree", "dropNodesBelowLeaves", "()V"⟩ : MethodName) ∈ lw_tbl := List.mem_append_left _ (List.mem_map.mpr ⟨((⟨"BeanGroves$Tree", "dropNodesBelowLeaves", "()V"⟩ : MethodName), 9), (show _ ∈ lw_privs from List.mem_of_getElem? (i := 8) rfl), rfl⟩)
theorem qs1_9 : Cond.selects "BeanGroves" (⟨"BeanGroves", "votedRight", "(I)I"⟩ : MethodName) (⟨"BeanGroves", "votedRight", "(I)I"⟩ : MethodName) ∈ lw_tbl := List.mem_append_left _ (List.mem_map.mpr ⟨((⟨"BeanGroves", "votedRight", "(I)I"⟩ : MethodName), 6), (show _ ∈ lw_privs from List.mem_of_getElem? (i := 9) rfl), rfl⟩)
theorem qs1_10 : Cond.selects "BeanGroves" (⟨"BeanGroves", "votedFor", "(III)I"⟩ : MethodName) (⟨"BeanGroves", "votedFor", "(III)I"⟩ : MethodName) ∈ lw_tbl := List.mem_append_left _ (List.mem_map.mpr ⟨((⟨"BeanGroves", "votedFor", "(III)I"⟩ : MethodName), 6), (show _ ∈ lw_privs from List.mem_of_getElem? (i := 10) rfl), rfl⟩)
theorem qs1_11 : Cond.selects "BeanGroves" (⟨"BeanGroves", "digestTree", "(JI)J"⟩ : MethodName) (⟨"BeanGroves", "digestTree", "(JI)J"⟩ : MethodName) ∈ lw_tbl := List.mem_append_left _ (List.mem_map.mpr ⟨((⟨"BeanGroves", "digestTree", "(JI)J"⟩ : MethodName), 6), (show _ ∈ lw_privs from List.mem_of_getElem? (i := 11) rfl), rfl⟩)
theorem qs1_12 : Cond.selects "BeanGroves$Beans" (⟨"BeanGroves$Beans", "addMeasure", "(III)V"⟩ : MethodName) (⟨"BeanGroves$Beans", "addMeasure", "(III)V"⟩ : MethodName) ∈ lw_tbl := List.mem_append_left _ (List.mem_map.mpr ⟨((⟨"BeanGroves$Beans", "addMeasure", "(III)V"⟩ : MethodName), 6), (show _ ∈ lw_privs from List.mem_of_getElem? (i := 12) rfl), rfl⟩)
end
section
/-! The judgement of this proof: J says of a method's body, from an instruction on, over a SMALL heap (cells by their own numbers: 0 the script, 1 and on the cells made since the law's start), that it comes to its end with Q. -/
abbrev MT : Type := MethodName × ByteArray × Nat × Option FieldType × List (Nat × Nat × Nat × Nat)
abbrev MC : Type := (Nat × vp_A) ⊕ (Nat × List Value)
abbrev MH : Type := Nat × (Nat → Option MC)
abbrev RT : Type := Option Value ⊕ String
/-- launch, start, its arguments, the script's cell, length, values, the tables' numbers, the array kinds' numbers -/
abbrev GT : Type := Launch × State × Array Value × Nat × Nat × (Nat → Int32) × va_G × (Nat → ClassId)
def g_s (g : GT) : State := g.2.1
def g_b (g : GT) : Nat := g.2.2.2.1
def g_L (g : GT) : Nat := g.2.2.2.2.1
def g_x (g : GT) : Nat → Int32 := g.2.2.2.2.2.1
def g_D (g : GT) : va_G := g.2.2.2.2.2.2.1
def g_c (g : GT) : Nat → ClassId := g.2.2.2.2.2.2.2
def g_n (g : GT) : Nat := (g_s g).heap.size
def ad (g : GT) (i : Nat) : Nat := if i = 0 then g_b g else g_n g + i - 1
def em (g : GT) (v : Value) : Value := match v with
  | .ref i => .ref (ad g i)
  | v => v
def emA (g : GT) (a : vp_A) : vp_A := match a with
  | (n, .inr (.inr (.inr (.inr f)))) => (n, .inr (.inr (.inr (.inr (fun j => (f j).map (ad g))))))
  | a => a
def emC (g : GT) (c : MC) : va_E := match c with
  | .inl (t, a) => .inl (g_c g t, emA g a)
  | .inr (ci, fs) => .inr (ci, fs.map (em g))
abbrev aI (n : Nat) (f : Nat → Int32) : MC := .inl (0, n, .inl f)
abbrev aJ (n : Nat) (f : Nat → Int64) : MC := .inl (1, n, .inr (.inl f))
abbrev aG (n : Nat) (f : Nat → Option Nat) : MC := .inl (2, n, .inr (.inr (.inr (.inr f))))
abbrev aT (n : Nat) (f : Nat → Option Nat) : MC := .inl (3, n, .inr (.inr (.inr (.inr f))))
abbrev oB (ci : Nat) (fs : List Value) : MC := .inr (ci, fs)
def hset (f : Nat → Option MC) (i : Nat) (c : MC) : Nat → Option MC := fun j => if j = i then some c else f j
theorem hset_s {f : Nat → Option MC} {i : Nat} {c : MC} : hset f i c i = some c := by simp [hset]
theorem hset_n {f : Nat → Option MC} {i j : Nat} {c : MC} (h : j ≠ i) : hset f i c j = f j := by simp [hset, h]
def aty : Nat → FieldType := fun t => match t with
  | 0 => .int
  | 1 => .int
  | 2 => .array .int
  | _ => .object "BeanGroves$Tree"
def Rel (g : GT) (h : MH) (H : Heap) : Prop :=
  1 ≤ h.1 ∧ H.size + 1 = g_n g + h.1 ∧ ∀ i c, h.2 i = some c → 1 ≤ i ∧ i < h.1 ∧ va_at (g_D g) vwCl (ad g i, emC g c) H
/-- what is known of the law's start -/
def OkG (g : GT) : Prop :=
  g.1.flags = flags0 ∧ (∀ w ∈ lw_tbl, w.before g.2.2.1 (g_s g) = true) ∧ va_K (g_D g) vwCl [] (g_s g) ∧
  (∀ t, t < 4 → ArrOfT (g_s g) (g_c g t) (aty t) ∧ (g_s g).vm.findClass ("[" ++ (aty t).toString) = some (g_c g t)) ∧
  va_X (g_b g) (g_L g) (g_x g) (g_s g) (g_s g).heap ∧ g_b g < g_n g ∧ g_L g ≤ 260 ∧ True
def JC (g : GT) (d ca sa : Nat) (M : MT) (lv : List (Nat × Value)) (h : MH) (p : Program) (R : Room) (s : State) (m : MethodId) (meth : Method) (c : Code) (H : Heap) (locs : List Loc) (cells slots mc ms : Nat) (ls : Array Slot) : Prop :=
  (p.tables.exec = Jvm.exec ∧ c.code = M.2.1 ∧ c.maxLocals = M.2.2.1 ∧ meth.sig.returnType = M.2.2.2.1 ∧ meth.locks = false ∧ meth.name = M.1.name ∧ s.vm.findClass M.1.cls = some m.cls ∧ c.exceptionTable.toList.map (fun x => (x.startPc, x.endPc, x.handlerPc, x.catchType)) = M.2.2.2.2) ∧
  ((g_s g).WarmedH s.vm ∧ g_n g ≤ s.heap.size ∧ ∀ q, q < g_n g → s.heap[q]? = (g_s g).heap[q]?) ∧
  ((∀ q, q < g_n g → H[q]? = (g_s g).heap[q]?) ∧ s.heap.size ≤ H.size ∧ Rel g h H ∧ ∀ q ∈ locs, g_n g ≤ q.base) ∧
  (d + 4 ≤ R.frames ∧ 35 * d + 150 ≤ R.locals ∧ cells + ca ≤ mc ∧ slots + sa ≤ ms ∧ mc ≤ R.cells ∧ ms ≤ R.slots) ∧
  lv_has ls M.2.2.1 (lv.map (fun q => (q.1, em g q.2)))
def Qo (g : GT) (Q : RT → MH → Prop) : Array Value → State → Outcome → State → Prop := fun _ st o t =>
  (∃ (v : Option Value) (h : MH), o = .returned (v.map (em g)) ∧ Q (.inl v) h ∧ Rel g h t.heap ∧ ∀ q, q < g_n g → t.heap[q]? = (g_s g).heap[q]?) ∧ st.heap.size ≤ t.heap.size
def Xo (g : GT) (Q : RT → MH → Prop) : String → State → State → Prop := fun E st t =>
  (∃ h : MH, Q (.inr E) h ∧ Rel g h t.heap ∧ ∀ q, q < g_n g → t.heap[q]? = (g_s g).heap[q]?) ∧ st.heap.size ≤ t.heap.size
def J (g : GT) (d ca sa : Nat) (M : MT) (pc : Nat) (lv : List (Nat × Value)) (st : List Value) (h : MH) (Q : RT → MH → Prop) : Prop :=
  OkG g → ∀ (p : Program) (e : Env) (R : Room) (s : State) (m : MethodId) (args : Array Value) (below : List Frame) (meth : Method) (c : Code) (H : Heap) (locs : List Loc) (cells slots mc ms : Nat) (ls : Array Slot),
    JC g d ca sa M lv h p R s m meth c H locs cells slots mc ms ls →
    W p g.1 e R s m args below meth c H locs cells slots (vx_MQ below (Qo g Q) (Xo g Q) args s mc ms (fun q => g_n g ≤ q)) (F0 m pc ls (st.map (em g)))
theorem em_cat (g : GT) (v : Value) : (em g v).category = v.category := by cases v <;> rfl
theorem em_lv {g : GT} {ls : Array Slot} {n i : Nat} {v : Value} {lv : List (Nat × Value)} (h : lv_has ls n (lv.map (fun q => (q.1, em g q.2)))) (hk : lv.lookup i = some v) : ls[i]? = some (.val (em g v)) := by
  refine h.2.2 (i, em g v) (List.mem_map.mpr ⟨(i, v), ?_, rfl⟩)
  clear h
  induction lv with
  | nil => simp at hk
  | cons a l ih =>
    obtain ⟨a1, a2⟩ := a
    rw [List.lookup_cons] at hk
    cases hb : i == a1 with
    | true =>
      rw [hb] at hk
      cases hk
      have : i = a1 := by simpa using hb
      subst this
      exact List.mem_cons_self
    | false =>
      rw [hb] at hk
      exact List.mem_cons_of_mem _ (ih hk)
def ls1 (i : Nat) (v : Value) (lv : List (Nat × Value)) : List (Nat × Value) := (i, v) :: lv.filter (fun q => !(q.1 == i) && !(q.1 + 1 == i && q.2.category == 2))
def ls2 (i : Nat) (v : Value) (lv : List (Nat × Value)) : List (Nat × Value) := (i, v) :: lv.filter (fun q => !(q.1 == i) && (!(q.1 == i + 1) && !(q.1 + 1 == i && q.2.category == 2)))
theorem em_ls1 (g : GT) (i : Nat) (v : Value) (lv : List (Nat × Value)) : (i, em g v) :: (lv.map (fun q => (q.1, em g q.2))).filter (fun q => !(q.1 == i) && !(q.1 + 1 == i && q.2.category == 2)) = (ls1 i v lv).map (fun q => (q.1, em g q.2)) := by
  unfold ls1
  rw [List.map_cons, List.filter_map]
  congr 2
  apply List.filter_congr
  intro a _
  simp only [Function.comp_apply, em_cat]
theorem em_ls2 (g : GT) (i : Nat) (v : Value) (lv : List (Nat × Value)) : (i, em g v) :: (lv.map (fun q => (q.1, em g q.2))).filter (fun q => !(q.1 == i) && (!(q.1 == i + 1) && !(q.1 + 1 == i && q.2.category == 2))) = (ls2 i v lv).map (fun q => (q.1, em g q.2)) := by
  unfold ls2
  rw [List.map_cons, List.filter_map]
  congr 2
  apply List.filter_congr
  intro a _
  simp only [Function.comp_apply, em_cat]
theorem JC.lv {g : GT} {d ca sa : Nat} {M : MT} {lv lv' : List (Nat × Value)} {h : MH} {p : Program} {R : Room} {s : State} {m : MethodId} {meth : Method} {c : Code} {H : Heap} {locs : List Loc} {cells slots mc ms : Nat} {ls ls' : Array Slot} (C : JC g d ca sa M lv h p R s m meth c H locs cells slots mc ms ls) (hl : lv_has ls' M.2.2.1 (lv'.map (fun q => (q.1, em g q.2)))) : JC g d ca sa M lv' h p R s m meth c H locs cells slots mc ms ls' := ⟨C.1, C.2.1, C.2.2.1, C.2.2.2.1, hl⟩
section JR
variable {g : GT} {d ca sa : Nat} {M : MT} {pc : Nat} {lv lv' : List (Nat × Value)} {st : List Value} {h : MH} {Q Q' : RT → MH → Prop}
theorem J_mono (hq : ∀ r h, Q r h → Q' r h) (k : J g d ca sa M pc lv st h Q) : J g d ca sa M pc lv st h Q' := by
  intro hg p e R s m args below meth c H locs cells slots mc ms ls C T hT X
  obtain ⟨t, a1, o, b1, b2, b3⟩ := k hg p e R s m args below meth c H locs cells slots mc ms ls C T hT X
  refine ⟨t, a1, o, b1, b2, ?_⟩
  rcases b3 with ⟨⟨⟨v, h', c1, c2, c3⟩, c4⟩, b4⟩ | ⟨q, c0, E, ce, L, ⟨⟨h', c2, c3⟩, c4⟩, c5⟩
  · exact Or.inl ⟨⟨⟨v, h', c1, hq _ _ c2, c3⟩, c4⟩, b4⟩
  · exact Or.inr ⟨q, c0, E, ce, L, ⟨⟨h', hq _ _ c2, c3⟩, c4⟩, c5⟩
theorem J_bud {ca' sa' : Nat} (h1 : ca' ≤ ca) (h2 : sa' ≤ sa) (k : J g d ca' sa' M pc lv st h Q) : J g d ca sa M pc lv st h Q := by
  intro hg p e R s m args below meth c H locs cells slots mc ms ls C
  refine k hg p e R s m args below meth c H locs cells slots mc ms ls ⟨C.1, C.2.1, C.2.2.1, ?_, C.2.2.2.2⟩
  obtain ⟨a1, a2, a3, a4, a5, a6⟩ := C.2.2.2.1
  exact ⟨a1, a2, by omega, by omega, a5, a6⟩
theorem J_eq {pc' : Nat} {st' : List Value} (h1 : pc = pc') (h2 : lv = lv') (h3 : st = st') (k : J g d ca sa M pc' lv' st' h Q) : J g d ca sa M pc lv st h Q := by subst h1; subst h2; subst h3; exact k

theorem J_iconst {n : Int} {v : Int32} (hd : decode M.2.1 pc = .ok (.iconst n, 1)) (hv : Int32.ofInt n = v) (k : J g d ca sa M (pc + 1) lv (.int v :: st) h Q) : J g d ca sa M pc lv (st) h Q := by
  intro hg p e R s m args below meth c H locs cells slots mc ms ls C
  exact lv_iconst C.1.1 C.1.2.1 hd hv (k hg p e R s m args below meth c H locs cells slots mc ms ls C)
theorem J_bipush {n : Int} {v : Int32} (hd : decode M.2.1 pc = .ok (.bipush n, 2)) (hv : (Int8.ofInt n).toInt32 = v) (k : J g d ca sa M (pc + 2) lv (.int v :: st) h Q) : J g d ca sa M pc lv (st) h Q := by
  intro hg p e R s m args below meth c H locs cells slots mc ms ls C
  exact lv_bipush C.1.1 C.1.2.1 hd hv (k hg p e R s m args below meth c H locs cells slots mc ms ls C)
theorem J_sipush {n : Int} {v : Int32} (hd : decode M.2.1 pc = .ok (.sipush n, 3)) (hv : (Int16.ofInt n).toInt32 = v) (k : J g d ca sa M (pc + 3) lv (.int v :: st) h Q) : J g d ca sa M pc lv (st) h Q := by
  intro hg p e R s m args below meth c H locs cells slots mc ms ls C
  exact lv_sipush C.1.1 C.1.2.1 hd hv (k hg p e R s m args below meth c H locs cells slots mc ms ls C)
theorem J_lconst {n : Fin 2} {v : Int64} (hd : decode M.2.1 pc = .ok (.lconst n, 1)) (hv : Int64.ofNat (n : Nat) = v) (k : J g d ca sa M (pc + 1) lv (.long v :: st) h Q) : J g d ca sa M pc lv (st) h Q := by
  intro hg p e R s m args below meth c H locs cells slots mc ms ls C
  exact lv_lconst C.1.1 C.1.2.1 hd hv (k hg p e R s m args below meth c H locs cells slots mc ms ls C)
theorem J_dconst0  (hd : decode M.2.1 pc = .ok (.dconst 0, 1)) (k : J g d ca sa M (pc + 1) lv (.double FP.dconst0 :: st) h Q) : J g d ca sa M pc lv (st) h Q := by
  intro hg p e R s m args below meth c H locs cells slots mc ms ls C
  exact lv_dconst0 C.1.1 C.1.2.1 hd (k hg p e R s m args below meth c H locs cells slots mc ms ls C)
theorem J_iload_n {k0 : Fin 4} {i : Nat} {x : Int32} (hd : decode M.2.1 pc = .ok (.iload_n k0, 1)) (hi : (k0 : Nat) = i) (hl : lv.lookup i = some (.int x)) (k : J g d ca sa M (pc + 1) lv (.int x :: st) h Q) : J g d ca sa M pc lv (st) h Q := by
  intro hg p e R s m args below meth c H locs cells slots mc ms ls C
  exact lv_iload_n C.1.1 C.1.2.1 hd hi (em_lv C.2.2.2.2 hl) (k hg p e R s m args below meth c H locs cells slots mc ms ls C)
theorem J_iload {i : Nat} {x : Int32} (hd : decode M.2.1 pc = .ok (.iload i, 2)) (hl : lv.lookup i = some (.int x)) (k : J g d ca sa M (pc + 2) lv (.int x :: st) h Q) : J g d ca sa M pc lv (st) h Q := by
  intro hg p e R s m args below meth c H locs cells slots mc ms ls C
  exact lv_iload C.1.1 C.1.2.1 hd (em_lv C.2.2.2.2 hl) (k hg p e R s m args below meth c H locs cells slots mc ms ls C)
theorem J_lload_n {k0 : Fin 4} {i : Nat} {x : Int64} (hd : decode M.2.1 pc = .ok (.lload_n k0, 1)) (hi : (k0 : Nat) = i) (hl : lv.lookup i = some (.long x)) (k : J g d ca sa M (pc + 1) lv (.long x :: st) h Q) : J g d ca sa M pc lv (st) h Q := by
  intro hg p e R s m args below meth c H locs cells slots mc ms ls C
  exact lv_lload_n C.1.1 C.1.2.1 hd hi (em_lv C.2.2.2.2 hl) (k hg p e R s m args below meth c H locs cells slots mc ms ls C)
theorem J_lload {i : Nat} {x : Int64} (hd : decode M.2.1 pc = .ok (.lload i, 2)) (hl : lv.lookup i = some (.long x)) (k : J g d ca sa M (pc + 2) lv (.long x :: st) h Q) : J g d ca sa M pc lv (st) h Q := by
  intro hg p e R s m args below meth c H locs cells slots mc ms ls C
  exact lv_lload C.1.1 C.1.2.1 hd (em_lv C.2.2.2.2 hl) (k hg p e R s m args below meth c H locs cells slots mc ms ls C)
theorem J_dload_n {k0 : Fin 4} {i : Nat} {x : UInt64} (hd : decode M.2.1 pc = .ok (.dload_n k0, 1)) (hi : (k0 : Nat) = i) (hl : lv.lookup i = some (.double x)) (k : J g d ca sa M (pc + 1) lv (.double x :: st) h Q) : J g d ca sa M pc lv (st) h Q := by
  intro hg p e R s m args below meth c H locs cells slots mc ms ls C
  exact lv_dload_n C.1.1 C.1.2.1 hd hi (em_lv C.2.2.2.2 hl) (k hg p e R s m args below meth c H locs cells slots mc ms ls C)
theorem J_dload {i : Nat} {x : UInt64} (hd : decode M.2.1 pc = .ok (.dload i, 2)) (hl : lv.lookup i = some (.double x)) (k : J g d ca sa M (pc + 2) lv (.double x :: st) h Q) : J g d ca sa M pc lv (st) h Q := by
  intro hg p e R s m args below meth c H locs cells slots mc ms ls C
  exact lv_dload C.1.1 C.1.2.1 hd (em_lv C.2.2.2.2 hl) (k hg p e R s m args below meth c H locs cells slots mc ms ls C)
theorem J_aload_n {k0 : Fin 4} {i x : Nat} (hd : decode M.2.1 pc = .ok (.aload_n k0, 1)) (hi : (k0 : Nat) = i) (hl : lv.lookup i = some (.ref x)) (k : J g d ca sa M (pc + 1) lv (.ref x :: st) h Q) : J g d ca sa M pc lv (st) h Q := by
  intro hg p e R s m args below meth c H locs cells slots mc ms ls C
  exact lv_aload_n C.1.1 C.1.2.1 hd hi (em_lv C.2.2.2.2 hl) (k hg p e R s m args below meth c H locs cells slots mc ms ls C)
theorem J_aload {i x : Nat} (hd : decode M.2.1 pc = .ok (.aload i, 2)) (hl : lv.lookup i = some (.ref x)) (k : J g d ca sa M (pc + 2) lv (.ref x :: st) h Q) : J g d ca sa M pc lv (st) h Q := by
  intro hg p e R s m args below meth c H locs cells slots mc ms ls C
  exact lv_aload C.1.1 C.1.2.1 hd (em_lv C.2.2.2.2 hl) (k hg p e R s m args below meth c H locs cells slots mc ms ls C)
theorem J_istore_n {k0 : Fin 4} {i : Nat} {x : Int32} (hd : decode M.2.1 pc = .ok (.istore_n k0, 1)) (hi : (k0 : Nat) = i) (hn : i < M.2.2.1) (hl : ls1 i (.int x) lv = lv') (k : J g d ca sa M (pc + 1) lv' st h Q) : J g d ca sa M pc lv (.int x :: st) h Q := by
  intro hg p e R s m args below meth c H locs cells slots mc ms ls C
  subst hl
  exact lv_istore_n C.1.1 C.1.2.1 hd hi C.2.2.2.2 hn (em_ls1 g i (.int x) lv) (fun ls' hl' => k hg p e R s m args below meth c H locs cells slots mc ms ls' (C.lv hl'))
theorem J_istore {i : Nat} {x : Int32} (hd : decode M.2.1 pc = .ok (.istore i, 2)) (hn : i < M.2.2.1) (hl : ls1 i (.int x) lv = lv') (k : J g d ca sa M (pc + 2) lv' st h Q) : J g d ca sa M pc lv (.int x :: st) h Q := by
  intro hg p e R s m args below meth c H locs cells slots mc ms ls C
  subst hl
  exact lv_istore C.1.1 C.1.2.1 hd C.2.2.2.2 hn (em_ls1 g i (.int x) lv) (fun ls' hl' => k hg p e R s m args below meth c H locs cells slots mc ms ls' (C.lv hl'))
theorem J_lstore_n {k0 : Fin 4} {i : Nat} {x : Int64} (hd : decode M.2.1 pc = .ok (.lstore_n k0, 1)) (hi : (k0 : Nat) = i) (hn : i + 1 < M.2.2.1) (hl : ls2 i (.long x) lv = lv') (k : J g d ca sa M (pc + 1) lv' st h Q) : J g d ca sa M pc lv (.long x :: st) h Q := by
  intro hg p e R s m args below meth c H locs cells slots mc ms ls C
  subst hl
  exact lv_lstore_n C.1.1 C.1.2.1 hd hi C.2.2.2.2 hn (em_ls2 g i (.long x) lv) (fun ls' hl' => k hg p e R s m args below meth c H locs cells slots mc ms ls' (C.lv hl'))
theorem J_lstore {i : Nat} {x : Int64} (hd : decode M.2.1 pc = .ok (.lstore i, 2)) (hn : i + 1 < M.2.2.1) (hl : ls2 i (.long x) lv = lv') (k : J g d ca sa M (pc + 2) lv' st h Q) : J g d ca sa M pc lv (.long x :: st) h Q := by
  intro hg p e R s m args below meth c H locs cells slots mc ms ls C
  subst hl
  exact lv_lstore C.1.1 C.1.2.1 hd C.2.2.2.2 hn (em_ls2 g i (.long x) lv) (fun ls' hl' => k hg p e R s m args below meth c H locs cells slots mc ms ls' (C.lv hl'))
theorem J_dstore_n {k0 : Fin 4} {i : Nat} {x : UInt64} (hd : decode M.2.1 pc = .ok (.dstore_n k0, 1)) (hi : (k0 : Nat) = i) (hn : i + 1 < M.2.2.1) (hl : ls2 i (.double x) lv = lv') (k : J g d ca sa M (pc + 1) lv' st h Q) : J g d ca sa M pc lv (.double x :: st) h Q := by
  intro hg p e R s m args below meth c H locs cells slots mc ms ls C
  subst hl
  exact lv_dstore_n C.1.1 C.1.2.1 hd hi C.2.2.2.2 hn (em_ls2 g i (.double x) lv) (fun ls' hl' => k hg p e R s m args below meth c H locs cells slots mc ms ls' (C.lv hl'))
theorem J_dstore {i : Nat} {x : UInt64} (hd : decode M.2.1 pc = .ok (.dstore i, 2)) (hn : i + 1 < M.2.2.1) (hl : ls2 i (.double x) lv = lv') (k : J g d ca sa M (pc + 2) lv' st h Q) : J g d ca sa M pc lv (.double x :: st) h Q := by
  intro hg p e R s m args below meth c H locs cells slots mc ms ls C
  subst hl
  exact lv_dstore C.1.1 C.1.2.1 hd C.2.2.2.2 hn (em_ls2 g i (.double x) lv) (fun ls' hl' => k hg p e R s m args below meth c H locs cells slots mc ms ls' (C.lv hl'))
theorem J_astore_n {k0 : Fin 4} {i : Nat} {x : Nat} (hd : decode M.2.1 pc = .ok (.astore_n k0, 1)) (hi : (k0 : Nat) = i) (hn : i < M.2.2.1) (hl : ls1 i (.ref x) lv = lv') (k : J g d ca sa M (pc + 1) lv' st h Q) : J g d ca sa M pc lv (.ref x :: st) h Q := by
  intro hg p e R s m args below meth c H locs cells slots mc ms ls C
  subst hl
  exact lv_astore_n C.1.1 C.1.2.1 hd hi C.2.2.2.2 hn (em_ls1 g i (.ref x) lv) (fun ls' hl' => k hg p e R s m args below meth c H locs cells slots mc ms ls' (C.lv hl'))
theorem J_astore {i : Nat} {x : Nat} (hd : decode M.2.1 pc = .ok (.astore i, 2)) (hn : i < M.2.2.1) (hl : ls1 i (.ref x) lv = lv') (k : J g d ca sa M (pc + 2) lv' st h Q) : J g d ca sa M pc lv (.ref x :: st) h Q := by
  intro hg p e R s m args below meth c H locs cells slots mc ms ls C
  subst hl
  exact lv_astore C.1.1 C.1.2.1 hd C.2.2.2.2 hn (em_ls1 g i (.ref x) lv) (fun ls' hl' => k hg p e R s m args below meth c H locs cells slots mc ms ls' (C.lv hl'))
theorem J_iinc {i : Nat} {n : Int} {x v : Int32} (hd : decode M.2.1 pc = .ok (.iinc i n, 3)) (hk : lv.lookup i = some (.int x)) (hv : x + Int32.ofInt n = v) (hn : i < M.2.2.1) (hl : ls1 i (.int v) lv = lv') (k : J g d ca sa M (pc + 3) lv' st h Q) : J g d ca sa M pc lv st h Q := by
  intro hg p e R s m args below meth c H locs cells slots mc ms ls C
  subst hl
  subst hv
  obtain ⟨ls', e', h'⟩ := lv_store1 (v := .int (x + Int32.ofInt n)) C.2.2.2.2 hn rfl
  have hg9 := em_lv C.2.2.2.2 hk
  have hg9 : ls[i]? = some (.val (.int x)) := hg9
  have k9 := k hg p e R s m args below meth c H locs cells slots mc ms ls' (C.lv (by rw [← em_ls1]; exact h'))
  intro T hT X
  obtain ⟨t, a, b⟩ := k9 T hT X
  refine ⟨t, ?_, b⟩
  have hx := C.1.1
  have hb := C.1.2.1
  jvm_step X.here [X.here.top, ↓top_set X.here.top, hx, hb, hd, hg9, e']
  exact a
theorem J_iadd {x y : Int32} (hd : decode M.2.1 pc = .ok (.iadd, 1)) (k : J g d ca sa M (pc + 1) lv (.int (x + y) :: st) h Q) : J g d ca sa M pc lv (.int y :: .int x :: st) h Q := by
  intro hg p e R s m args below meth c H locs cells slots mc ms ls C
  exact lv_iadd C.1.1 C.1.2.1 hd (k hg p e R s m args below meth c H locs cells slots mc ms ls C)
theorem J_isub {x y : Int32} (hd : decode M.2.1 pc = .ok (.isub, 1)) (k : J g d ca sa M (pc + 1) lv (.int (x - y) :: st) h Q) : J g d ca sa M pc lv (.int y :: .int x :: st) h Q := by
  intro hg p e R s m args below meth c H locs cells slots mc ms ls C
  exact lv_isub C.1.1 C.1.2.1 hd (k hg p e R s m args below meth c H locs cells slots mc ms ls C)
theorem J_imul {x y : Int32} (hd : decode M.2.1 pc = .ok (.imul, 1)) (k : J g d ca sa M (pc + 1) lv (.int (x * y) :: st) h Q) : J g d ca sa M pc lv (.int y :: .int x :: st) h Q := by
  intro hg p e R s m args below meth c H locs cells slots mc ms ls C
  exact lv_imul C.1.1 C.1.2.1 hd (k hg p e R s m args below meth c H locs cells slots mc ms ls C)
theorem J_iand {x y : Int32} (hd : decode M.2.1 pc = .ok (.iand, 1)) (k : J g d ca sa M (pc + 1) lv (.int (x &&& y) :: st) h Q) : J g d ca sa M pc lv (.int y :: .int x :: st) h Q := by
  intro hg p e R s m args below meth c H locs cells slots mc ms ls C
  exact lv_iand C.1.1 C.1.2.1 hd (k hg p e R s m args below meth c H locs cells slots mc ms ls C)
theorem J_ior {x y : Int32} (hd : decode M.2.1 pc = .ok (.ior, 1)) (k : J g d ca sa M (pc + 1) lv (.int (x ||| y) :: st) h Q) : J g d ca sa M pc lv (.int y :: .int x :: st) h Q := by
  intro hg p e R s m args below meth c H locs cells slots mc ms ls C
  exact lv_ior C.1.1 C.1.2.1 hd (k hg p e R s m args below meth c H locs cells slots mc ms ls C)
theorem J_ixor {x y : Int32} (hd : decode M.2.1 pc = .ok (.ixor, 1)) (k : J g d ca sa M (pc + 1) lv (.int (x ^^^ y) :: st) h Q) : J g d ca sa M pc lv (.int y :: .int x :: st) h Q := by
  intro hg p e R s m args below meth c H locs cells slots mc ms ls C
  exact lv_ixor C.1.1 C.1.2.1 hd (k hg p e R s m args below meth c H locs cells slots mc ms ls C)
theorem J_ishl {x y : Int32} (hd : decode M.2.1 pc = .ok (.ishl, 1)) (k : J g d ca sa M (pc + 1) lv (.int (x <<< (y &&& 31)) :: st) h Q) : J g d ca sa M pc lv (.int y :: .int x :: st) h Q := by
  intro hg p e R s m args below meth c H locs cells slots mc ms ls C
  exact lv_ishl C.1.1 C.1.2.1 hd (k hg p e R s m args below meth c H locs cells slots mc ms ls C)
theorem J_ishr {x y : Int32} (hd : decode M.2.1 pc = .ok (.ishr, 1)) (k : J g d ca sa M (pc + 1) lv (.int (x >>> (y &&& 31)) :: st) h Q) : J g d ca sa M pc lv (.int y :: .int x :: st) h Q := by
  intro hg p e R s m args below meth c H locs cells slots mc ms ls C
  exact lv_ishr C.1.1 C.1.2.1 hd (k hg p e R s m args below meth c H locs cells slots mc ms ls C)
theorem J_idiv {x y : Int32} (hd : decode M.2.1 pc = .ok (.idiv, 1)) (hne : ¬ y = 0) (k : J g d ca sa M (pc + 1) lv (.int (x / y) :: st) h Q) : J g d ca sa M pc lv (.int y :: .int x :: st) h Q := by
  intro hg p e R s m args below meth c H locs cells slots mc ms ls C
  exact lv_idiv C.1.1 C.1.2.1 hd hne (k hg p e R s m args below meth c H locs cells slots mc ms ls C)
theorem J_irem {x y : Int32} (hd : decode M.2.1 pc = .ok (.irem, 1)) (hne : ¬ y = 0) (k : J g d ca sa M (pc + 1) lv (.int (x - x / y * y) :: st) h Q) : J g d ca sa M pc lv (.int y :: .int x :: st) h Q := by
  intro hg p e R s m args below meth c H locs cells slots mc ms ls C
  exact lv_irem C.1.1 C.1.2.1 hd hne (k hg p e R s m args below meth c H locs cells slots mc ms ls C)
theorem J_ladd {x y : Int64} (hd : decode M.2.1 pc = .ok (.ladd, 1)) (k : J g d ca sa M (pc + 1) lv (.long (x + y) :: st) h Q) : J g d ca sa M pc lv (.long y :: .long x :: st) h Q := by
  intro hg p e R s m args below meth c H locs cells slots mc ms ls C
  exact lv_ladd C.1.1 C.1.2.1 hd (k hg p e R s m args below meth c H locs cells slots mc ms ls C)
theorem J_lsub {x y : Int64} (hd : decode M.2.1 pc = .ok (.lsub, 1)) (k : J g d ca sa M (pc + 1) lv (.long (x - y) :: st) h Q) : J g d ca sa M pc lv (.long y :: .long x :: st) h Q := by
  intro hg p e R s m args below meth c H locs cells slots mc ms ls C
  exact lv_lsub C.1.1 C.1.2.1 hd (k hg p e R s m args below meth c H locs cells slots mc ms ls C)
theorem J_lmul {x y : Int64} (hd : decode M.2.1 pc = .ok (.lmul, 1)) (k : J g d ca sa M (pc + 1) lv (.long (x * y) :: st) h Q) : J g d ca sa M pc lv (.long y :: .long x :: st) h Q := by
  intro hg p e R s m args below meth c H locs cells slots mc ms ls C
  exact lv_lmul C.1.1 C.1.2.1 hd (k hg p e R s m args below meth c H locs cells slots mc ms ls C)
theorem J_ldiv {x y : Int64} (hd : decode M.2.1 pc = .ok (.ldiv, 1)) (hne : ¬ y = 0) (k : J g d ca sa M (pc + 1) lv (.long (x / y) :: st) h Q) : J g d ca sa M pc lv (.long y :: .long x :: st) h Q := by
  intro hg p e R s m args below meth c H locs cells slots mc ms ls C
  exact lv_ldiv C.1.1 C.1.2.1 hd hne (k hg p e R s m args below meth c H locs cells slots mc ms ls C)
theorem J_lrem {x y : Int64} (hd : decode M.2.1 pc = .ok (.lrem, 1)) (hne : ¬ y = 0) (k : J g d ca sa M (pc + 1) lv (.long (x - x / y * y) :: st) h Q) : J g d ca sa M pc lv (.long y :: .long x :: st) h Q := by
  intro hg p e R s m args below meth c H locs cells slots mc ms ls C
  exact lv_lrem C.1.1 C.1.2.1 hd hne (k hg p e R s m args below meth c H locs cells slots mc ms ls C)
theorem J_iushr {x y : Int32} (hd : decode M.2.1 pc = .ok (.iushr, 1)) (k : J g d ca sa M (pc + 1) lv (.int ((x.toUInt32 >>> (y.toUInt32 &&& Int32.toUInt32 31)).toInt32) :: st) h Q) : J g d ca sa M pc lv (.int y :: .int x :: st) h Q := by
  intro hg p e R s m args below meth c H locs cells slots mc ms ls C
  exact lv_iushr C.1.1 C.1.2.1 hd rfl (k hg p e R s m args below meth c H locs cells slots mc ms ls C)
theorem J_i2l {x : Int32} (hd : decode M.2.1 pc = .ok (.i2l, 1)) (k : J g d ca sa M (pc + 1) lv (.long x.toInt64 :: st) h Q) : J g d ca sa M pc lv (.int x :: st) h Q := by
  intro hg p e R s m args below meth c H locs cells slots mc ms ls C
  exact lv_i2l C.1.1 C.1.2.1 hd rfl (k hg p e R s m args below meth c H locs cells slots mc ms ls C)
theorem J_l2i {x : Int64} (hd : decode M.2.1 pc = .ok (.l2i, 1)) (k : J g d ca sa M (pc + 1) lv (.int x.toInt32 :: st) h Q) : J g d ca sa M pc lv (.long x :: st) h Q := by
  intro hg p e R s m args below meth c H locs cells slots mc ms ls C
  exact lv_l2i C.1.1 C.1.2.1 hd rfl (k hg p e R s m args below meth c H locs cells slots mc ms ls C)
theorem J_i2d {x : Int32} (hd : decode M.2.1 pc = .ok (.i2d, 1)) (k : J g d ca sa M (pc + 1) lv (.double (FP.i2d x) :: st) h Q) : J g d ca sa M pc lv (.int x :: st) h Q := by
  intro hg p e R s m args below meth c H locs cells slots mc ms ls C
  exact lv_i2d C.1.1 C.1.2.1 hd (k hg p e R s m args below meth c H locs cells slots mc ms ls C)
theorem J_ddiv {x y : UInt64} (hd : decode M.2.1 pc = .ok (.ddiv, 1)) (hne : vf_n64 (FP.ddiv x y)) (k : J g d ca sa M (pc + 1) lv (.double (FP.ddiv x y) :: st) h Q) : J g d ca sa M pc lv (.double y :: .double x :: st) h Q := by
  intro hg p e R s m args below meth c H locs cells slots mc ms ls C
  exact lv_ddiv C.1.1 C.1.2.1 hd hne (k hg p e R s m args below meth c H locs cells slots mc ms ls C)
theorem J_dcmp {x y : UInt64} {op : CmpOp} (hd : decode M.2.1 pc = .ok (.dcmp op, 1)) (k : J g d ca sa M (pc + 1) lv (.int (Op.cmpValue (FP.dcmp x y) op) :: st) h Q) : J g d ca sa M pc lv (.double y :: .double x :: st) h Q := by
  intro hg p e R s m args below meth c H locs cells slots mc ms ls C
  exact lv_dcmp C.1.1 C.1.2.1 hd (k hg p e R s m args below meth c H locs cells slots mc ms ls C)
theorem J_lcmp {x y : Int64} (hd : decode M.2.1 pc = .ok (.lcmp, 1)) (k : J g d ca sa M (pc + 1) lv (.int (lg_cmp x y) :: st) h Q) : J g d ca sa M pc lv (.long y :: .long x :: st) h Q := by
  intro hg p e R s m args below meth c H locs cells slots mc ms ls C
  exact W.lcmp C.1.1 C.1.2.1 hd (k hg p e R s m args below meth c H locs cells slots mc ms ls C)
theorem J_dup {v : Value} (hd : decode M.2.1 pc = .ok (.dup, 1)) (hv : v.category = 1) (k : J g d ca sa M (pc + 1) lv (v :: v :: st) h Q) : J g d ca sa M pc lv (v :: st) h Q := by
  intro hg p e R s m args below meth c H locs cells slots mc ms ls C
  exact lv_dup C.1.1 C.1.2.1 hd (by rw [em_cat]; exact hv) (k hg p e R s m args below meth c H locs cells slots mc ms ls C)
theorem J_dup2 {v u : Value} (hd : decode M.2.1 pc = .ok (.dup2, 1)) (hv : v.category = 1) (hu : u.category = 1) (k : J g d ca sa M (pc + 1) lv (v :: u :: v :: u :: st) h Q) : J g d ca sa M pc lv (v :: u :: st) h Q := by
  intro hg p e R s m args below meth c H locs cells slots mc ms ls C
  exact lv_dup2_11 C.1.1 C.1.2.1 hd (by rw [em_cat]; exact hv) (by rw [em_cat]; exact hu) (k hg p e R s m args below meth c H locs cells slots mc ms ls C)
theorem J_if_eq {x : Int32} {off : Int} {tgt : Nat} (hd : decode M.2.1 pc = .ok (.ifCond .eq off, 3)) (ht : (pc : Int) + off = (tgt : Int)) (kt : x = 0 → J g d ca sa M tgt lv st h Q) (kf : ¬ x = 0 → J g d ca sa M (pc + 3) lv st h Q) : J g d ca sa M pc lv (.int x :: st) h Q := by
  intro hg p e R s m args below meth c H locs cells slots mc ms ls C
  exact lv_if_eq C.1.1 C.1.2.1 hd ht (fun q => kt q hg p e R s m args below meth c H locs cells slots mc ms ls C) (fun q => kf q hg p e R s m args below meth c H locs cells slots mc ms ls C)
theorem J_if_ne {x : Int32} {off : Int} {tgt : Nat} (hd : decode M.2.1 pc = .ok (.ifCond .ne off, 3)) (ht : (pc : Int) + off = (tgt : Int)) (kt : ¬ x = 0 → J g d ca sa M tgt lv st h Q) (kf : x = 0 → J g d ca sa M (pc + 3) lv st h Q) : J g d ca sa M pc lv (.int x :: st) h Q := by
  intro hg p e R s m args below meth c H locs cells slots mc ms ls C
  exact lv_if_ne C.1.1 C.1.2.1 hd ht (fun q => kt q hg p e R s m args below meth c H locs cells slots mc ms ls C) (fun q => kf q hg p e R s m args below meth c H locs cells slots mc ms ls C)
theorem J_if_lt {x : Int32} {off : Int} {tgt : Nat} (hd : decode M.2.1 pc = .ok (.ifCond .lt off, 3)) (ht : (pc : Int) + off = (tgt : Int)) (kt : x < 0 → J g d ca sa M tgt lv st h Q) (kf : ¬ x < 0 → J g d ca sa M (pc + 3) lv st h Q) : J g d ca sa M pc lv (.int x :: st) h Q := by
  intro hg p e R s m args below meth c H locs cells slots mc ms ls C
  exact lv_if_lt C.1.1 C.1.2.1 hd ht (fun q => kt q hg p e R s m args below meth c H locs cells slots mc ms ls C) (fun q => kf q hg p e R s m args below meth c H locs cells slots mc ms ls C)
theorem J_if_ge {x : Int32} {off : Int} {tgt : Nat} (hd : decode M.2.1 pc = .ok (.ifCond .ge off, 3)) (ht : (pc : Int) + off = (tgt : Int)) (kt : 0 ≤ x → J g d ca sa M tgt lv st h Q) (kf : ¬ 0 ≤ x → J g d ca sa M (pc + 3) lv st h Q) : J g d ca sa M pc lv (.int x :: st) h Q := by
  intro hg p e R s m args below meth c H locs cells slots mc ms ls C
  exact lv_if_ge C.1.1 C.1.2.1 hd ht (fun q => kt q hg p e R s m args below meth c H locs cells slots mc ms ls C) (fun q => kf q hg p e R s m args below meth c H locs cells slots mc ms ls C)
theorem J_if_gt {x : Int32} {off : Int} {tgt : Nat} (hd : decode M.2.1 pc = .ok (.ifCond .gt off, 3)) (ht : (pc : Int) + off = (tgt : Int)) (kt : 0 < x → J g d ca sa M tgt lv st h Q) (kf : ¬ 0 < x → J g d ca sa M (pc + 3) lv st h Q) : J g d ca sa M pc lv (.int x :: st) h Q := by
  intro hg p e R s m args below meth c H locs cells slots mc ms ls C
  exact lv_if_gt C.1.1 C.1.2.1 hd ht (fun q => kt q hg p e R s m args below meth c H locs cells slots mc ms ls C) (fun q => kf q hg p e R s m args below meth c H locs cells slots mc ms ls C)
theorem J_if_le {x : Int32} {off : Int} {tgt : Nat} (hd : decode M.2.1 pc = .ok (.ifCond .le off, 3)) (ht : (pc : Int) + off = (tgt : Int)) (kt : x ≤ 0 → J g d ca sa M tgt lv st h Q) (kf : ¬ x ≤ 0 → J g d ca sa M (pc + 3) lv st h Q) : J g d ca sa M pc lv (.int x :: st) h Q := by
  intro hg p e R s m args below meth c H locs cells slots mc ms ls C
  exact lv_if_le C.1.1 C.1.2.1 hd ht (fun q => kt q hg p e R s m args below meth c H locs cells slots mc ms ls C) (fun q => kf q hg p e R s m args below meth c H locs cells slots mc ms ls C)
theorem J_icmp_eq {x y : Int32} {off : Int} {tgt : Nat} (hd : decode M.2.1 pc = .ok (.if_icmp .eq off, 3)) (ht : (pc : Int) + off = (tgt : Int)) (kt : x = y → J g d ca sa M tgt lv st h Q) (kf : ¬ x = y → J g d ca sa M (pc + 3) lv st h Q) : J g d ca sa M pc lv (.int y :: .int x :: st) h Q := by
  intro hg p e R s m args below meth c H locs cells slots mc ms ls C
  exact lv_icmp_eq C.1.1 C.1.2.1 hd ht (fun q => kt q hg p e R s m args below meth c H locs cells slots mc ms ls C) (fun q => kf q hg p e R s m args below meth c H locs cells slots mc ms ls C)
theorem J_icmp_ne {x y : Int32} {off : Int} {tgt : Nat} (hd : decode M.2.1 pc = .ok (.if_icmp .ne off, 3)) (ht : (pc : Int) + off = (tgt : Int)) (kt : ¬ x = y → J g d ca sa M tgt lv st h Q) (kf : x = y → J g d ca sa M (pc + 3) lv st h Q) : J g d ca sa M pc lv (.int y :: .int x :: st) h Q := by
  intro hg p e R s m args below meth c H locs cells slots mc ms ls C
  exact lv_icmp_ne C.1.1 C.1.2.1 hd ht (fun q => kt q hg p e R s m args below meth c H locs cells slots mc ms ls C) (fun q => kf q hg p e R s m args below meth c H locs cells slots mc ms ls C)
theorem J_icmp_lt {x y : Int32} {off : Int} {tgt : Nat} (hd : decode M.2.1 pc = .ok (.if_icmp .lt off, 3)) (ht : (pc : Int) + off = (tgt : Int)) (kt : x < y → J g d ca sa M tgt lv st h Q) (kf : ¬ x < y → J g d ca sa M (pc + 3) lv st h Q) : J g d ca sa M pc lv (.int y :: .int x :: st) h Q := by
  intro hg p e R s m args below meth c H locs cells slots mc ms ls C
  exact lv_icmp_lt C.1.1 C.1.2.1 hd ht (fun q => kt q hg p e R s m args below meth c H locs cells slots mc ms ls C) (fun q => kf q hg p e R s m args below meth c H locs cells slots mc ms ls C)
theorem J_icmp_ge {x y : Int32} {off : Int} {tgt : Nat} (hd : decode M.2.1 pc = .ok (.if_icmp .ge off, 3)) (ht : (pc : Int) + off = (tgt : Int)) (kt : y ≤ x → J g d ca sa M tgt lv st h Q) (kf : ¬ y ≤ x → J g d ca sa M (pc + 3) lv st h Q) : J g d ca sa M pc lv (.int y :: .int x :: st) h Q := by
  intro hg p e R s m args below meth c H locs cells slots mc ms ls C
  exact lv_icmp_ge C.1.1 C.1.2.1 hd ht (fun q => kt q hg p e R s m args below meth c H locs cells slots mc ms ls C) (fun q => kf q hg p e R s m args below meth c H locs cells slots mc ms ls C)
theorem J_icmp_gt {x y : Int32} {off : Int} {tgt : Nat} (hd : decode M.2.1 pc = .ok (.if_icmp .gt off, 3)) (ht : (pc : Int) + off = (tgt : Int)) (kt : y < x → J g d ca sa M tgt lv st h Q) (kf : ¬ y < x → J g d ca sa M (pc + 3) lv st h Q) : J g d ca sa M pc lv (.int y :: .int x :: st) h Q := by
  intro hg p e R s m args below meth c H locs cells slots mc ms ls C
  exact lv_icmp_gt C.1.1 C.1.2.1 hd ht (fun q => kt q hg p e R s m args below meth c H locs cells slots mc ms ls C) (fun q => kf q hg p e R s m args below meth c H locs cells slots mc ms ls C)
theorem J_icmp_le {x y : Int32} {off : Int} {tgt : Nat} (hd : decode M.2.1 pc = .ok (.if_icmp .le off, 3)) (ht : (pc : Int) + off = (tgt : Int)) (kt : x ≤ y → J g d ca sa M tgt lv st h Q) (kf : ¬ x ≤ y → J g d ca sa M (pc + 3) lv st h Q) : J g d ca sa M pc lv (.int y :: .int x :: st) h Q := by
  intro hg p e R s m args below meth c H locs cells slots mc ms ls C
  exact lv_icmp_le C.1.1 C.1.2.1 hd ht (fun q => kt q hg p e R s m args below meth c H locs cells slots mc ms ls C) (fun q => kf q hg p e R s m args below meth c H locs cells slots mc ms ls C)
theorem J_goto {off : Int} {tgt : Nat} (hd : decode M.2.1 pc = .ok (.goto off, 3)) (ht : (pc : Int) + off = (tgt : Int)) (k : J g d ca sa M tgt lv st h Q) : J g d ca sa M pc lv st h Q := by
  intro hg p e R s m args below meth c H locs cells slots mc ms ls C
  exact lv_goto C.1.1 C.1.2.1 hd ht (k hg p e R s m args below meth c H locs cells slots mc ms ls C)
theorem J_tableIn {dflt lo hi : Int} {offs : Array Int} {len : Nat} {x : Int32} {off : Int} {tgt : Nat} (hd : decode M.2.1 pc = .ok (.tableswitch dflt lo hi offs, len)) (h1 : ¬ x.toInt < lo) (h2 : ¬ hi < x.toInt) (ho : offs[(x.toInt - lo).toNat]? = some off) (ht : (pc : Int) + off = (tgt : Int)) (k : J g d ca sa M tgt lv st h Q) : J g d ca sa M pc lv (.int x :: st) h Q := by
  intro hg p e R s m args below meth c H locs cells slots mc ms ls C
  exact lv_tableIn C.1.1 C.1.2.1 hd h1 h2 ho ht (k hg p e R s m args below meth c H locs cells slots mc ms ls C)
theorem J_tableOut {dflt lo hi : Int} {offs : Array Int} {len : Nat} {x : Int32} {tgt : Nat} (hd : decode M.2.1 pc = .ok (.tableswitch dflt lo hi offs, len)) (h1 : x.toInt < lo ∨ hi < x.toInt) (ht : (pc : Int) + dflt = (tgt : Int)) (k : J g d ca sa M tgt lv st h Q) : J g d ca sa M pc lv (.int x :: st) h Q := by
  intro hg p e R s m args below meth c H locs cells slots mc ms ls C
  exact lv_tableOut C.1.1 C.1.2.1 hd h1 ht (k hg p e R s m args below meth c H locs cells slots mc ms ls C)
theorem J_lookup {dflt : Int} {ps : Array (Int × Int)} {len : Nat} {x : Int32} {off : Int} {tgt : Nat} (hd : decode M.2.1 pc = .ok (.lookupswitch dflt ps, len)) (hp : (ps.toList.zip (ps.toList.drop 1)).all (fun (a, next) => a.1 < next.1) = true) (ho : Op.lookupswitch.offset ps.toList dflt x.toInt = off) (ht : (pc : Int) + off = (tgt : Int)) (k : J g d ca sa M tgt lv st h Q) : J g d ca sa M pc lv (.int x :: st) h Q := by
  intro hg p e R s m args below meth c H locs cells slots mc ms ls C
  exact lv_lookup C.1.1 C.1.2.1 hd hp ho ht (k hg p e R s m args below meth c H locs cells slots mc ms ls C)
end JR
end
section
-- rules for what reads and writes the heap, for ends, and for calls
theorem wd {g : GT} (hg : OkG g) {s : State} (hW : (g_s g).WarmedH s.vm) {w : Cond} (hw : w ∈ lw_tbl) (hgood : (w.onTables && w.keeps) = true ∨ ∃ ty, w = .arrayClass ty) (args : Array Value) : w.before args s = true := word_at hW hgood (hg.2.1 w hw)
theorem kd {g : GT} (hg : OkG g) {s : State} (hW : (g_s g).WarmedH s.vm) : va_K (g_D g) vwCl [] s := va_K.moved hW.alike hg.2.2.1
theorem lay_good {C : String} {T : u_T} {N : Nat} {w : Cond} (h : w ∈ u_ws C T N) : (w.onTables && w.keeps) = true := by
  obtain ⟨k, -, rfl⟩ := List.mem_map.mp h
  unfold u_lay
  split <;> rfl
theorem ad_ne {g : GT} {i j : Nat} (hi : 1 ≤ i) (hj : 1 ≤ j) (h : i ≠ j) : ad g i ≠ ad g j := by
  unfold ad
  rw [if_neg (by omega), if_neg (by omega)]
  omega
theorem ad_ge {g : GT} {i : Nat} (hi : 1 ≤ i) : g_n g ≤ ad g i := by
  unfold ad
  rw [if_neg (by omega)]
  omega
theorem Rel.put {g : GT} {h : MH} {H H' : Heap} {a : Nat} {c0 c1 : MC} (hR : Rel g h H) (ha : h.2 a = some c0) (hz : H'.size = H.size) (hoq : ∀ q, q ≠ ad g a → H'[q]? = H[q]?) (hat : va_at (g_D g) vwCl (ad g a, emC g c1) H') : Rel g (h.1, hset h.2 a c1) H' := by
  obtain ⟨h1, h2, h3⟩ := hR
  refine ⟨h1, by rw [hz]; exact h2, fun i c hc => ?_⟩
  obtain ⟨b1, b2, -⟩ := h3 a _ ha
  by_cases e : i = a
  · subst e
    have hc : hset h.2 i c1 i = some c := hc
    rw [hset_s] at hc
    cases hc
    exact ⟨b1, b2, hat⟩
  · have hc : hset h.2 a c1 i = some c := hc
    rw [hset_n e] at hc
    obtain ⟨d1, d2, d3⟩ := h3 i _ hc
    exact ⟨d1, d2, d3.kept (hoq _ (ad_ne d1 b1 e))⟩
theorem Rel.add {g : GT} {h : MH} {H H' : Heap} {c1 : MC} (hR : Rel g h H) (hz : H'.size = H.size + 1) (hoq : ∀ q, q < H.size → H'[q]? = H[q]?) (hat : va_at (g_D g) vwCl (H.size, emC g c1) H') : Rel g (h.1 + 1, hset h.2 h.1 c1) H' := by
  obtain ⟨h1, h2, h3⟩ := hR
  refine ⟨by show 1 ≤ h.1 + 1; omega, by show H'.size + 1 = g_n g + (h.1 + 1); omega, fun i c hc => ?_⟩
  have hc : hset h.2 h.1 c1 i = some c := hc
  by_cases e : i = h.1
  · subst e
    rw [hset_s] at hc
    cases hc
    refine ⟨h1, by show h.1 < h.1 + 1; omega, ?_⟩
    have e1 : ad g h.1 = H.size := by
      unfold ad
      rw [if_neg (by omega)]
      omega
    rw [e1]
    exact hat
  · rw [hset_n e] at hc
    obtain ⟨d1, d2, d3⟩ := h3 i _ hc
    exact ⟨d1, by show i < h.1 + 1; omega, d3.kept (hoq _ d3.lt)⟩
theorem Rel.next {g : GT} {h : MH} {H : Heap} (hR : Rel g h H) : ad g h.1 = H.size := by
  obtain ⟨h1, h2, h3⟩ := hR
  unfold ad
  rw [if_neg (by omega)]
  omega
/-- a field's place: the user's name, the pool's number, the kind of the object, the field -/
def FL (own : String) (index ci k : Nat) : Prop := ∃ (C : String) (T : u_T) (N : Nat), vwCl[ci]? = some (C, T, N) ∧ k < N ∧ Cond.fieldLink own index (T k).1 (T k).2.1 (T k).2.2.1 ∈ lw_tbl ∧ ∀ w ∈ u_ws C T N, w ∈ lw_tbl
/-- a field that may be written here -/
def FP (M : MT) (index ci k : Nat) (ty : FieldType) : Prop := ∃ (C : String) (T : u_T) (N : Nat) (ty0 : Nat → FieldType), vwCl[ci]? = some (C, T, N) ∧ k < N ∧ Cond.fieldLink M.1.cls index (T k).1 (T k).2.1 (T k).2.2.1 ∈ lw_tbl ∧ (∀ w ∈ u_ws C T N, w ∈ lw_tbl) ∧
  (∀ k, k < N → parseFieldDescriptor (T k).2.2.1 = some (ty0 k)) ∧ (∀ a, a < N → ∀ b, b < N → a ≠ b → (T a).2.1 ≠ (T b).2.1) ∧ ty0 k = ty ∧ ((T k).2.2.2 = false ∨ ((T k).2.2.2 = true ∧ M.1.name = "<init>" ∧ (T k).1 = M.1.cls))
section JH
variable {g : GT} {d ca sa : Nat} {M : MT} {pc : Nat} {lv lv' : List (Nat × Value)} {st : List Value} {h : MH} {Q Q' : RT → MH → Prop}
theorem J_getf {index a ci k : Nat} {fs : List Value} {v : Value} (hd : decode M.2.1 pc = .ok (.getfield index, 3)) (hf : FL M.1.cls index ci k) (ha : h.2 a = some (.inr (ci, fs))) (hv : fs[k]? = some v) (kk : J g d ca sa M (pc + 3) lv (v :: st) h Q) : J g d ca sa M pc lv (.ref a :: st) h Q := by
  intro hg p e R s m args below meth c H locs cells slots mc ms ls C
  obtain ⟨Cn, T, N, hc, hk, hw, hin⟩ := hf
  obtain ⟨⟨hx, hb, hml, hr, hlk, hnm, hown, htab⟩, ⟨hW, hz, ho⟩, ⟨hoH, hsz, hR, hlo⟩, hroom, hl⟩ := id C
  have hK := kd hg hW
  obtain ⟨ha0, ha1, r, h1, cell, q1, q2, q3, q4⟩ := hR.2.2 a _ ha
  have hr' : r = (Cn, T, N) := Option.some.inj (h1.symm.trans hc)
  subst hr'
  obtain ⟨hS, hfc, kC, hkC, hkind⟩ := hK.1 ci _ hc
  obtain ⟨cf, kf, fi, f, hi, hsl⟩ := hS k hk
  have hlays := u_lays (args := args) (s := s) (ws := u_ws Cn T N) (C := Cn) (T := T) (N := N) (fun w hw' => wd hg hW (hin w hw') (Or.inl (lay_good hw')) args) (fun w h => h) hk
  refine W.getf hx hb hown (wd hg hW hw (Or.inl rfl) args) hi (u_facts hfc hkC hlays hi).1 q1 (by rw [q3]; exact fun h => by cases h) (v := em g v) ?_ rfl rfl hd (kk hg p e R s m args below meth c H locs cells slots mc ms ls C)
  rw [hsl, q4 k hk]
  simp [vp_V, hv]
theorem J_putf {index a ci k : Nat} {fs : List Value} {v : Value} {ty : FieldType} (hd : decode M.2.1 pc = .ok (.putfield index, 3)) (hf : FP M index ci k ty) (hn : ∀ g, narrow ty (em g v) = em g v ∧ fits ty (em g v) = true) (ha : h.2 a = some (.inr (ci, fs))) (hlen : k < fs.length) (kk : J g d ca sa M (pc + 3) lv st (h.1, hset h.2 a (.inr (ci, fs.set k v))) Q) : J g d ca sa M pc lv (v :: .ref a :: st) h Q := by
  intro hg p e R s m args below meth c H locs cells slots mc ms ls C
  obtain ⟨Cn, T, N, ty0, hc, hk, hw, hin, hty, hnmT, hty0, hfin⟩ := hf
  obtain ⟨⟨hx, hb, hml, hr, hlk, hnm, hown, htab⟩, ⟨hW, hz, ho⟩, ⟨hoH, hsz, hR, hlo⟩, hroom, hl⟩ := id C
  have hK := kd hg hW
  obtain ⟨ha0, ha1, r, h1, cell, q1, q2, q3, q4⟩ := hR.2.2 a _ ha
  have hr' : r = (Cn, T, N) := Option.some.inj (h1.symm.trans hc)
  subst hr'
  have hlw : ∀ w ∈ u_ws Cn T N, w.before args s = true := fun w hw' => wd hg hW (hin w hw') (Or.inl (lay_good hw')) args
  have hap := va_apart (own := M.1.cls) (s := s) (args := args) (Ts := u_ws Cn T N) hlw (fun w h => h) ty0 hty hnmT hK hc
  obtain ⟨hS, hfc, kC, hkC, hkind⟩ := hK.1 ci _ hc
  obtain ⟨cf, kf, fi, f, hi, hsl⟩ := hS k hk
  have hlay := hlw _ (u_in_lay hk)
  unfold u_lay at hlay
  have hst := (u_facts hfc hkC (u_lays hlw (fun w h => h) hk) hi).1
  have hpd : parseFieldDescriptor (T k).2.2.1 = some ty := by rw [← hty0]; exact hty k hk
  have fin : ∀ (H' : Heap), H'[ad g a]? = some (cell.setSlot f.slot (em g v)) → H'.size = H.size → (∀ q, q ≠ ad g a → H'[q]? = H[q]?) → W p g.1 e R s m args below meth c H' (locs ++ [⟨ad g a, f.slot⟩]) cells slots (vx_MQ below (Qo g Q) (Xo g Q) args s mc ms (fun q => g_n g ≤ q)) (F0 m (pc + 3) ls (st.map (em g))) := by
    intro H' e1 e2 e3
    rw [hsl] at e1 ⊢
    have hat : va_at (g_D g) vwCl (ad g a, emC g (.inr (ci, fs.set k v))) H' := by
      refine ⟨_, hc, t_OB.to (V := updV (vp_V (fs.map (em g))) k (em g v)) ⟨_, e1, q2, q3, t_set q4 hap hk (em g v)⟩ (fun j _ => ?_)⟩
      show updV (vp_V (fs.map (em g))) k (em g v) j = vp_V ((fs.set k v).map (em g)) j
      rw [List.map_set]
      exact vp_updV_set (by rw [List.length_map]; exact hlen) (em g v) j
    refine kk hg p e R s m args below meth c H' _ cells slots mc ms ls ⟨⟨hx, hb, hml, hr, hlk, hnm, hown, htab⟩, ⟨hW, hz, ho⟩, ⟨fun q hq => ?_, by rw [e2]; exact hsz, Rel.put hR ha e2 e3 hat, fun q hq => ?_⟩, hroom, hl⟩
    · rw [e3 q (by have := ad_ge (g := g) ha0; omega)]
      exact hoH q hq
    · rcases List.mem_append.mp hq with h9 | h9
      · exact hlo q h9
      · rw [List.mem_singleton.mp h9]
        exact ad_ge ha0
  rcases hfin with hfin | ⟨hfin, hin2, hdecl⟩
  · rw [if_neg (by rw [hfin]; decide)] at hlay
    have h6 := u_store hfc hkC hkind hlay hi hpd (hn g).1 (hn g).2
    exact W.putK hx hb (f := f) ⟨hown, wd hg hW hw (Or.inl rfl) args, ⟨_, _, _, hi⟩, hst⟩ (by rw [q2]; exact h6) q1 q3 (by rw [hsl]; exact k2_hasslot (q4 k hk)) rfl rfl hd fin
  · rw [if_pos hfin] at hlay
    have hcf : m.cls = cf := by
      obtain ⟨_, _, c', _, _, _, -, -, hf', -, -, -, hown2, -⟩ := Cond.laysFinal_spec hlay
      have e1 : c' = cf := by have := hi.symm.trans hf'; simp at this; exact this.1.symm
      rw [hdecl] at hown2
      rw [← e1]; exact Option.some.inj (hown.symm.trans hown2)
    have h6 := u_fits hfc hkC hkind (Or.inr hlay) hi hpd (hn g).1 (hn g).2
    exact W.putFinK hx hb hown (wd hg hW hw (Or.inl rfl) args) hi hst hcf (hnm.trans hin2) (by rw [q2]; exact h6) q1 q3 (by rw [hsl]; exact k2_hasslot (q4 k hk)) rfl rfl hd fin
theorem ar_ok {g : GT} (hg : OkG g) {s : State} (hW : (g_s g).WarmedH s.vm) {t : Nat} (ht : t < 4) : ArrOfT s (g_c g t) (aty t) := arrOfT_moved hW.alike (hg.2.2.2.1 t ht).1
theorem nI_vin {n j : Nat} (hj : j < n) (hn : n < 2 ^ 31) : ¬ (nI j < 0 ∨ n ≤ (nI j).toNatClampNeg) := nI_in hj hn
theorem J_iald {a n j : Nat} {f : Nat → Int32} {i : Int32} (hd : decode M.2.1 pc = .ok (.iaload, 1)) (ha : h.2 a = some (aI n f)) (hi : i = nI j) (hj : j < n) (hn : n < 2 ^ 31) (kk : J g d ca sa M (pc + 1) lv (.int (f j) :: st) h Q) : J g d ca sa M pc lv (.int i :: .ref a :: st) h Q := by
  intro hg p e R s m args below meth c H locs cells slots mc ms ls C
  subst hi
  have hjc : (nI j).toNatClampNeg = j := nI_clamp (by omega)
  obtain ⟨-, -, hat⟩ := C.2.2.1.2.2.1.2.2 a _ ha
  refine W.iald (v := .int (f j)) C.1.1 C.1.2.1 hat ((ar_ok hg C.2.1.1 (t := 0) (by omega)) n (fun j => .int (f j))) (fun q => by cases q) ?_ ?_ rfl rfl hd (kk hg p e R s m args below meth c H locs cells slots mc ms ls C)
  · show ¬ (nI j < 0 ∨ (arrV _ _ _).slots.size ≤ _)
    rw [arrV_size]
    exact nI_vin hj hn
  · show (arrV (g_c g 0) n (fun j => Value.int (f j))).slots[_]? = _
    rw [hjc, arrV_read _ _ hj]
theorem J_aald {a n j b t : Nat} {f : Nat → Option Nat} {i : Int32} (hd : decode M.2.1 pc = .ok (.aaload, 1)) (ht : t = 2 ∨ t = 3) (ha : h.2 a = some (.inl (t, n, .inr (.inr (.inr (.inr f)))))) (hi : i = nI j) (hj : j < n) (hn : n < 2 ^ 31) (hv : f j = some b) (kk : J g d ca sa M (pc + 1) lv (.ref b :: st) h Q) : J g d ca sa M pc lv (.int i :: .ref a :: st) h Q := by
  intro hg p e R s m args below meth c H locs cells slots mc ms ls C
  subst hi
  have hjc : (nI j).toNatClampNeg = j := nI_clamp (by omega)
  obtain ⟨-, -, hat⟩ := C.2.2.1.2.2.1.2.2 a _ ha
  refine W.aald (v := .ref (ad g b)) (ty := aty t) C.1.1 C.1.2.1 hat ((ar_ok hg C.2.1.1 (t := t) (by omega)) n (fun j => va_rf ((f j).map (ad g)))) (by rcases ht with rfl | rfl <;> rfl) (fun q => by cases q) ?_ ?_ rfl rfl hd (kk hg p e R s m args below meth c H locs cells slots mc ms ls C)
  · show ¬ (nI j < 0 ∨ (arrV _ _ _).slots.size ≤ _)
    rw [arrV_size]
    exact nI_vin hj hn
  · show (arrV (g_c g t) n (fun j => va_rf ((f j).map (ad g)))).slots[_]? = _
    rw [hjc, arrV_read _ _ hj, hv]
    rfl
/-- behind a write into one cell -/
theorem JC.put {p : Program} {R : Room} {s : State} {m : MethodId} {meth : Method} {c : Code} {H H' : Heap} {locs : List Loc} {cells slots mc ms : Nat} {ls : Array Slot} {a i : Nat} {c0 c1 : MC} (C : JC g d ca sa M lv h p R s m meth c H locs cells slots mc ms ls) (ha : h.2 a = some c0) (hz : H'.size = H.size) (hoq : ∀ q, q ≠ ad g a → H'[q]? = H[q]?) (hat : va_at (g_D g) vwCl (ad g a, emC g c1) H') : JC g d ca sa M lv (h.1, hset h.2 a c1) p R s m meth c H' (locs ++ [⟨ad g a, i⟩]) cells slots mc ms ls := by
  obtain ⟨h1, h2, ⟨hoH, hsz, hR, hlo⟩, hroom, hl⟩ := C
  have ha0 := (hR.2.2 a _ ha).1
  refine ⟨h1, h2, ⟨fun q hq => ?_, by rw [hz]; exact hsz, Rel.put hR ha hz hoq hat, fun q hq => ?_⟩, hroom, hl⟩
  · rw [hoq q (by have := ad_ge (g := g) ha0; omega)]
    exact hoH q hq
  · rcases List.mem_append.mp hq with h9 | h9
    · exact hlo q h9
    · rw [List.mem_singleton.mp h9]
      exact ad_ge ha0
theorem J_iast {a n j : Nat} {f : Nat → Int32} {i x : Int32} (hd : decode M.2.1 pc = .ok (.iastore, 1)) (ha : h.2 a = some (aI n f)) (hi : i = nI j) (hj : j < n) (hn : n < 2 ^ 31) (kk : J g d ca sa M (pc + 1) lv st (h.1, hset h.2 a (aI n (upd f j x))) Q) : J g d ca sa M pc lv (.int x :: .int i :: .ref a :: st) h Q := by
  intro hg p e R s m args below meth c H locs cells slots mc ms ls C
  subst hi
  have hjc : (nI j).toNatClampNeg = j := nI_clamp (by omega)
  obtain ⟨-, -, hat⟩ := C.2.2.1.2.2.1.2.2 a _ ha
  refine W.iast C.1.1 C.1.2.1 hat ((ar_ok hg C.2.1.1 (t := 0) (by omega)) n (fun j => .int (f j))) (fun q => by cases q) ?_ rfl rfl hd fun H1 e z oq => ?_
  · show ¬ (nI j < 0 ∨ (arrV _ _ _).slots.size ≤ _)
    rw [arrV_size]
    exact nI_vin hj hn
  · refine kk hg p _ R s m args below meth c H1 _ cells slots mc ms ls (C.put ha z oq ?_)
    show H1[ad g a]? = some (vp_cell _ (n, .inl (upd f j x)))
    rw [e, hjc]
    show some ((vp_cell _ (n, .inl f)).setSlot _ _) = _
    rw [vp_cell_i, vp_cell_i, arrV_store]
    congr 2
    funext q
    by_cases hq : q = j
    · subst hq
      simp [updV, upd]
    · simp [updV, upd, hq]
end JH
end
section
-- ends of methods, and calls
section JE
variable {g : GT} {d ca sa : Nat} {M : MT} {pc : Nat} {lv lv' : List (Nat × Value)} {st : List Value} {h : MH} {Q Q' : RT → MH → Prop}
theorem JC.fin {p : Program} {R : Room} {s : State} {m : MethodId} {meth : Method} {c : Code} {H : Heap} {locs : List Loc} {cells slots mc ms : Nat} {ls : Array Slot} (C : JC g d ca sa M lv h p R s m meth c H locs cells slots mc ms ls) {v : Option Value} (hq : Q (.inl v) h) (args : Array Value) (t : State) (ht : t.heap = H) : Qo g Q args s (.returned (v.map (em g))) t :=
  ⟨⟨v, h, rfl, hq, by rw [ht]; exact C.2.2.1.2.2.1, by rw [ht]; exact C.2.2.1.1⟩, by rw [ht]; exact C.2.2.1.2.1⟩
theorem J_iret {x : Int32} {ty : FieldType} (hd : decode M.2.1 pc = .ok (.ireturn, 1)) (hr : M.2.2.2.1 = some ty) (hn : narrow ty (.int x) = .int x) (hq : Q (.inl (some (.int x))) h) : J g d ca sa M pc lv [.int x] h Q := by
  intro hg p e R s m args below meth c H locs cells slots mc ms ls C
  refine vx_ret ?_
  refine W.widen (k := mc) (n := ms) (by have := C.2.2.2.1; omega) (by have := C.2.2.2.1; omega) ?_
  have hlocks := C.1.2.2.2.2.1
  exact W.zret (v := x) C.1.1 C.1.2.1 (C.1.2.2.2.1.trans hr) hn (fun t ht hW => C.fin hq args t ht) C.2.2.1.2.2.2 hd
theorem J_lret {x : Int64} (hd : decode M.2.1 pc = .ok (.lreturn, 1)) (hr : M.2.2.2.1 = some .long) (hq : Q (.inl (some (.long x))) h) : J g d ca sa M pc lv [.long x] h Q := by
  intro hg p e R s m args below meth c H locs cells slots mc ms ls C
  refine vx_ret ?_
  refine W.widen (k := mc) (n := ms) (by have := C.2.2.2.1; omega) (by have := C.2.2.2.1; omega) ?_
  have hlocks := C.1.2.2.2.2.1
  exact W.lret (v := x) C.1.1 C.1.2.1 (C.1.2.2.2.1.trans hr) (fun t ht hW => C.fin hq args t ht) C.2.2.1.2.2.2 hd
theorem J_dret {x : UInt64} (hd : decode M.2.1 pc = .ok (.dreturn, 1)) (hr : M.2.2.2.1 = some .double) (hq : Q (.inl (some (.double x))) h) : J g d ca sa M pc lv [.double x] h Q := by
  intro hg p e R s m args below meth c H locs cells slots mc ms ls C
  refine vx_ret ?_
  refine W.widen (k := mc) (n := ms) (by have := C.2.2.2.1; omega) (by have := C.2.2.2.1; omega) ?_
  have hlocks := C.1.2.2.2.2.1
  exact W.dret (v := x) C.1.1 C.1.2.1 (C.1.2.2.2.1.trans hr) (fun t ht hW => C.fin hq args t ht) C.2.2.1.2.2.2 hd
theorem J_vret (hd : decode M.2.1 pc = .ok (.return_, 1)) (hr : M.2.2.2.1 = none) (hq : Q (.inl none) h) : J g d ca sa M pc lv [] h Q := by
  intro hg p e R s m args below meth c H locs cells slots mc ms ls C
  refine vx_ret ?_
  refine W.widen (k := mc) (n := ms) (by have := C.2.2.2.1; omega) (by have := C.2.2.2.1; omega) ?_
  have hlocks := C.1.2.2.2.2.1
  exact W.vret C.1.1 C.1.2.1 (C.1.2.2.2.1.trans hr) (fun t ht hW => C.fin hq args t ht) C.2.2.1.2.2.2 hd
theorem J_aret {x : Nat} {t : FieldType} (hd : decode M.2.1 pc = .ok (.areturn, 1)) (hr : M.2.2.2.1 = some (.array t)) (hq : Q (.inl (some (.ref x))) h) : J g d ca sa M pc lv [.ref x] h Q := by
  intro hg p e R s m args below meth c H locs cells slots mc ms ls C
  refine vx_ret ?_
  refine W.widen (k := mc) (n := ms) (by have := C.2.2.2.1; omega) (by have := C.2.2.2.1; omega) ?_
  have hlocks := C.1.2.2.2.2.1
  exact W.aret (v := .ref (ad g x)) C.1.1 C.1.2.1 (C.1.2.2.2.1.trans hr) (Or.inr ⟨t, rfl⟩) (Or.inr ⟨_, rfl⟩) (fun t ht hW => C.fin (v := some (.ref x)) hq args t ht) C.2.2.1.2.2.2 hd
/-- at a method's start -/
def Pcj (g : GT) (av : List Value) (h : MH) : Array Value → State → Prop := fun v U =>
  v = (av.map (em g)).toArray ∧ (g_s g).WarmedH U.vm ∧ g_n g ≤ U.heap.size ∧ (∀ q, q < g_n g → U.heap[q]? = (g_s g).heap[q]?) ∧ Rel g h U.heap
theorem Pcj_blind (av : List Value) : FrameBlind (Pcj g av h) := fun _ _ _ _ q => q
theorem lv_args_em (g : GT) : ∀ (vs : List Value) (i : Nat), lv_args i (vs.map (em g)) = (lv_args i vs).map (fun q => (q.1, em g q.2))
  | [], i => rfl
  | v :: vs, i => by
    show (i, em g v) :: lv_args (if (em g v).category = 2 then i + 2 else i + 1) (vs.map (em g)) = _
    rw [em_cat, lv_args_em g vs]
    rfl
theorem lg_sl_em (g : GT) : ∀ (vs : List Value), (lg_sl (vs.map (em g))).length = (lg_sl vs).length
  | [] => rfl
  | v :: vs => by
    have ih := lg_sl_em g vs
    unfold lg_sl at ih ⊢
    rw [List.map_cons, List.flatMap_cons, List.flatMap_cons, List.length_append, List.length_append, ih, em_cat]
    split <;> rfl
/-- what is known of a method that is called -/
def MOK (M : MT) (n : Nat) : Prop := Cond.code M.1 M.2.1 M.2.2.1 M.2.2.2.1 ∈ lw_tbl ∧ Cond.initialized M.1.cls ∈ lw_tbl ∧ plainName M.1.cls = true ∧ (M.1.cls ≠ "java/lang/invoke/MethodHandle" ∧ M.1.cls ≠ "java/lang/invoke/VarHandle") ∧ (parseMethodDescriptor M.1.desc).map (fun d => d.parameters.length) = some n ∧ M.2.2.1 ≤ 16 ∧ M.2.2.2.2 = []
abbrev wsj (M : MT) : List Cond := [.code M.1 M.2.1 M.2.2.1 M.2.2.2.1]
abbrev rmj (d ca sa : Nat) : Room := { frames := d + 4, cells := ca, slots := sa, locals := 35 * d + 150 }
theorem J_vxmet {av : List Value} {n : Nat} (hg : OkG g) (hM : MOK M n) (hlen : (lg_sl av).length ≤ M.2.2.1) (hj : J g d ca sa M 0 (lv_args 0 av) [] h Q) : vx_Met g.1 M.1 (wsj M) (rmj d ca sa) (Pcj g av h) (Qo g Q) (Xo g Q) ca sa (fun q => g_n g ≤ q) := by
  refine vx_ofW (cc := M.2.1) (maxL := M.2.2.1) (ret := M.2.2.2.1) hM.2.2.1 rfl ?_
  intro p e s m args below meth c s₁ B hml htab hv
  obtain ⟨rfl, hW, hz, ho, hR⟩ := hv
  have hl := lv_entry (av.map (em g)) (n := M.2.2.1) (by rw [lg_sl_em]; exact hlen)
  rw [lg_entry_eq]
  refine hj hg p e _ s m _ below meth c s.heap [] 0 0 ca sa _ ⟨⟨B.exec, B.bytes, hml, B.returns, B.notSynchronized, (name_of_methodNamed B.named B.method).1, findClass_of_methodNamed B.named, ?_⟩, ⟨hW, hz, ho⟩, ⟨ho, Nat.le_refl _, hR, fun q hq => absurd hq List.not_mem_nil⟩, ⟨Nat.le_refl _, Nat.le_refl _, by omega, by omega, Nat.le_refl _, Nat.le_refl _⟩, ?_⟩
  · rw [hM.2.2.2.2.2.2]
    cases he : c.exceptionTable.toList with
    | nil => rfl
    | cons x l => exact (htab x (by rw [he]; exact List.mem_cons_self)).elim
  · rw [← lv_args_em]
    exact hl
theorem J_met {av : List Value} {n : Nat} (hg : OkG g) (hM : MOK M n) (hlen : (lg_sl av).length ≤ M.2.2.1) (hnx : ∀ E h', ¬ Q (.inr E) h') (hj : J g d ca sa M 0 (lv_args 0 av) [] h Q) : Met g.1 M.1 (wsj M) (rmj d ca sa) (Pcj g av h) (Qo g Q) ca sa (fun q => g_n g ≤ q) := by
  intro p e h1 h2 h3 s m args below h4 h5 h6 h7
  obtain ⟨k, o, e1, e2, e3, e4⟩ := J_vxmet hg hM hlen hj p e h1 h2 h3 s m args below h4 h5 h6 h7
  refine ⟨k, o, e1, e2, e3, ?_⟩
  rcases e4 with e4 | ⟨q, -, E, ce, L, ⟨⟨h', c2, -⟩, -⟩, -⟩
  · exact e4
  · exact absurd c2 (hnx _ _)
/-- behind a call that returned -/
theorem J_run {ca1 sa1 ca2 sa2 : Nat} {Q1 : RT → MH → Prop} {rest : List Value} {a' : Array Value} (hg : OkG g) {p : Program} {e : Env} {R : Room} {s : State} {m : MethodId} {args : Array Value} {below : List Frame} {meth : Method} {c : Code} {H : Heap} {locs : List Loc} {cells slots mc ms : Nat} {ls : Array Slot}
    (C : JC g d ca sa M lv h p R s m meth c H locs cells slots mc ms ls) (hr : va_Run p g.1 e R s m args below meth c H locs cells slots ca1 sa1 (F0 m pc ls (st.map (em g))) (rest.map (em g)) (Qo g Q1 a') (fun q => g_n g ≤ q)) (h1 : ca1 + ca2 ≤ ca) (h2 : sa1 + sa2 ≤ sa)
    (kk : ∀ v h', Q1 (.inl v) h' → J g d ca2 sa2 M (pc + 3) lv (v.toList ++ rest) h' Q) : W p g.1 e R s m args below meth c H locs cells slots (vx_MQ below (Qo g Q) (Xo g Q) args s mc ms (fun q => g_n g ≤ q)) (F0 m pc ls (st.map (em g))) := by
  intro T hT X
  obtain ⟨v, st₀, t, T', L, h0, X', hL, e1, e2, ⟨⟨v', h', c1, c2, c3, c4⟩, c5⟩, hst⟩ := hr T hT X
  cases c1
  obtain ⟨b1, b2, ⟨hoH, hsz, hR, hlo⟩, hroom, hl⟩ := id C
  have C' : JC g d ca2 sa2 M lv h' p R s m meth c T'.heap (locs ++ L) (cells + ca1) (slots + sa1) mc ms ls := by
    refine ⟨b1, b2, ⟨by rw [e1]; exact c4, ?_, by rw [e1]; exact c3, fun q hq => ?_⟩, ?_, hl⟩
    · rw [e1]
      rw [h0] at c5
      exact Nat.le_trans hsz c5
    · rcases List.mem_append.mp hq with h9 | h9
      · exact hlo q h9
      · exact hL q h9
    · obtain ⟨z1, z2, z3, z4, z5, z6⟩ := hroom
      exact ⟨z1, z2, by omega, by omega, z5, z6⟩
  obtain ⟨t2, a1, a2⟩ := kk v' h' c2 hg p e R s m args below meth c T'.heap (locs ++ L) (cells + ca1) (slots + sa1) mc ms ls C' T' rfl X'
  refine ⟨t2, hst t2 ?_, a2⟩
  have e9 : (Option.map (em g) v').toList ++ rest.map (em g) = (v'.toList ++ rest).map (em g) := by
    rw [List.map_append]
    cases v' <;> rfl
  show Steps _ _ _ (T'.setTop (F0 m (pc + 3) ls ((Option.map (em g) v').toList ++ rest.map (em g)))) t2
  rw [e9]
  exact a1
/-- the words of a call, by the callee -/
theorem cbj {s : State} {R : Room} {args : Array Value} {own : String} {index n d1 ca1 sa1 : Nat} {M1 : MT} (hg : OkG g) (hW : (g_s g).WarmedH s.vm) (hM : MOK M1 n) (hl : Cond.methodLink own index M1.1 ∈ lw_tbl) (hf : d1 + 4 + 1 ≤ R.frames) (ho : 35 * (d1 + 1) + 150 ≤ R.locals) : CallB R s args own index M1.1 M1.2.1 M1.2.2.1 M1.2.2.2.1 (wsj M1) (rmj d1 ca1 sa1) ca1 sa1 n := by
  obtain ⟨m1, m2, m3, m4, m5, m6, m7⟩ := hM
  refine ⟨rfl, rfl, hf, by show 8 + (M1.2.2.1 + 11) + (35 * d1 + 150) ≤ R.locals; omega, ?_, List.mem_cons_self, wd hg hW m1 (Or.inl rfl) args, wd hg hW m2 (Or.inl rfl) args, m4, fun sig h9 => ?_, wd hg hW hl (Or.inl rfl) args⟩
  · intro w hw a' U hWU
    rw [List.mem_singleton.mp hw]
    exact word_at hWU (Or.inl rfl) (wd hg hW m1 (Or.inl rfl) args)
  · rw [h9] at m5
    exact (Option.some.inj m5).symm
theorem cnj {s : State} {R : Room} {args : Array Value} {own host : String} {index n d1 ca1 sa1 : Nat} {M1 : MT} (hg : OkG g) (hW : (g_s g).WarmedH s.vm) (hM : MOK M1 n) (hl : Cond.methodLinkNest own index M1.1 host ∈ lw_tbl) (hf : d1 + 4 + 1 ≤ R.frames) (ho : 35 * (d1 + 1) + 150 ≤ R.locals) : va_CN R s args own index M1.1 host M1.2.1 M1.2.2.1 M1.2.2.2.1 (wsj M1) (rmj d1 ca1 sa1) ca1 sa1 n := by
  obtain ⟨m1, m2, m3, m4, m5, m6, m7⟩ := hM
  refine ⟨⟨rfl, rfl, hf, by show 8 + (M1.2.2.1 + 11) + (35 * d1 + 150) ≤ R.locals; omega, ?_, List.mem_cons_self⟩, wd hg hW m1 (Or.inl rfl) args, wd hg hW m2 (Or.inl rfl) args, m4, fun sig h9 => ?_, va_Nw.use rfl (va_Nw.warmM hW (va_Nw.of rfl (hg.2.1 _ hl)))⟩
  · intro w hw a' U hWU
    rw [List.mem_singleton.mp hw]
    exact word_at hWU (Or.inl rfl) (wd hg hW m1 (Or.inl rfl) args)
  · rw [h9] at m5
    exact (Option.some.inj m5).symm
theorem prj {p : Program} {R : Room} {s : State} {m : MethodId} {meth : Method} {c : Code} {H : Heap} {locs : List Loc} {cells slots mc ms : Nat} {ls : Array Slot} (C : JC g d ca sa M lv h p R s m meth c H locs cells slots mc ms ls) (av : List Value) : ∀ U : State, U.heap = H → s.WarmedH U.vm → Pcj g av h (av.map (em g)).toArray U := by
  obtain ⟨b1, ⟨hW, hz, ho⟩, ⟨hoH, hsz, hR, hlo⟩, hroom, hl⟩ := C
  intro U hU hWU
  exact ⟨rfl, State.WarmedH.trans hW hWU, by rw [hU]; omega, by rw [hU]; exact hoH, by rw [hU]; exact hR⟩
theorem catj (g : GT) (rest : List Value) : ((rest.map (em g)).map fun v => v.category).sum = (rest.map fun v => v.category).sum := by
  rw [List.map_map]
  congr 1
  apply List.map_congr_left
  intro v _
  exact em_cat g v
theorem recv_j {p : Program} {R : Room} {s : State} {m : MethodId} {meth : Method} {c : Code} {H : Heap} {locs : List Loc} {cells slots mc ms : Nat} {ls : Array Slot} {a ci : Nat} {fs : List Value} {C0 : String} {T : u_T} {N : Nat} (hg : OkG g) (C : JC g d ca sa M lv h p R s m meth c H locs cells slots mc ms ls) (ha : h.2 a = some (.inr (ci, fs))) (hc : vwCl[ci]? = some (C0, T, N)) : ∃ cellB : Cell, H[ad g a]? = some cellB ∧ cellB.vm.isStatics = false ∧ s.vm.findClass C0 = some cellB.cls := by
  obtain ⟨-, -, r, h1, cell, g1, g2, g3, -⟩ := C.2.2.1.2.2.1.2.2 a _ ha
  exact ⟨cell, g1, by rw [g3]; rfl, by rw [g2]; exact ((kd hg C.2.1.1).1 ci _ hc).2.1⟩
/-- an own method called by its name, on an object of its own kind; it throws nothing -/
theorem J_callV {M1 : MT} {index n a ci ca1 sa1 ca2 sa2 : Nat} {fs As : List Value} {Q1 : RT → MH → Prop} {T : u_T} {N : Nat} (hd : decode M.2.1 pc = .ok (.invokevirtual index, 3)) (hM : MOK M1 n) (hl : Cond.methodLink M.1.cls index M1.1 ∈ lw_tbl) (hi : Cond.instanceMethod M1.1 ∈ lw_tbl) (hs : Cond.selects M1.1.cls M1.1 M1.1 ∈ lw_tbl)
    (hc : vwCl[ci]? = some (M1.1.cls, T, N)) (ha : h.2 a = some (.inr (ci, fs))) (hn : As.length = n) (hlen : (lg_sl (.ref a :: As)).length ≤ M1.2.2.1) (hst : (st.map fun v => v.category).sum ≤ 8) (hnx : ∀ E h', ¬ Q1 (.inr E) h') (hj : J g d ca1 sa1 M1 0 (lv_args 0 (.ref a :: As)) [] h Q1) (h1 : ca1 + ca2 ≤ ca) (h2 : sa1 + sa2 ≤ sa)
    (kk : ∀ v h', Q1 (.inl v) h' → J g (d + 1) ca2 sa2 M (pc + 3) lv (v.toList ++ st) h' Q) : J g (d + 1) ca sa M pc lv (As.reverse ++ .ref a :: st) h Q := by
  intro hg p e R s m args below meth c H locs cells slots mc ms ls C
  have hW := C.2.1.1
  have hr := va_runV (As := As.map (em g)) (b := ad g a) (rest := st.map (em g)) (g := F0 m pc ls ((As.reverse ++ .ref a :: st).map (em g))) (cells := cells) (slots := slots) (locs := locs) (H := H) (below := below) (e := e) (l := g.1) (Ts := []) (nL := M.2.2.1) (cc := M.2.1) (p := p) (m := m) (c := c) (s := s) (args := args) (own := M.1.cls) (meth := meth) (R := R) ⟨C.1.1, C.1.2.1, C.1.2.2.1, C.1.2.2.2.2.2.2.1, fun w hw => absurd hw List.not_mem_nil⟩ (J_met hg hM hlen hnx hj) (C := M1.1.cls) (n := n) (index := index) ⟨cbj hg hW hM hl (by have := C.2.2.2.1.1; omega) (by have := C.2.2.2.1.2.1; omega), wd hg hW hi (Or.inl rfl) args, wd hg hW hs (Or.inl rfl) args⟩ ⟨Pcj_blind _, recv_j hg C ha hc, prj C (.ref a :: As)⟩ rfl (by rw [List.length_map]; exact hn) C.2.2.2.2.1 (by rw [List.map_append, List.map_reverse]; rfl) (by rw [catj]; show 2 * 0 + _ ≤ 8; omega) hd (by have := C.2.2.2.1; omega)
  exact J_run hg C hr h1 h2 kk
/-- a static own method of the same file's kind -/
theorem J_callS {M1 : MT} {index n ca1 sa1 ca2 sa2 : Nat} {As : List Value} {Q1 : RT → MH → Prop} (hd : decode M.2.1 pc = .ok (.invokestatic index, 3)) (hM : MOK M1 n) (hl : Cond.methodLink M.1.cls index M1.1 ∈ lw_tbl) (hs : Cond.static M1.1 ∈ lw_tbl)
    (hn : As.length = n) (hlen : (lg_sl As).length ≤ M1.2.2.1) (hst : (st.map fun v => v.category).sum ≤ 8) (hnx : ∀ E h', ¬ Q1 (.inr E) h') (hj : J g d ca1 sa1 M1 0 (lv_args 0 As) [] h Q1) (h1 : ca1 + ca2 ≤ ca) (h2 : sa1 + sa2 ≤ sa)
    (kk : ∀ v h', Q1 (.inl v) h' → J g (d + 1) ca2 sa2 M (pc + 3) lv (v.toList ++ st) h' Q) : J g (d + 1) ca sa M pc lv (As.reverse ++ st) h Q := by
  intro hg p e R s m args below meth c H locs cells slots mc ms ls C
  have hW := C.2.1.1
  have hr := va_runS (As := As.map (em g)) (rest := st.map (em g)) (g := F0 m pc ls ((As.reverse ++ st).map (em g))) (cells := cells) (slots := slots) (locs := locs) (H := H) (below := below) (e := e) (l := g.1) (Ts := []) (nL := M.2.2.1) (cc := M.2.1) (p := p) (m := m) (c := c) (s := s) (args := args) (own := M.1.cls) (meth := meth) (R := R) ⟨C.1.1, C.1.2.1, C.1.2.2.1, C.1.2.2.2.2.2.2.1, fun w hw => absurd hw List.not_mem_nil⟩ (J_met hg hM hlen hnx hj) (n := n) (index := index) ⟨cbj hg hW hM hl (by have := C.2.2.2.1.1; omega) (by have := C.2.2.2.1.2.1; omega), wd hg hW hs (Or.inl rfl) args⟩ ⟨Pcj_blind _, prj C As⟩ rfl (by rw [List.length_map]; exact hn) C.2.2.2.2.1 (by rw [List.map_append, List.map_reverse]) (by rw [catj]; show 2 * 0 + _ ≤ 8; omega) hd (by have := C.2.2.2.1; omega)
  exact J_run hg C hr h1 h2 kk
/-- a private static method of a nest mate -/
theorem J_callSN {M1 : MT} {host : String} {index n ca1 sa1 ca2 sa2 : Nat} {As : List Value} {Q1 : RT → MH → Prop} (hd : decode M.2.1 pc = .ok (.invokestatic index, 3)) (hM : MOK M1 n) (hl : Cond.methodLinkNest M.1.cls index M1.1 host ∈ lw_tbl) (hs : Cond.static M1.1 ∈ lw_tbl)
    (hn : As.length = n) (hlen : (lg_sl As).length ≤ M1.2.2.1) (hst : (st.map fun v => v.category).sum ≤ 8) (hnx : ∀ E h', ¬ Q1 (.inr E) h') (hj : J g d ca1 sa1 M1 0 (lv_args 0 As) [] h Q1) (h1 : ca1 + ca2 ≤ ca) (h2 : sa1 + sa2 ≤ sa)
    (kk : ∀ v h', Q1 (.inl v) h' → J g (d + 1) ca2 sa2 M (pc + 3) lv (v.toList ++ st) h' Q) : J g (d + 1) ca sa M pc lv (As.reverse ++ st) h Q := by
  intro hg p e R s m args below meth c H locs cells slots mc ms ls C
  have hW := C.2.1.1
  have hr := va_runSN (As := As.map (em g)) (rest := st.map (em g)) (g := F0 m pc ls ((As.reverse ++ st).map (em g))) (cells := cells) (slots := slots) (locs := locs) (H := H) (below := below) (e := e) (l := g.1) (Ts := []) (nL := M.2.2.1) (cc := M.2.1) (p := p) (m := m) (c := c) (s := s) (args := args) (own := M.1.cls) (meth := meth) (R := R) ⟨C.1.1, C.1.2.1, C.1.2.2.1, C.1.2.2.2.2.2.2.1, fun w hw => absurd hw List.not_mem_nil⟩ (J_met hg hM hlen hnx hj) (n := n) (index := index) (host := host) ⟨cnj hg hW hM hl (by have := C.2.2.2.1.1; omega) (by have := C.2.2.2.1.2.1; omega), wd hg hW hs (Or.inl rfl) args, trivial⟩ ⟨Pcj_blind _, prj C As⟩ rfl (by rw [List.length_map]; exact hn) C.2.2.2.2.1 (by rw [List.map_append, List.map_reverse]) (by rw [catj]; show 2 * 0 + _ ≤ 8; omega) hd (by have := C.2.2.2.1; omega)
  exact J_run hg C hr h1 h2 kk
/-- a constructor -/
theorem J_callI {M1 : MT} {index n a ca1 sa1 ca2 sa2 : Nat} {As : List Value} {Q1 : RT → MH → Prop} (hd : decode M.2.1 pc = .ok (.invokespecial index, 3)) (hM : MOK M1 n) (hl : Cond.methodLink M.1.cls index M1.1 ∈ lw_tbl) (hi : Cond.instanceMethod M1.1 ∈ lw_tbl) (hy : M1.1.name = "<init>") (hrt : M1.2.2.2.1 = none)
    (hn : As.length = n) (hlen : (lg_sl (.ref a :: As)).length ≤ M1.2.2.1) (hst : (st.map fun v => v.category).sum ≤ 8) (hnx : ∀ E h', ¬ Q1 (.inr E) h') (hj : J g d ca1 sa1 M1 0 (lv_args 0 (.ref a :: As)) [] h Q1) (h1 : ca1 + ca2 ≤ ca) (h2 : sa1 + sa2 ≤ sa)
    (kk : ∀ v h', Q1 (.inl v) h' → J g (d + 1) ca2 sa2 M (pc + 3) lv (v.toList ++ st) h' Q) : J g (d + 1) ca sa M pc lv (As.reverse ++ .ref a :: st) h Q := by
  intro hg p e R s m args below meth c H locs cells slots mc ms ls C
  have hW := C.2.1.1
  have hcb := cbj (R := R) (args := args) (ca1 := ca1) (sa1 := sa1) (d1 := d) hg hW hM hl (by have := C.2.2.2.1.1; omega) (by have := C.2.2.2.1.2.1; omega)
  rw [hrt] at hcb
  have hr := va_runI (As := As.map (em g)) (b := ad g a) (rest := st.map (em g)) (g := F0 m pc ls ((As.reverse ++ .ref a :: st).map (em g))) (cells := cells) (slots := slots) (locs := locs) (H := H) (below := below) (e := e) (l := g.1) (Ts := []) (nL := M.2.2.1) (cc := M.2.1) (p := p) (m := m) (c := c) (s := s) (args := args) (own := M.1.cls) (meth := meth) (R := R) ⟨C.1.1, C.1.2.1, C.1.2.2.1, C.1.2.2.2.2.2.2.1, fun w hw => absurd hw List.not_mem_nil⟩ (J_met hg hM hlen hnx hj) (n := n) (index := index) ⟨hcb, hy, wd hg hW hi (Or.inl rfl) args⟩ ⟨Pcj_blind _, prj C (.ref a :: As)⟩ rfl (by rw [List.length_map]; exact hn) C.2.2.2.2.1 (by rw [List.map_append, List.map_reverse]; rfl) (by rw [catj]; show 2 * 0 + _ ≤ 8; omega) hd (by have := C.2.2.2.1; omega)
  exact J_run hg C hr h1 h2 kk
/-- a private constructor of a nest mate -/
theorem J_callIN {M1 : MT} {host : String} {index n a ca1 sa1 ca2 sa2 : Nat} {As : List Value} {Q1 : RT → MH → Prop} (hd : decode M.2.1 pc = .ok (.invokespecial index, 3)) (hM : MOK M1 n) (hl : Cond.methodLinkNest M.1.cls index M1.1 host ∈ lw_tbl) (hi : Cond.instanceMethod M1.1 ∈ lw_tbl) (hy : M1.1.name = "<init>") (hrt : M1.2.2.2.1 = none)
    (hn : As.length = n) (hlen : (lg_sl (.ref a :: As)).length ≤ M1.2.2.1) (hst : (st.map fun v => v.category).sum ≤ 8) (hnx : ∀ E h', ¬ Q1 (.inr E) h') (hj : J g d ca1 sa1 M1 0 (lv_args 0 (.ref a :: As)) [] h Q1) (h1 : ca1 + ca2 ≤ ca) (h2 : sa1 + sa2 ≤ sa)
    (kk : ∀ v h', Q1 (.inl v) h' → J g (d + 1) ca2 sa2 M (pc + 3) lv (v.toList ++ st) h' Q) : J g (d + 1) ca sa M pc lv (As.reverse ++ .ref a :: st) h Q := by
  intro hg p e R s m args below meth c H locs cells slots mc ms ls C
  have hW := C.2.1.1
  have hcb := cnj (R := R) (args := args) (ca1 := ca1) (sa1 := sa1) (d1 := d) hg hW hM hl (by have := C.2.2.2.1.1; omega) (by have := C.2.2.2.1.2.1; omega)
  rw [hrt] at hcb
  have hr := va_runIN (As := As.map (em g)) (b := ad g a) (rest := st.map (em g)) (g := F0 m pc ls ((As.reverse ++ .ref a :: st).map (em g))) (cells := cells) (slots := slots) (locs := locs) (H := H) (below := below) (e := e) (l := g.1) (Ts := []) (nL := M.2.2.1) (cc := M.2.1) (p := p) (m := m) (c := c) (s := s) (args := args) (own := M.1.cls) (meth := meth) (R := R) ⟨C.1.1, C.1.2.1, C.1.2.2.1, C.1.2.2.2.2.2.2.1, fun w hw => absurd hw List.not_mem_nil⟩ (J_met hg hM hlen hnx hj) (n := n) (index := index) (host := host) ⟨hcb, hy, wd hg hW hi (Or.inl rfl) args⟩ ⟨Pcj_blind _, prj C (.ref a :: As)⟩ rfl (by rw [List.length_map]; exact hn) C.2.2.2.2.1 (by rw [List.map_append, List.map_reverse]; rfl) (by rw [catj]; show 2 * 0 + _ ≤ 8; omega) hd (by have := C.2.2.2.1; omega)
  exact J_run hg C hr h1 h2 kk
end JE
end
section
-- rules for what makes cells, for stores of references, for copies, for the script
def NW (own : String) (index ci N : Nat) (fs : List Value) : Prop := ∃ (C : String) (T : u_T) (ty : Nat → FieldType), vwCl[ci]? = some (C, T, N) ∧ Cond.classLink own index C ∈ lw_tbl ∧ Cond.instantiable C N ∈ lw_tbl ∧ Cond.initialized C ∈ lw_tbl ∧ (∀ w ∈ u_ws C T N, w ∈ lw_tbl) ∧ (∀ k, k < N → parseFieldDescriptor (T k).2.2.1 = some (ty k)) ∧ (∀ j, j < N → defaultValue (ty j) = vp_V fs j) ∧ ∀ g, fs.map (em g) = fs
section JA
variable {g : GT} {d ca sa : Nat} {M : MT} {pc : Nat} {lv lv' : List (Nat × Value)} {st : List Value} {h : MH} {Q Q' : RT → MH → Prop}
/-- behind the making of a cell -/
theorem JC.add {p : Program} {R : Room} {s : State} {m : MethodId} {meth : Method} {c : Code} {H H' : Heap} {locs : List Loc} {cells slots mc ms n ca' sa' : Nat} {ls : Array Slot} {c1 : MC} (C : JC g d ca sa M lv h p R s m meth c H locs cells slots mc ms ls) (h1 : ca' + 1 ≤ ca) (h2 : sa' + n ≤ sa) (hz : H'.size = H.size + 1) (hoq : ∀ q, q < H.size → H'[q]? = H[q]?) (hat : va_at (g_D g) vwCl (H.size, emC g c1) H') : JC g d ca' sa' M lv (h.1 + 1, hset h.2 h.1 c1) p R s m meth c H' locs (cells + 1) (slots + n) mc ms ls := by
  obtain ⟨b1, b2, ⟨hoH, hsz, hR, hlo⟩, hroom, hl⟩ := C
  refine ⟨b1, b2, ⟨fun q hq => ?_, by omega, Rel.add hR hz hoq hat, hlo⟩, ?_, hl⟩
  · rw [hoq q (by have := hR.1; have := hR.2.1; omega)]
    exact hoH q hq
  · obtain ⟨z1, z2, z3, z4, z5, z6⟩ := hroom
    exact ⟨z1, z2, by omega, by omega, z5, z6⟩
theorem J_new {index ci N ca' sa' : Nat} {fs : List Value} (hd : decode M.2.1 pc = .ok (.new index, 3)) (hw : NW M.1.cls index ci N fs) (h1 : ca' + 1 ≤ ca) (h2 : sa' + N ≤ sa) (kk : J g d ca' sa' M (pc + 3) lv (.ref h.1 :: st) (h.1 + 1, hset h.2 h.1 (.inr (ci, fs))) Q) : J g d ca sa M pc lv st h Q := by
  intro hg p e R s m args below meth c H locs cells slots mc ms ls C
  obtain ⟨Cn, T, ty, hc, w1, w2, w3, hin, hty, hfs, hem⟩ := hw
  have hW := C.2.1.1
  have hKn := (kd hg hW).1 ci _ hc
  have hrm := C.2.2.2.1
  have hnx := C.2.2.1.2.2.1.next
  refine W.newcK C.1.1 C.1.2.1 C.1.2.2.2.2.2.2.1 (wd hg hW w1 (Or.inl rfl) args) (wd hg hW w2 (Or.inl rfl) args) (wd hg hW w3 (Or.inl rfl) args) rfl hd (by omega) (by omega) hKn.2.1 rfl fun H1 kC hkC e1 z1 o1 => ?_
  have hat : va_at (g_D g) vwCl (H.size, emC g (.inr (ci, fs))) H1 := by
    refine ⟨_, hc, ?_⟩
    show t_OB _ _ _ _ _ (vp_V (fs.map (em g)))
    rw [hem g]
    exact (u_born (args := args) (s := s) ty (fun w hw' => wd hg hW (hin w hw') (Or.inl (lay_good hw')) args) (fun w h => h) hKn hkC e1 hty).to hfs
  have k9 := kk hg p e R s m args below meth c H1 locs (cells + 1) (slots + N) mc ms ls (C.add h1 h2 z1 o1 hat)
  rw [← hnx]
  exact k9
theorem J_newI {n ca' sa' : Nat} {x : Int32} (hd : decode M.2.1 pc = .ok (.newarray .int, 2)) (hx : x = nI n) (hn : n < 100000) (h1 : ca' + 1 ≤ ca) (h2 : sa' + n ≤ sa) (kk : J g d ca' sa' M (pc + 2) lv (.ref h.1 :: st) (h.1 + 1, hset h.2 h.1 (aI n (fun _ => 0))) Q) : J g d ca sa M pc lv (.int x :: st) h Q := by
  intro hg p e R s m args below meth c H locs cells slots mc ms ls C
  subst hx
  have hW := C.2.1.1
  have hrm := C.2.2.2.1
  have hnx := C.2.2.1.2.2.1.next
  refine va_newaK C.1.1 C.1.2.1 (atype := .int) (wd hg hW q2_218 (Or.inr ⟨_, rfl⟩) args) rfl hd rfl (nI_pos (by omega)) (nI_clamp (by omega)) (by show n * 4 ≤ _; omega) (by omega) (by omega) rfl fun H1 cA e1 z1 o1 hAr hNm => ?_
  have hcy : cA = g_c g 0 := by
    have h9 : s.vm.findClass ("[" ++ (aty 0).toString) = some (g_c g 0) := by rw [hW.alike.findClass]; exact (hg.2.2.2.1 0 (by omega)).2
    exact Option.some.inj (hNm.symm.trans h9)
  subst hcy
  have k9 := kk hg p e R s m args below meth c H1 locs (cells + 1) (slots + n) mc ms ls (C.add (c1 := aI n (fun _ => 0)) h1 h2 z1 o1 e1)
  rw [← hnx]
  exact k9
theorem push_at {H : Heap} {cA : ClassId} {n : Nat} : (H.push ({ cls := cA, slots := Array.replicate n .null, vm := .none } : Cell))[H.size]? = some (arrV cA n (fun _ => .null)) := by rw [Array.getElem?_push_size, ← arrV_new]
theorem push_old {H : Heap} {x : Cell} (q : Nat) (hq : q < H.size) : (H.push x)[q]? = H[q]? := by rw [Array.getElem?_push, if_neg (Nat.ne_of_lt hq)]
theorem J_newT {index n ca' sa' : Nat} {x : Int32} (hd : decode M.2.1 pc = .ok (.anewarray index, 3)) (hw : Cond.classLink M.1.cls index "BeanGroves$Tree" ∈ lw_tbl) (hx : x = nI n) (hn : n < 100000) (h1 : ca' + 1 ≤ ca) (h2 : sa' + n ≤ sa) (kk : J g d ca' sa' M (pc + 3) lv (.ref h.1 :: st) (h.1 + 1, hset h.2 h.1 (aT n (fun _ => none))) Q) : J g d ca sa M pc lv (.int x :: st) h Q := by
  intro hg p e R s m args below meth c H locs cells slots mc ms ls C
  subst hx
  have hW := C.2.1.1
  have hrm := C.2.2.2.1
  have hnx := C.2.2.1.2.2.1.next
  have hcl : (nI n).toNatClampNeg = n := nI_clamp (by omega)
  refine W.anew C.1.1 C.1.2.1 C.1.2.2.2.2.2.2.1 (wd hg hW hw (Or.inl rfl) args) (va_AO.use (va_AO.moved hW.alike (va_AO.of (hg.2.1 _ q2_220)))) rfl hd rfl (nI_pos (by omega)) (by rw [hcl]; omega) (by omega) (by rw [hcl]; omega) fun cA kA comp f1 f2 f3 f4 => ?_
  have hcy : cA = g_c g 3 := by
    have h9 : s.vm.findClass ("[" ++ (aty 3).toString) = some (g_c g 3) := by rw [hW.alike.findClass]; exact (hg.2.2.2.1 3 (by omega)).2
    exact Option.some.inj (f1.symm.trans h9)
  subst hcy
  rw [hcl]
  have k9 := kk hg p e R s m args below meth c _ locs (cells + 1) (slots + n) mc ms ls (C.add (c1 := aT n (fun _ => none)) h1 h2 (by rw [Array.size_push]) push_old push_at)
  rw [← hnx]
  exact k9
theorem over_alike {t : FieldType} {a a' : Array Value} {u U : State} (hvm : u.vm.Alike U.vm) (h : (Cond.arrayOver (.array t)).before a u = true) : (Cond.arrayOver (.array t)).before a' U = true := by
  obtain ⟨comp, c, k, h1, h2, h3, h4, h5⟩ := arrayOverA_spec h
  obtain ⟨k', hk', he⟩ := hvm.2.2 _ _ h3
  have hkind : k'.kind = .array comp (.array t) := by rw [he]; exact h4
  have f1 : U.vm.findClass (FieldType.array t).toString = some comp := by rw [hvm.findClass]; exact h1
  have f2 : U.vm.findClass ("[" ++ (FieldType.array t).toString) = some c := by rw [hvm.findClass]; exact h5
  have hi : (U.vm.classes.findIdx? fun x => match x.kind with | .array component _ => component == comp | _ => false) = some c := by
    rw [hvm.findIdx?_eq _ (fun _ => rfl)]; exact h2
  simp only [Cond.before, Cond.holds, Cond.value, f1, Option.bind_some, beq_iff_eq]
  rw [Option.bind_eq_some_iff]
  refine ⟨c, hi, ?_⟩
  simp [hk', hkind, f2]
theorem J_newG {index n ca' sa' : Nat} {x : Int32} (hd : decode M.2.1 pc = .ok (.anewarray index, 3)) (hw : Cond.classLink M.1.cls index "[I" ∈ lw_tbl) (hx : x = nI n) (hn : n < 100000) (h1 : ca' + 1 ≤ ca) (h2 : sa' + n ≤ sa) (kk : J g d ca' sa' M (pc + 3) lv (.ref h.1 :: st) (h.1 + 1, hset h.2 h.1 (aG n (fun _ => none))) Q) : J g d ca sa M pc lv (.int x :: st) h Q := by
  intro hg p e R s m args below meth c H locs cells slots mc ms ls C
  subst hx
  have hW := C.2.1.1
  have hrm := C.2.2.2.1
  have hnx := C.2.2.1.2.2.1.next
  have hcl : (nI n).toNatClampNeg = n := nI_clamp (by omega)
  refine W.anewA (t := .int) C.1.1 C.1.2.1 C.1.2.2.2.2.2.2.1 (wd hg hW hw (Or.inl rfl) args) (over_alike hW.alike (hg.2.1 _ q2_198)) rfl hd rfl (nI_pos (by omega)) (by rw [hcl]; omega) (by omega) (by rw [hcl]; omega) fun cA kA comp f1 f2 f3 f4 => ?_
  have hcy : cA = g_c g 2 := by
    have h9 : s.vm.findClass ("[" ++ (aty 2).toString) = some (g_c g 2) := by rw [hW.alike.findClass]; exact (hg.2.2.2.1 2 (by omega)).2
    exact Option.some.inj (f1.symm.trans h9)
  subst hcy
  rw [hcl]
  have k9 := kk hg p e R s m args below meth c _ locs (cells + 1) (slots + n) mc ms ls (C.add (c1 := aG n (fun _ => none)) h1 h2 (by rw [Array.size_push]) push_old push_at)
  rw [← hnx]
  exact k9
theorem em_up {g : GT} {f : Nat → Option Nat} {n j b : Nat} {cA : ClassId} : (vp_cell cA (n, .inr (.inr (.inr (.inr (fun i => (f i).map (ad g))))))).setSlot j (.ref (ad g b)) = vp_cell cA (n, .inr (.inr (.inr (.inr (fun i => ((va_up f j (some b)) i).map (ad g)))))) := by
  rw [vp_cell_q, vp_cell_q, arrV_store]
  congr 1
  funext q
  by_cases hq : q = j
  · subst hq
    simp [updV, va_up, va_rf]
  · simp [updV, va_up, hq]
theorem J_astT {a n j b : Nat} {f : Nat → Option Nat} {fs : List Value} {i : Int32} (hd : decode M.2.1 pc = .ok (.aastore, 1)) (ha : h.2 a = some (aT n f)) (hb : h.2 b = some (.inr (1, fs))) (hi : i = nI j) (hj : j < n) (hn : n < 2 ^ 31) (kk : J g d ca sa M (pc + 1) lv st (h.1, hset h.2 a (aT n (va_up f j (some b)))) Q) : J g d ca sa M pc lv (.ref b :: .int i :: .ref a :: st) h Q := by
  intro hg p e R s m args below meth c H locs cells slots mc ms ls C
  subst hi
  have hjc : (nI j).toNatClampNeg = j := nI_clamp (by omega)
  obtain ⟨-, -, hat⟩ := C.2.2.1.2.2.1.2.2 a _ ha
  obtain ⟨-, -, r, hr1, cellV, g1, g2, g3, -⟩ := C.2.2.1.2.2.1.2.2 b _ hb
  have hW := C.2.1.1
  have hcls := ((kd hg hW).1 1 _ (rfl : vwCl[1]? = some (RX1, TX1, 9))).2
  obtain ⟨-, k0, hk0, cm0, hkk0⟩ := ar_ok hg hW (t := 3) (by omega) n (fun j => va_rf ((f j).map (ad g)))
  obtain ⟨kC, hkC, -⟩ := hcls.2
  have hover := va_AO.use (A := args) (va_AO.moved hW.alike (va_AO.of (hg.2.1 _ q2_220)))
  obtain ⟨comp, cA, kA, o1, o2, o3, o4, o5⟩ := Cond.arrayOver_spec hover
  have hcy : cA = g_c g 3 := by
    have h9 : s.vm.findClass ("[" ++ (aty 3).toString) = some (g_c g 3) := by rw [hW.alike.findClass]; exact (hg.2.2.2.1 3 (by omega)).2
    exact Option.some.inj (o5.symm.trans h9)
  subst hcy
  have hcomp : comp = (g_D g).1 1 := Option.some.inj (o1.symm.trans hcls.1)
  subst hcomp
  refine W.aast C.1.1 C.1.2.1 hat (fun q h => by cases h) (fun h => by cases h) o3 o4 rfl hkC ⟨nI_pos (by omega), ?_⟩ g1 (fun q h => by rw [g3] at h; cases h) (by rw [g2]; exact hkC) (by rw [g2]; exact va_assign hcls) rfl rfl hd fun H1 e z oq => ?_
  · show (nI j).toNatClampNeg < (arrV (g_c g 3) n (fun j => va_rf ((f j).map (ad g)))).slots.size
    rw [arrV_size, hjc]
    exact hj
  · refine kk hg p _ R s m args below meth c H1 _ cells slots mc ms ls (C.put ha z oq ?_)
    show H1[ad g a]? = some _
    rw [e, hjc]
    exact congrArg some em_up
theorem J_astG {a n j b k : Nat} {f : Nat → Option Nat} {f2 : Nat → Int32} {i : Int32} (hd : decode M.2.1 pc = .ok (.aastore, 1)) (ha : h.2 a = some (aG n f)) (hb : h.2 b = some (aI k f2)) (hi : i = nI j) (hj : j < n) (hn : n < 2 ^ 31) (kk : J g d ca sa M (pc + 1) lv st (h.1, hset h.2 a (aG n (va_up f j (some b)))) Q) : J g d ca sa M pc lv (.ref b :: .int i :: .ref a :: st) h Q := by
  intro hg p e R s m args below meth c H locs cells slots mc ms ls C
  subst hi
  have hjc : (nI j).toNatClampNeg = j := nI_clamp (by omega)
  obtain ⟨-, -, hat⟩ := C.2.2.1.2.2.1.2.2 a _ ha
  obtain ⟨-, -, hatb⟩ := C.2.2.1.2.2.1.2.2 b _ hb
  have hW := C.2.1.1
  have hover : (Cond.arrayOver (.array .int)).before args s = true := over_alike hW.alike (hg.2.1 _ q2_198)
  obtain ⟨comp, cA, kA, o1, o2, o3, o4, o5⟩ := arrayOverA_spec hover
  have hcy : cA = g_c g 2 := by
    have h9 : s.vm.findClass ("[" ++ (aty 2).toString) = some (g_c g 2) := by rw [hW.alike.findClass]; exact (hg.2.2.2.1 2 (by omega)).2
    exact Option.some.inj (o5.symm.trans h9)
  subst hcy
  have h9 : s.vm.findClass ("[" ++ (aty 0).toString) = some (g_c g 0) := by rw [hW.alike.findClass]; exact (hg.2.2.2.1 0 (by omega)).2
  have hcomp : comp = g_c g 0 := Option.some.inj (o1.symm.trans h9)
  subst hcomp
  obtain ⟨-, k0, hk0, cm0, hkk0⟩ := ar_ok hg hW (t := 0) (by omega) n (fun j => .int (f2 j))
  refine W.aast C.1.1 C.1.2.1 hat (fun q h => by cases h) (fun h => by cases h) o3 o4 rfl hk0 ⟨nI_pos (by omega), ?_⟩ hatb (fun q h => by cases h) hk0 ?_ rfl rfl hd fun H1 e z oq => ?_
  · show (nI j).toNatClampNeg < (arrV (g_c g 2) n (fun j => va_rf ((f j).map (ad g)))).slots.size
    rw [arrV_size, hjc]
    exact hj
  · show s.vm.assignable (g_c g 0) (g_c g 0) = true
    show ((g_c g 0 == g_c g 0) || _) = true
    rw [beq_self_eq_true, Bool.true_or]
  · refine kk hg p _ R s m args below meth c H1 _ cells slots mc ms ls (C.put ha z oq ?_)
    show H1[ad g a]? = some _
    rw [e, hjc]
    exact congrArg some em_up
/-- the script -/
theorem J_slen (hd : decode M.2.1 pc = .ok (.arraylength, 1)) (kk : J g d ca sa M (pc + 1) lv (.int (nI (g_L g)) :: st) h Q) : J g d ca sa M pc lv (.ref 0 :: st) h Q := by
  intro hg p e R s m args below meth c H locs cells slots mc ms ls C
  obtain ⟨scr, h1, h2, h3, h4, h5⟩ := hg.2.2.2.2.1
  refine W.alen (n := nI (g_L g)) C.1.1 C.1.2.1 (a := ad g 0) (cell := scr) (by rw [show ad g 0 = g_b g from if_pos rfl, C.2.2.1.1 _ hg.2.2.2.2.2.1]; exact h1) (State.isArrayOf_alike C.2.1.1.alike h2) (by rw [h4]; rfl) rfl rfl hd (kk hg p e R s m args below meth c H locs cells slots mc ms ls C)
theorem J_sld {j : Nat} {i : Int32} (hd : decode M.2.1 pc = .ok (.iaload, 1)) (hi : i = nI j) (hj : OkG g → j < g_L g) (kk : J g d ca sa M (pc + 1) lv (.int (g_x g j) :: st) h Q) : J g d ca sa M pc lv (.int i :: .ref 0 :: st) h Q := by
  intro hg p e R s m args below meth c H locs cells slots mc ms ls C
  have hj := hj hg
  subst hi
  have hL := hg.2.2.2.2.2.2.1
  have hjc : (nI j).toNatClampNeg = j := nI_clamp (by omega)
  obtain ⟨scr, h1, h2, h3, h4, h5⟩ := hg.2.2.2.2.1
  refine W.iald (v := .int (g_x g j)) C.1.1 C.1.2.1 (a := ad g 0) (cell := scr) (by rw [show ad g 0 = g_b g from if_pos rfl, C.2.2.1.1 _ hg.2.2.2.2.2.1]; exact h1) (State.isArrayOf_alike C.2.1.1.alike h2) h3 (by rw [h4]; exact nI_vin hj (by omega)) (by rw [hjc]; exact h5 j hj) rfl rfl hd (kk hg p e R s m args below meth c H locs cells slots mc ms ls C)
end JA
end
section
-- constants, Object's constructor, arraycopy, new int[3][20], throws, catches
theorem wdF {g : GT} (hg : OkG g) {s : State} (hW : (g_s g).WarmedH s.vm) {w : Cond} (hw : w ∈ lw_tbl) (h1 : w.onTables = true) (h2 : w.keepsFace = true) (args : Array Value) : w.before args s = true :=
  va_tabs (u := (g_s g).setVm s.vm) (U := s) h1 rfl (Cond.before_shiftedFace (State.Shifted.of_warmed hW) w h2 (hg.2.1 w hw))
section JM
variable {g : GT} {d ca sa : Nat} {M : MT} {pc : Nat} {lv lv' : List (Nat × Value)} {st : List Value} {h : MH} {Q Q' : RT → MH → Prop}
theorem J_ldcw {index : Nat} {v : Int32} (hd : decode M.2.1 pc = .ok (.ldc_w index, 3)) (hw : Cond.constant M.1.cls index v ∈ lw_tbl) (k : J g d ca sa M (pc + 3) lv (.int v :: st) h Q) : J g d ca sa M pc lv st h Q := by
  intro hg p e R s m args below meth c H locs cells slots mc ms ls C
  exact lv_ldcw C.1.1 C.1.2.1 C.1.2.2.2.2.2.2.1 (wd hg C.2.1.1 hw (Or.inl rfl) args) hd (k hg p e R s m args below meth c H locs cells slots mc ms ls C)
theorem J_ldc2 {index : Nat} {v : Int64} (hd : decode M.2.1 pc = .ok (.ldc2_w index, 3)) (hw : Cond.constantLong M.1.cls index v ∈ lw_tbl) (k : J g d ca sa M (pc + 3) lv (.long v :: st) h Q) : J g d ca sa M pc lv st h Q := by
  intro hg p e R s m args below meth c H locs cells slots mc ms ls C
  exact lv_ldc2 C.1.1 C.1.2.1 C.1.2.2.2.2.2.2.1 (wd hg C.2.1.1 hw (Or.inl rfl) args) hd (k hg p e R s m args below meth c H locs cells slots mc ms ls C)
theorem J_obj {index a : Nat} (hd : decode M.2.1 pc = .ok (.invokespecial index, 3)) (hw : Cond.methodLink M.1.cls index objectInit ∈ lw_tbl) (hst : (st.map fun v => v.category).sum ≤ 8) (k : J g d ca sa M (pc + 3) lv st h Q) : J g d ca sa M pc lv (.ref a :: st) h Q := by
  intro hg p e R s m args below meth c H locs cells slots mc ms ls C
  have hr := C.2.2.2.1
  exact W.objInit (a := ad g a) (rest := st.map (em g)) C.1.1 C.1.2.1 C.1.2.2.2.2.2.2.1 (wd hg C.2.1.1 hw (Or.inl rfl) args) (wd hg C.2.1.1 q1_51 (Or.inl rfl) args) (wd hg C.2.1.1 q1_52 (Or.inl rfl) args) rfl (by rw [C.1.2.2.1]; exact C.2.2.2.2.1) rfl hd (by omega) (by rw [catj]; show 2 * 0 + _ + 12 ≤ _; omega) (k hg p e R s m args below meth c H locs cells slots mc ms ls C)
end JM
section JT
variable {g : GT} {d ca sa : Nat} {M : MT} {pc : Nat} {lv lv' : List (Nat × Value)} {st : List Value} {h : MH} {Q Q' : RT → MH → Prop}
end JT
end
section
-- new int[n][k]
theorem outer_is (c : ClassId) (N h0 : Nat) : ∀ i : Nat, Jvm.Free.Multi.outerC c N h0 i = arrV c N (fun j => va_rf (if j < i then some (h0 + 1 + j) else none))
  | 0 => by
    show ({ cls := c, slots := Array.replicate N .null, vm := .none } : Cell) = _
    rw [arrV_new]
    exact congrArg (arrV c N) (funext fun j => by simp [va_rf])
  | i + 1 => by
    show (Jvm.Free.Multi.outerC c N h0 i).setSlot i (.ref (h0 + 1 + i)) = _
    rw [outer_is c N h0 i, arrV_store]
    refine congrArg (arrV c N) (funext fun j => ?_)
    by_cases e : j = i
    · subst e
      simp [updV, va_rf]
    · by_cases h : j < i
      · simp [updV, e, h, Nat.lt_succ_of_lt h]
      · simp [updV, e, h, show ¬ j < i + 1 by omega]
section JN
variable {g : GT} {d ca sa : Nat} {M : MT} {pc : Nat} {lv lv' : List (Nat × Value)} {st : List Value} {h : MH} {Q Q' : RT → MH → Prop}
def hgrid (f : Nat → Option MC) (a N K : Nat) : Nat → Option MC := fun j => if j = a then some (aG N (fun i => if i < N then some (a + 1 + i) else none)) else if a < j ∧ j ≤ a + N then some (aI K (fun _ => 0)) else f j
theorem J_multi {index N K ca' sa' : Nat} {x y : Int32} (hd : decode M.2.1 pc = .ok (.multianewarray index 2, 4)) (hw : Cond.classLink M.1.cls index "[[I" ∈ lw_tbl) (hx : x = nI N) (hy : y = nI K) (hN : N < 1000) (hK : K < 1000) (h1 : ca' + (1 + N) ≤ ca) (h2 : sa' + (N + N * K) ≤ sa)
    (kk : J g d ca' sa' M (pc + 4) lv (.ref h.1 :: st) (h.1 + 1 + N, hgrid h.2 h.1 N K) Q) : J g d ca sa M pc lv (.int y :: .int x :: st) h Q := by
  intro hg p e R s m args below meth c H locs cells slots mc ms ls C
  subst hx; subst hy
  intro T hT X
  have hW := C.2.1.1
  have hrm := C.2.2.2.1
  have hnx := C.2.2.1.2.2.1.next
  have eN : (nI N).toNatClampNeg = N := nI_clamp (by omega)
  have eK : (nI K).toNatClampNeg = K := nI_clamp (by omega)
  have hp : N * K < 1000 * 1000 := Nat.mul_lt_mul'' hN hK
  obtain ⟨vm₁, cA, comp, -, fA, fC, hO, -, X', step⟩ := X.multianewarray2F C.1.1 C.1.2.2.2.2.2.2.1 (index := index) (ty := .int) (wd hg hW hw (Or.inl rfl) args) (over_alike hW.alike (hg.2.1 _ q2_198)) (wd hg hW q2_218 (Or.inr ⟨_, rfl⟩) args) (g := F0 m pc ls ((.int (nI K) :: .int (nI N) :: st : List Value).map (em g))) rfl (by rw [C.1.2.1]; exact hd) (rest := st.map (em g)) rfl (nI_pos (by omega)) (nI_pos (by omega)) (by rw [eN]; omega) (by rw [eK]; show K * 4 ≤ _; omega) (by rw [eK]; omega) rfl rfl (by rw [eN]; omega) (by rw [eN, eK]; omega)
  rw [eN, eK] at X' step
  have hcA : cA = g_c g 2 := by
    have h9 : s.vm.findClass ("[" ++ (aty 2).toString) = some (g_c g 2) := by rw [hW.alike.findClass]; exact (hg.2.2.2.1 2 (by omega)).2
    exact Option.some.inj (fA.symm.trans h9)
  have hcy : comp = g_c g 0 := by
    have h9 : s.vm.findClass ("[" ++ (aty 0).toString) = some (g_c g 0) := by rw [hW.alike.findClass]; exact (hg.2.2.2.1 0 (by omega)).2
    exact Option.some.inj (fC.symm.trans h9)
  subst hcA; subst hcy
  generalize hF : Jvm.Free.Multi.fill (T.setVm vm₁) (g_c g 2) (g_c g 0) N K (defaultValue .int) N = F at X' step
  have hTh : (T.setVm vm₁).heap = H := hT
  obtain ⟨f1, f2, -, -⟩ := Jvm.Free.Multi.fill_facts (T.setVm vm₁) (g_c g 2) (g_c g 0) N K (defaultValue .int) N
  rw [hF, hTh] at f1 f2
  have hold : ∀ x : Nat, x < H.size → F.heap[x]? = H[x]? := fun x hx => by
    have := Jvm.Free.Multi.fill_old (T.setVm vm₁) (g_c g 2) (g_c g 0) N K (defaultValue .int) (a := x) (by rw [hTh]; exact hx) N
    rw [hF, hTh] at this
    exact this
  have hrow : ∀ j : Nat, j < N → F.heap[H.size + 1 + j]? = some (vp_cell (g_c g 0) (K, .inl (fun _ => 0))) := fun j hj => by
    have := Jvm.Free.Multi.fill_inner (T.setVm vm₁) (g_c g 2) (g_c g 0) N K (defaultValue .int) N j hj
    rw [hF, hTh] at this
    rw [this, vp_cell_i, ← arrV_new]
    rfl
  rw [outer_is] at f2
  obtain ⟨b1, b2, ⟨hoH, hsz, hR, hlo⟩, hroom, hl⟩ := id C
  have hr1 := hR.1
  have hr2 := hR.2.1
  have C' : JC g d ca' sa' M lv (h.1 + 1 + N, hgrid h.2 h.1 N K) p R s m meth c F.heap locs (cells + 1 + N) (slots + N + N * K) mc ms ls := by
    refine ⟨b1, b2, ⟨fun q hq => ?_, by omega, ⟨by show 1 ≤ h.1 + 1 + N; omega, by show F.heap.size + 1 = g_n g + (h.1 + 1 + N); omega, fun i c0 hc0 => ?_⟩, hlo⟩, by omega, hl⟩
    · rw [hold q (by omega)]
      exact hoH q hq
    · have hc0 : hgrid h.2 h.1 N K i = some c0 := hc0
      unfold hgrid at hc0
      by_cases e9 : i = h.1
      · rw [if_pos e9] at hc0
        have hc0 := Option.some.inj hc0
        subst hc0
        rw [e9]
        refine ⟨hr1, by show h.1 < h.1 + 1 + N; omega, ?_⟩
        show F.heap[ad g h.1]? = some (vp_cell (g_c g 2) (N, .inr (.inr (.inr (.inr (fun j => (if j < N then some (h.1 + 1 + j) else none : Option Nat).map (ad g)))))))
        rw [hnx, f2, vp_cell_q]
        congr 2
        funext j
        by_cases hj : j < N
        · simp only [hj, if_true, Option.map_some]
          congr 2
          unfold ad
          rw [if_neg (by omega)]
          omega
        · simp only [hj, if_false, Option.map_none]
      · rw [if_neg e9] at hc0
        by_cases e8 : h.1 < i ∧ i ≤ h.1 + N
        · rw [if_pos e8] at hc0
          have hc0 := Option.some.inj hc0
          subst hc0
          refine ⟨by omega, by show i < h.1 + 1 + N; omega, ?_⟩
          show F.heap[ad g i]? = some (vp_cell (g_c g 0) (K, .inl (fun _ => 0)))
          have : ad g i = H.size + 1 + (i - h.1 - 1) := by
            unfold ad
            rw [if_neg (by omega)]
            omega
          rw [this]
          exact hrow _ (by omega)
        · rw [if_neg e8] at hc0
          obtain ⟨d1, d2, d3⟩ := hR.2.2 i c0 hc0
          exact ⟨d1, by show i < h.1 + 1 + N; omega, d3.kept (hold _ d3.lt)⟩
  have k9 := kk hg p e R s m args below meth c F.heap locs (cells + 1 + N) (slots + N + N * K) mc ms ls C'
  obtain ⟨t, a1, a2⟩ := k9 F rfl X'
  refine ⟨t, step t ?_, a2⟩
  have e7 : T.heap.size = ad g h.1 := by rw [hT]; exact hnx.symm
  rw [e7]
  exact a1
end JN
end
