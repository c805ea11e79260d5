-- constants, Object's constructor, arraycopy, new int[3][20], throws, catches
theorem wdF {g : GT} (hg : OkG g) {s : State} (hW : (g_s g).WarmedH s.vm) {w : Cond} (hw : w ∈ lw_tbl) (h1 : w.onTables = true) (h2 : w.keepsFace = true) (args : Array Value) : w.before args s = true :=
  va_tabs (u := (g_s g).setVm s.vm) (U := s) h1 rfl (Cond.before_shiftedFace (State.Shifted.of_warmed hW) w h2 (hg.2.1 w hw))
section JM
variable {g : GT} {d ca sa : Nat} {M : MT} {pc : Nat} {lv lv' : List (Nat × Value)} {st : List Value} {h : MH} {Q Q' : RT → MH → Prop}
theorem J_ldcw {index : Nat} {v : Int32} (hd : decode M.2.1 pc = .ok (.ldc_w index, 3)) (hw : Cond.constant M.1.cls index v ∈ lw_tbl) (k : J g d ca sa M (pc + 3) lv (.int v :: st) h Q) : J g d ca sa M pc lv st h Q := by
  intro hg p e R s m args below meth c H locs cells slots mc ms ls C
  exact lv_ldcw C.1.1 C.1.2.1 C.1.2.2.2.2.2.2.1 (wd hg C.2.1.1 hw (Or.inl rfl) args) hd (k hg p e R s m args below meth c H locs cells slots mc ms ls C)
theorem J_ldc2 {index : Nat} {v : Int64} (hd : decode M.2.1 pc = .ok (.ldc2_w index, 3)) (hw : Cond.constantLong M.1.cls index v ∈ lw_tbl) (k : J g d ca sa M (pc + 3) lv (.long v :: st) h Q) : J g d ca sa M pc lv st h Q := by
  intro hg p e R s m args below meth c H locs cells slots mc ms ls C
  exact lv_ldc2 C.1.1 C.1.2.1 C.1.2.2.2.2.2.2.1 (wd hg C.2.1.1 hw (Or.inl rfl) args) hd (k hg p e R s m args below meth c H locs cells slots mc ms ls C)
theorem J_obj {index a : Nat} (hd : decode M.2.1 pc = .ok (.invokespecial index, 3)) (hw : Cond.methodLink M.1.cls index objectInit ∈ lw_tbl) (hst : (st.map fun v => v.category).sum ≤ 8) (k : J g d ca sa M (pc + 3) lv st h Q) : J g d ca sa M pc lv (.ref a :: st) h Q := by
  intro hg p e R s m args below meth c H locs cells slots mc ms ls C
  have hr := C.2.2.2.1
  exact W.objInit (a := ad g a) (rest := st.map (em g)) C.1.1 C.1.2.1 C.1.2.2.2.2.2.2.1 (wd hg C.2.1.1 hw (Or.inl rfl) args) (wd hg C.2.1.1 q1_20 (Or.inl rfl) args) (wd hg C.2.1.1 q1_21 (Or.inl rfl) args) rfl (by rw [C.1.2.2.1]; exact C.2.2.2.2.1) rfl hd (by omega) (by rw [catj]; show 2 * 0 + _ + 12 ≤ _; omega) (k hg p e R s m args below meth c H locs cells slots mc ms ls C)
theorem J_copyI {index a0 a n0 n1 sp dp n : Nat} {f f1 : Nat → Int32} {x y z : Int32} (hd : decode M.2.1 pc = .ok (.invokestatic index, 3)) (hw : Cond.methodLink M.1.cls index arraycopyName ∈ lw_tbl) (ha0 : h.2 a0 = some (aI n0 f)) (ha : h.2 a = some (aI n1 f1)) (hx : x = nI sp) (hy : y = nI dp) (hz : z = nI n) (hs : sp + n ≤ n0) (ht : dp + n ≤ n1) (b0 : n0 < 100000) (b1 : n1 < 100000) (hst : (st.map fun v => v.category).sum ≤ 8)
    (k : J g d ca sa M (pc + 3) lv st (h.1, hset h.2 a (aI n1 (va_cpy f f1 sp dp n))) Q) : J g d ca sa M pc lv (.int z :: .int y :: .ref a :: .int x :: .ref a0 :: st) h Q := by
  intro hg p e R s m args below meth c H locs cells slots mc ms ls C
  subst hx; subst hy; subst hz
  intro T hT X
  have hW := C.2.1.1
  have hr := C.2.2.2.1
  obtain ⟨-, -, hc0⟩ := C.2.2.1.2.2.1.2.2 a0 _ ha0
  obtain ⟨-, -, hc1⟩ := C.2.2.1.2.2.1.2.2 a _ ha
  have hc0 : H[ad g a0]? = some (vp_cell (g_c g 0) (n0, .inl f)) := hc0
  have hc1 : H[ad g a]? = some (vp_cell (g_c g 0) (n1, .inl f1)) := hc1
  obtain ⟨-, k0, hk0, cm0, hkk0⟩ := ar_ok hg hW (t := 0) (by omega) n0 (fun j => .int (f j))
  obtain ⟨-, k1, hk1, cm1, hkk1⟩ := ar_ok hg hW (t := 0) (by omega) n1 (fun j => .int (f1 j))
  have esp : (nI sp).toNatClampNeg = sp := nI_clamp (by omega)
  have edp : (nI dp).toNatClampNeg = dp := nI_clamp (by omega)
  have en : (nI n).toNatClampNeg = n := nI_clamp (by omega)
  have isp : (nI sp).toInt = (sp : Int) := nI_toInt (by omega)
  have idp : (nI dp).toInt = (dp : Int) := nI_toInt (by omega)
  have inn : (nI n).toInt = (n : Int) := nI_toInt (by omega)
  have hn9 : nativeFrameWords "java/lang/System" "arraycopy" 5 ≤ 100 := by decide +kernel
  obtain ⟨vm', X', step⟩ := X.arraycopy C.1.1 C.1.2.2.2.2.2.2.1 (wd hg hW hw (Or.inl rfl) args) (wd hg hW q3_175 (Or.inl rfl) args) (wd hg hW q3_174 (Or.inl rfl) args) (wd hg hW q1_10 (Or.inl rfl) args) (src := ad g a0) (dst := ad g a) (cs := vp_cell (g_c g 0) (n0, .inl f)) (cd := vp_cell (g_c g 0) (n1, .inl f1)) (srcPos := nI sp) (destPos := nI dp) (n := nI n) (by rw [hT]; exact hc0) (by rw [hT]; exact hc1)
    (fun _ h => by cases h) (fun _ h => by cases h) (fun h => by cases h) (fun h => by cases h) hk0 hk1 hkk0 hkk1 rfl (nI_pos (by omega)) (nI_pos (by omega)) (nI_pos (by omega))
    (by rw [isp, inn]; show ¬ _ > ((arrV (g_c g 0) n0 (fun j => .int (f j))).slots.size : Int); rw [arrV_size]; omega)
    (by rw [idp, inn]; show ¬ _ > ((arrV (g_c g 0) n1 (fun j => .int (f1 j))).slots.size : Int); rw [arrV_size]; omega)
    (fun vm₁ _ i hi => by
      have e : (vp_cell (g_c g 0) (n0, .inl f)).slots.getD ((nI sp).toNatClampNeg + i) .null = .int (f (sp + i)) := by
        show (arrV (g_c g 0) n0 (fun j => .int (f j))).slots.getD _ _ = _
        rw [esp, Array.getD_eq_getD_getElem?, arrV_read _ _ (by rw [en] at hi; omega)]
        rfl
      refine ⟨?_, ?_⟩
      · rw [e]
        rfl
      · rw [e]
        exact trivial)
    (g := F0 m pc ls ((.int (nI n) :: .int (nI dp) :: .ref a :: .int (nI sp) :: .ref a0 :: st : List Value).map (em g))) rfl (by rw [C.1.2.2.1]; exact C.2.2.2.2.1) (rest := st.map (em g)) rfl (by rw [C.1.2.1]; exact hd) (by omega) (by rw [catj]; show 2 * 0 + _ + (_ + 11) ≤ _; omega)
  have e1 : copied (vp_cell (g_c g 0) (n0, .inl f)) (vp_cell (g_c g 0) (n1, .inl f1)) (nI sp) (nI dp) (nI n) = vp_cell (g_c g 0) (n1, .inl (va_cpy f f1 sp dp n)) := by
    have := va_copied (fun z => Value.int z) (g_c g 0) (g_c g 0) (n1 := n1) (dp := dp) f f1 hs
    show ((vp_cell (g_c g 0) (n1, .inl f1)).storeRun (nI dp).toNatClampNeg ((vp_cell (g_c g 0) (n0, .inl f)).stretch (nI sp).toNatClampNeg (nI n).toNatClampNeg)) = _
    rw [esp, edp, en]
    exact this
  rw [e1] at X' step
  have hl9 : ad g a < H.size := (Array.getElem?_eq_some_iff.mp hc1).1
  have oq : ∀ q : Nat, q ≠ ad g a → (H.setIfInBounds (ad g a) (vp_cell (g_c g 0) (n1, .inl (va_cpy f f1 sp dp n))))[q]? = H[q]? := fun q hq => by simp [Array.getElem?_setIfInBounds, Ne.symm hq]
  have hheap : ((T.setVm vm').setCell (ad g a) (vp_cell (g_c g 0) (n1, .inl (va_cpy f f1 sp dp n)))).heap = H.setIfInBounds (ad g a) (vp_cell (g_c g 0) (n1, .inl (va_cpy f f1 sp dp n))) := by rw [← hT]; rfl
  obtain ⟨b1', b2', ⟨hoH, hsz, hR, hlo⟩, hroom, hl⟩ := id C
  have ha1 := (hR.2.2 a _ ha).1
  have C' : JC g d ca sa M lv (h.1, hset h.2 a (aI n1 (va_cpy f f1 sp dp n))) p R s m meth c (H.setIfInBounds (ad g a) (vp_cell (g_c g 0) (n1, .inl (va_cpy f f1 sp dp n)))) (locs ++ ((vp_cell (g_c g 0) (n0, .inl f)).stretch (nI sp).toNatClampNeg (nI n).toNatClampNeg).zipIdx.map fun q => ⟨ad g a, (nI dp).toNatClampNeg + q.2⟩) cells slots mc ms ls := by
    refine ⟨b1', b2', ⟨fun q hq => ?_, by simp; exact hsz, Rel.put hR ha (by simp) oq ?_, fun q hq => ?_⟩, hroom, hl⟩
    · rw [oq q (by have := ad_ge (g := g) ha1; omega)]
      exact hoH q hq
    · show (H.setIfInBounds (ad g a) _)[ad g a]? = some _
      simp [Array.getElem?_setIfInBounds, hl9]
      rfl
    · rcases List.mem_append.mp hq with h9 | h9
      · exact hlo q h9
      · obtain ⟨z, -, hz⟩ := List.mem_map.mp h9
        rw [← hz]
        exact ad_ge ha1
  obtain ⟨t, a1, b1⟩ := k hg p e R s m args below meth c _ _ cells slots mc ms ls C' _ hheap X'
  exact ⟨t, step t a1, b1⟩
end JM
section JT
variable {g : GT} {d ca sa : Nat} {M : MT} {pc : Nat} {lv lv' : List (Nat × Value)} {st : List Value} {h : MH} {Q Q' : RT → MH → Prop}
theorem at_all {ic : Nat} {E : String} (hm : (vx_atS "BeanGroves" ic E ["java/lang/RuntimeException", "java/lang/Exception"]).all (fun w => w.onTables && w.keepsFace) = true) (hi : ∀ w ∈ vx_atS "BeanGroves" ic E ["java/lang/RuntimeException", "java/lang/Exception"], w ∈ lw_tbl) (hg : OkG g) {s : State} (hW : (g_s g).WarmedH s.vm) (args : Array Value) : ∀ w ∈ vx_atS "BeanGroves" ic E ["java/lang/RuntimeException", "java/lang/Exception"], w.before args s = true := by
  intro w hw
  have h1 := List.all_eq_true.mp hm w hw
  rw [Bool.and_eq_true] at h1
  exact wdF hg hW (hi w hw) h1.1 h1.2 args
/-- what is known of the throw of E: its constructor's link, its words -/
def TOK (ic : Nat) (E : String) : Prop := Bundle.fit E = true ∧ (vx_atS "BeanGroves" ic E ["java/lang/RuntimeException", "java/lang/Exception"]).all (fun w => w.onTables && w.keepsFace) = true ∧ (∀ w ∈ vx_atS "BeanGroves" ic E ["java/lang/RuntimeException", "java/lang/Exception"], w ∈ lw_tbl) ∧ Cond.initialized E ∈ lw_tbl ∧ ∀ w ∈ vx_atS "BeanGroves" ic E ["java/lang/RuntimeException", "java/lang/Exception"], vx_ot w = true
theorem J_throw {ik is ic : Nat} {E text : String} (d0 : decode M.2.1 pc = .ok (.new ik, 3)) (d3 : decode M.2.1 (pc + 3) = .ok (.dup, 1)) (d4 : decode M.2.1 (pc + 4) = .ok (.ldc is, 2)) (d6 : decode M.2.1 (pc + 6) = .ok (.invokespecial ic, 3)) (d9 : decode M.2.1 (pc + 9) = .ok (.athrow, 1))
    (hM : M.1.cls = "BeanGroves") (hh : M.2.2.2.2 = []) (hT : TOK ic E) (hk : Cond.classLink "BeanGroves" ik E ∈ lw_tbl) (hs : (is, text) ∈ strs) (h1 : 1 ≤ ca) (h2 : 6 ≤ sa) (hst : (st.map fun v => v.category).sum ≤ 8)
    (hq : ∀ z, h.1 ≤ z → Q (.inr E) (z, h.2)) : J g d ca sa M pc lv st h Q := by
  intro hg p e R s m args below meth c H locs cells slots mc ms ls C
  obtain ⟨⟨hx, hb, hml, hr, hlk, hnm, hown, htab⟩, ⟨hW, hz, ho⟩, ⟨hoH, hsz, hR, hlo⟩, hroom, hl⟩ := id C
  obtain ⟨t1, t2, t3, t4, t5⟩ := hT
  obtain ⟨sa0, hstr⟩ := hg.2.2.2.2.2.2.2.2.2.1 _ hs
  have hown' : s.vm.findClass "BeanGroves" = some m.cls := by rw [← hM]; exact hown
  have hlt : g.1.stackTraces = false := by
    show (!g.1.flags.contains noTraceFlag) = false
    rw [hg.1]
    decide +kernel
  have hkeep : ∀ a : Nat, a < (g_s g).heap.size → ¬ (fun q => g_n g ≤ q) a → s.heap[a]? = (g_s g).heap[a]? := fun a ha _ => ho a ha
  refine vx_throwS (A := fun q => g_n g ≤ q) (names := ["java/lang/RuntimeException", "java/lang/Exception"]) hx hb hlt (own := "BeanGroves") (cls := E) (text := text) (ik := ik) (is := is) (ic := ic) (sa := sa0) hown' t1 (by decide +kernel)
    (wd hg hW hk (Or.inl rfl) args) (wd hg hW t4 (Or.inl rfl) args) (vk_R.warm hW hstr) (at_all t2 t3 hg hW args) ?_ ((hg.2.2.2.2.2.2.2.1.moved hW.alike).kept hkeep) ((hg.2.2.2.2.2.2.2.2.1.moved hW.alike).kept hkeep) ⟨hsz, fun q h3 h4 => ?_, hlo⟩ (by rw [hml]; exact hl.1) d0 d3 d4 d6 d9 ?_ ?_ ?_ ?_ ?_ hlk ?_ hlo ?_ ?_
  · intro w hw
    rcases List.mem_cons.mp hw with rfl | hw
    · rfl
    · rcases List.mem_cons.mp hw with rfl | hw
      · rfl
      · exact t5 w hw
  · have h5 : q < g_n g := Nat.not_le.mp h4
    rw [hoH q h5, ho q h5]
  · intro x hx9
    rw [hh] at htab
    have : c.exceptionTable.toList = [] := List.map_eq_nil_iff.mp htab
    rw [this] at hx9
    exact absurd hx9 List.not_mem_nil
  · show 2 + 3 < R.frames
    omega
  · rw [catj]
    show _ + (13 * (2 + 1) + 43) ≤ R.locals
    omega
  · omega
  · omega
  · intro t ha9 hz9 ho9
    refine ⟨⟨(t.heap.size + 1 - g_n g, h.2), hq _ ?_, ⟨?_, ?_, fun i c0 hc0 => ?_⟩, fun q hq9 => ?_⟩, by omega⟩
    · have := hR.2.1; have := hR.1; omega
    · show 1 ≤ t.heap.size + 1 - g_n g
      have := hR.2.1; have := hR.1; omega
    · show t.heap.size + 1 = g_n g + (t.heap.size + 1 - g_n g)
      have := hR.2.1; have := hR.1; omega
    · obtain ⟨e1, e2, e3⟩ := hR.2.2 i c0 hc0
      refine ⟨e1, ?_, e3.kept (ho9 _ e3.lt)⟩
      show i < t.heap.size + 1 - g_n g
      have := hR.2.1; omega
    · rw [ho9 q (by have := hR.2.1; have := hR.1; omega)]
      exact hoH q hq9
  · omega
  · omega
/-- a call from a method with a table of its own, on an object; what it throws is caught here -/
theorem J_callX {M1 : MT} {index n a ci ca1 sa1 ca2 sa2 : Nat} {fs As : List Value} {Q1 : RT → MH → Prop} {T : u_T} {N : Nat} (hd : decode M.2.1 pc = .ok (.invokevirtual index, 3)) (hM : MOK M1 n) (hl : Cond.methodLink M.1.cls index M1.1 ∈ lw_tbl) (hi : Cond.instanceMethod M1.1 ∈ lw_tbl) (hs : Cond.selects M1.1.cls M1.1 M1.1 ∈ lw_tbl)
    (hc : vwCl[ci]? = some (M1.1.cls, T, N)) (ha : h.2 a = some (.inr (ci, fs))) (hn : As.length = n) (hlen : (lg_sl (.ref a :: As)).length ≤ M1.2.2.1) (hst : (st.map fun v => v.category).sum ≤ 8) (hj : J g d ca1 sa1 M1 0 (lv_args 0 (.ref a :: As)) [] h Q1) (h1 : ca1 + ca2 ≤ ca) (h2 : sa1 + sa2 ≤ sa)
    (kk : ∀ v h', Q1 (.inl v) h' → J g (d + 1) ca2 sa2 M (pc + 3) lv (v.toList ++ st) h' Q)
    (kx : ∀ E h', Q1 (.inr E) h' → ∃ (pre suf : List (Nat × Nat × Nat × Nat)) (t0 : Nat × Nat × Nat × Nat) (nm : String) (k0 : Fin 4), M.2.2.2.2 = pre ++ t0 :: suf ∧ (∀ z ∈ pre, z.2.2.2 ≠ 0 ∧ ∃ nm', Cond.classLink M.1.cls z.2.2.2 nm' ∈ lw_tbl ∧ (OkG g → va_Nc E nm' (g_s g))) ∧ (t0.1 ≤ pc ∧ pc < t0.2.1) ∧ t0.2.2.2 ≠ 0 ∧ Cond.classLink M.1.cls t0.2.2.2 nm ∈ lw_tbl ∧ Cond.castable E nm ∈ lw_tbl ∧
      ((decode M.2.1 t0.2.2.1 = .ok (.astore_n k0, 1) ∧ (k0 : Nat) < M.2.2.1 ∧ J g (d + 1) ca2 sa2 M (t0.2.2.1 + 1) (lv.filter (fun q => !(q.1 == (k0 : Nat)) && !(q.1 + 1 == (k0 : Nat) && q.2.category == 2))) [] h' Q) ∨
       ∃ i, decode M.2.1 t0.2.2.1 = .ok (.astore i, 2) ∧ i < M.2.2.1 ∧ J g (d + 1) ca2 sa2 M (t0.2.2.1 + 2) (lv.filter (fun q => !(q.1 == i) && !(q.1 + 1 == i && q.2.category == 2))) [] h' Q)) : J g (d + 1) ca sa M pc lv (As.reverse ++ .ref a :: st) h Q := by
  intro hg p e R s m args below meth c H locs cells slots mc ms ls C
  have hW := C.2.1.1
  have hr := vx_runV (As := As.map (em g)) (b := ad g a) (rest := st.map (em g)) (g := F0 m pc ls ((As.reverse ++ .ref a :: st).map (em g))) (cells := cells) (slots := slots) (locs := locs) (H := H) (below := below) (e := e) (l := g.1) (Ts := []) (nL := M.2.2.1) (cc := M.2.1) (p := p) (m := m) (c := c) (s := s) (args := args) (own := M.1.cls) (meth := meth) (R := R) ⟨C.1.1, C.1.2.1, C.1.2.2.1, C.1.2.2.2.2.2.2.1, fun w hw => absurd hw List.not_mem_nil⟩ (J_vxmet hg hM hlen hj) (C := M1.1.cls) (n := n) (index := index) ⟨cbj hg hW hM hl (by have := C.2.2.2.1.1; omega) (by have := C.2.2.2.1.2.1; omega), wd hg hW hi (Or.inl rfl) args, wd hg hW hs (Or.inl rfl) args⟩ ⟨Pcj_blind _, recv_j hg C ha hc, prj C (.ref a :: As)⟩ rfl (by rw [List.length_map]; exact hn) C.2.2.2.2.1 (by rw [List.map_append, List.map_reverse]; rfl) (by rw [catj]; show 2 * 0 + _ ≤ 8; omega) hd (by have := C.2.2.2.1; omega)
  intro T9 hT X
  have aft : ∀ {h' : MH} {t T' st₀ : State} {L : List Loc}, st₀.heap = H → T'.heap = t.heap → Rel g h' t.heap → (∀ q, q < g_n g → t.heap[q]? = (g_s g).heap[q]?) → st₀.heap.size ≤ t.heap.size → (∀ q ∈ L, g_n g ≤ q.base) → JC g (d + 1) ca2 sa2 M lv h' p R s m meth c T'.heap (locs ++ L) (cells + ca1) (slots + sa1) mc ms ls := by
    intro h' t T' st₀ L h0 e1 c3 c4 c5 hL
    obtain ⟨b1, b2, ⟨hoH, hsz, hR, hlo⟩, hroom, hl9⟩ := id C
    refine ⟨b1, b2, ⟨by rw [e1]; exact c4, ?_, by rw [e1]; exact c3, fun q hq => ?_⟩, ?_, hl9⟩
    · rw [e1]
      rw [h0] at c5
      exact Nat.le_trans hsz c5
    · rcases List.mem_append.mp hq with h9 | h9
      · exact hlo q h9
      · exact hL q h9
    · obtain ⟨z1, z2, z3, z4, z5, z6⟩ := hroom
      exact ⟨z1, z2, by omega, by omega, z5, z6⟩
  rcases hr T9 hT X with ⟨v, st₀, t, T', L, h0, X', hL, e1, e2, ⟨⟨v', h', c1, c2, c3, c4⟩, c5⟩, hst9⟩ | ⟨q, st₀, t, T', L, E, ce, h0, X', hL, e1, e2, ⟨⟨h', c2, c3, c4⟩, c5⟩, hce, hcv, hcl, hst9⟩
  · cases c1
    obtain ⟨t2, a1, a2⟩ := kk v' h' c2 hg p e R s m args below meth c T'.heap (locs ++ L) (cells + ca1) (slots + sa1) mc ms ls (aft h0 e1 c3 c4 c5 hL) T' rfl X'
    refine ⟨t2, hst9 t2 ?_, a2⟩
    have e9 : (Option.map (em g) v').toList ++ st.map (em g) = (v'.toList ++ st).map (em g) := by
      rw [List.map_append]
      cases v' <;> rfl
    show Steps _ _ _ (T'.setTop (F0 m (pc + 3) ls ((Option.map (em g) v').toList ++ st.map (em g)))) t2
    rw [e9]
    exact a1
  · obtain ⟨pre, suf, t0, nm, k0, hsp, hpre, hcov, hnz, hlk, hcast, hend⟩ := kx E h' c2
    have htab := C.1.2.2.2.2.2.2.2
    rw [hsp] at htab
    obtain ⟨pre9, rest9, hsp9, hp9, hrest9⟩ := List.map_eq_append_iff.mp htab
    obtain ⟨x9, suf9, hrs9, hx9, hsuf9⟩ := List.map_eq_cons_iff.mp hrest9
    subst hrs9
    have C' := aft h0 e1 c3 c4 c5 hL
    have f1 : x9.startPc = t0.1 := by rw [← hx9]
    have f2 : x9.endPc = t0.2.1 := by rw [← hx9]
    have f3 : x9.handlerPc = t0.2.2.1 := by rw [← hx9]
    have f4 : x9.catchType = t0.2.2.2 := by rw [← hx9]
    have key : W p g.1 e R s m args below meth c T'.heap (locs ++ L) (cells + ca1) (slots + sa1) (vx_MQ below (Qo g Q) (Xo g Q) args s mc ms (fun q => g_n g ≤ q)) (F0 m x9.handlerPc ls [.ref q]) := by
      rw [f3]
      rcases hend with ⟨hd9, hk9, hj9⟩ | ⟨i, hd9, hk9, hj9⟩
      · exact lv_astore_n C'.1.1 C'.1.2.1 hd9 rfl C'.2.2.2.2 hk9 rfl (fun ls' hl' => hj9 hg p e R s m args below meth c T'.heap (locs ++ L) (cells + ca1) (slots + sa1) mc ms ls' (C'.lv ⟨hl'.1, hl'.2.1, fun z hz => hl'.2.2 z (List.mem_cons_of_mem _ (by
          have e8 := congrArg List.tail (em_ls1 g (k0 : Nat) (.ref 0) lv)
          have e7 : (lv.filter (fun q => !(q.1 == (k0 : Nat)) && !(q.1 + 1 == (k0 : Nat) && q.2.category == 2))).map (fun q => (q.1, em g q.2)) = (lv.map (fun q => (q.1, em g q.2))).filter (fun q => !(q.1 == (k0 : Nat)) && !(q.1 + 1 == (k0 : Nat) && q.2.category == 2)) := e8.symm
          rw [e7] at hz
          exact hz))⟩))
      · exact lv_astore C'.1.1 C'.1.2.1 hd9 C'.2.2.2.2 hk9 rfl (fun ls' hl' => hj9 hg p e R s m args below meth c T'.heap (locs ++ L) (cells + ca1) (slots + sa1) mc ms ls' (C'.lv ⟨hl'.1, hl'.2.1, fun z hz => hl'.2.2 z (List.mem_cons_of_mem _ (by
          have e8 := congrArg List.tail (em_ls1 g i (.ref 0) lv)
          have e7 : (lv.filter (fun q => !(q.1 == i) && !(q.1 + 1 == i && q.2.category == 2))).map (fun q => (q.1, em g q.2)) = (lv.map (fun q => (q.1, em g q.2))).filter (fun q => !(q.1 == i) && !(q.1 + 1 == i && q.2.category == 2)) := e8.symm
          rw [e7] at hz
          exact hz))⟩))
    have kw := vx_catch (name := nm) (E := E) (ce := ce) (q := q) (pc := pc) (rest := st.map (em g)) C.1.2.2.2.2.2.2.1 pre9 x9 suf9 hsp9 (fun z hz => by
      right
      have hz' : (z.startPc, z.endPc, z.handlerPc, z.catchType) ∈ pre := by rw [← hp9]; exact List.mem_map.mpr ⟨z, hz, rfl⟩
      obtain ⟨u1, nm', u2, u3⟩ := hpre _ hz'
      exact ⟨u1, nm', wd hg hW u2 (Or.inl rfl) args, (u3 hg).moved hW.alike⟩) (by
      show (decide (x9.startPc ≤ pc) && decide (pc < x9.endPc)) = true
      rw [f1, f2]
      simp [hcov.1, hcov.2]) (by rw [f4]; exact hnz) (by rw [f4]; exact wd hg hW hlk (Or.inl rfl) args) (wdF hg hW hcast rfl rfl args) (by rw [e1]; exact hce) hcv hcl key
    obtain ⟨t2, a1, a2⟩ := kw T' rfl X'
    exact ⟨t2, hst9.trans a1, a2⟩
end JT
