-- the law's wrappers: calls of methods with a table; what they answer
def MOKW (M : MT) (n : Nat) : Prop := Cond.codeWith M.1 M.2.1 M.2.2.1 M.2.2.2.1 M.2.2.2.2 ∈ lw_tbl ∧ Cond.initialized M.1.cls ∈ lw_tbl ∧ plainName M.1.cls = true ∧ (M.1.cls ≠ "java/lang/invoke/MethodHandle" ∧ M.1.cls ≠ "java/lang/invoke/VarHandle") ∧ (parseMethodDescriptor M.1.desc).map (fun d => d.parameters.length) = some n ∧ M.2.2.1 ≤ 20
abbrev wsjW (M : MT) : List Cond := [.codeWith M.1 M.2.1 M.2.2.1 M.2.2.2.1 M.2.2.2.2]
section
variable {g : GT} {d ca sa : Nat} {M : MT} {pc : Nat} {lv : List (Nat × Value)} {st : List Value} {h : MH} {Q : RT → MH → Prop}
theorem tab_map (hh : List (Nat × Nat × Nat × Nat)) : (tableOf hh).map (fun x => (x.startPc, x.endPc, x.handlerPc, x.catchType)) = hh := by
  unfold tableOf
  rw [List.map_map]
  conv => rhs; rw [← List.map_id hh]
  rfl
theorem J_vxmetW {av : List Value} {n : Nat} (hg : OkG g) (hM : MOKW M n) (hlen : (lg_sl av).length ≤ M.2.2.1) (hj : J g d ca sa M 0 (lv_args 0 av) [] h Q) : vx_Met g.1 M.1 (wsjW M) (rmj d ca sa) (Pcj g av h) (Qo g Q) (Xo g Q) ca sa (fun q => g_n g ≤ q) := by
  refine vx_ofWH (cc := M.2.1) (maxL := M.2.2.1) (ret := M.2.2.2.1) (hh := M.2.2.2.2) hM.2.2.1 rfl ?_
  intro p e s m args below meth c s₁ B hml hv
  obtain ⟨rfl, hW, hz, ho, hR⟩ := hv
  have htab := vx_table (x := M.1) B (wd hg hW hM.1 (Or.inl rfl) ((av.map (em g)).toArray))
  have hl := lv_entry (av.map (em g)) (n := M.2.2.1) (by rw [lg_sl_em]; exact hlen)
  rw [lg_entry_eq]
  refine hj hg p e _ s m _ below meth c s.heap [] 0 0 ca sa _ ⟨⟨B.exec, B.bytes, hml, B.returns, B.notSynchronized, (name_of_methodNamed B.named B.method).1, findClass_of_methodNamed B.named, ?_⟩, ⟨hW, hz, ho⟩, ⟨ho, Nat.le_refl _, hR, fun q hq => absurd hq List.not_mem_nil⟩, ⟨Nat.le_refl _, Nat.le_refl _, by omega, by omega, Nat.le_refl _, Nat.le_refl _⟩, ?_⟩
  · rw [htab]
    exact tab_map _
  · rw [← lv_args_em]
    exact hl
theorem J_metW {av : List Value} {n : Nat} (hg : OkG g) (hM : MOKW M n) (hlen : (lg_sl av).length ≤ M.2.2.1) (hnx : ∀ E h', ¬ Q (.inr E) h') (hj : J g d ca sa M 0 (lv_args 0 av) [] h Q) : Met g.1 M.1 (wsjW M) (rmj d ca sa) (Pcj g av h) (Qo g Q) ca sa (fun q => g_n g ≤ q) := by
  intro p e h1 h2 h3 s m args below h4 h5 h6 h7
  obtain ⟨k, o, e1, e2, e3, e4⟩ := J_vxmetW hg hM hlen hj p e h1 h2 h3 s m args below h4 h5 h6 h7
  refine ⟨k, o, e1, e2, e3, ?_⟩
  rcases e4 with e4 | ⟨q, -, E, ce, L, ⟨⟨h', c2, -⟩, -⟩, -⟩
  · exact e4
  · exact absurd c2 (hnx _ _)
theorem cbjW {s : State} {R : Room} {args : Array Value} {own : String} {index n d1 ca1 sa1 : Nat} {M1 : MT} (hg : OkG g) (hW : (g_s g).WarmedH s.vm) (hM : MOKW M1 n) (hl : Cond.methodLink own index M1.1 ∈ lw_tbl) (hs : Cond.static M1.1 ∈ lw_tbl) (hf : d1 + 8 + 1 ≤ R.frames) (ho : 40 * (d1 + 1) + 150 ≤ R.locals) : vx_CSW R s args own index M1.1 M1.2.1 M1.2.2.1 M1.2.2.2.1 M1.2.2.2.2 (wsjW M1) (rmj d1 ca1 sa1) ca1 sa1 n := by
  obtain ⟨m1, m2, m3, m4, m5, m6⟩ := hM
  refine ⟨⟨rfl, rfl, hf, by show 8 + (M1.2.2.1 + 11) + (40 * d1 + 150) ≤ R.locals; omega, ?_, List.mem_cons_self⟩, wd hg hW m1 (Or.inl rfl) args, wd hg hW m2 (Or.inl rfl) args, m4, fun sig h9 => ?_, wd hg hW hl (Or.inl rfl) args, wd hg hW hs (Or.inl rfl) args⟩
  · intro w hw a' U hWU
    rw [List.mem_singleton.mp hw]
    exact word_at hWU (Or.inl rfl) (wd hg hW m1 (Or.inl rfl) args)
  · rw [h9] at m5
    exact (Option.some.inj m5).symm
theorem J_callSW {M1 : MT} {index n ca1 sa1 ca2 sa2 : Nat} {As : List Value} {v : Option Value} {P : MH → Prop} (hd : decode M.2.1 pc = .ok (.invokestatic index, 3)) (hM : MOKW M1 n) (hl : Cond.methodLink M.1.cls index M1.1 ∈ lw_tbl) (hs : Cond.static M1.1 ∈ lw_tbl)
    (hn : As.length = n) (hlen : (lg_sl As).length ≤ M1.2.2.1) (hst : (st.map fun v => v.category).sum ≤ 8) (hj : J g d ca1 sa1 M1 0 (lv_args 0 As) [] h (fun r h' => r = .inl v ∧ P h')) (h1 : ca1 + ca2 ≤ ca) (h2 : sa1 + sa2 ≤ sa)
    (kk : ∀ h', P h' → J g (d + 1) ca2 sa2 M (pc + 3) lv (v.toList ++ st) h' Q) : J g (d + 1) ca sa M pc lv (As.reverse ++ st) h Q := by
  intro hg p e R s m args below meth c H locs cells slots mc ms ls C
  have hW := C.2.1.1
  have hr := vx_runSW (As := As.map (em g)) (rest := st.map (em g)) (g := F0 m pc ls ((As.reverse ++ st).map (em g))) (cells := cells) (slots := slots) (locs := locs) (H := H) (below := below) (e := e) (l := g.1) (Ts := []) (nL := M.2.2.1) (cc := M.2.1) (p := p) (m := m) (c := c) (s := s) (args := args) (own := M.1.cls) (meth := meth) (R := R) ⟨C.1.1, C.1.2.1, C.1.2.2.1, C.1.2.2.2.2.2.2.1, fun w hw => absurd hw List.not_mem_nil⟩ (J_metW hg hM hlen (fun E h' q => by cases q.1) hj) (n := n) (index := index) (cbjW hg hW hM hl hs (by have := C.2.2.2.1.1; omega) (by have := C.2.2.2.1.2.1; omega)) ⟨Pcj_blind _, prj C As⟩ rfl (by rw [List.length_map]; exact hn) C.2.2.2.2.1 (by rw [List.map_append, List.map_reverse]) (by rw [catj]; show 2 * 0 + _ ≤ 8; omega) hd (by have := C.2.2.2.1; omega)
  exact J_run hg C hr h1 h2 (fun v' h' q => by obtain ⟨q1, q2⟩ := q; cases q1; exact kk h' q2)
end
/-- a call of the class: what it answers or throws -/
def CO (h : MH) (k : Nat) (v : Value) (σ' : ST) (E1 E2 : String) : RT → MH → Prop := fun r h' => (k = 0 ∧ r = .inl (some v) ∧ Fr 1 52 h h' ∧ GH h' σ') ∨ (k = 1 ∧ r = .inr E1 ∧ h.1 ≤ h'.1 ∧ h'.2 = h.2) ∨ (k = 2 ∧ r = .inr E2 ∧ h.1 ≤ h'.1 ∧ h'.2 = h.2)
theorem TT_oth {h h' : MH} {t : Nat} {tr : TR 5} {pa le : Int32} (k : ∀ i, t ≤ i → i ≤ t + 6 → h'.2 i = h.2 i) (hT : TT h t tr pa le) : TT h' t tr pa le := by
  obtain ⟨cf, sf, gf, df, mf, rf, ⟨k0, k1, k2, k3, k4, k5, k6⟩, hK⟩ := hT
  exact ⟨cf, sf, gf, df, mf, rf, ⟨(k _ (by omega) (by omega)).trans k0, (k _ (by omega) (by omega)).trans k1, (k _ (by omega) (by omega)).trans k2, (k _ (by omega) (by omega)).trans k3, (k _ (by omega) (by omega)).trans k4, (k _ (by omega) (by omega)).trans k5, (k _ (by omega) (by omega)).trans k6⟩, hK⟩
theorem GH_oth {h h' : MH} {σ : ST} (k : ∀ i, 1 ≤ i → i ≤ 52 → h'.2 i = h.2 i) (hG : GH h σ) : GH h' σ := by
  obtain ⟨π, g1, g2, g3, g4, ⟨f, g5, g5b⟩, g6, g7, g8⟩ := hG
  refine ⟨π, BH_oth (fun i i1 i2 => k i (by omega) (by omega)) g1, g2, g3, (k _ (by omega) (by omega)).trans g4, ⟨f, (k _ (by omega) (by omega)).trans g5, g5b⟩, TA_oth (fun i i1 i2 => k i (by omega) (by omega)) g6, fun i hi => ?_, fun i hi => ?_⟩
  · have := SL_ge g3 hi
    exact TA_oth (fun j j1 j2 => k j (by omega) (by omega)) (g7 i hi)
  · have h5 := g2.1
    have := SL_ge g3 (show i < 5 by omega)
    exact TT_oth (fun j j1 j2 => k j (by omega) (by omega)) (g8 i hi)
theorem GH_1 {h : MH} {σ : ST} (hG : GH h σ) : ∃ fs, h.2 1 = some (.inr (2, fs)) := by
  obtain ⟨π, g1, g2, g3, g4, _⟩ := hG
  exact ⟨_, g4⟩
/-- what a wrapper leaves -/
def WO (h : MH) (k : Nat) (x : Int64) (σ' : ST) : MH → Prop := fun h' => h.1 ≤ h'.1 ∧ (∀ i, 53 ≤ i → i ≠ 59 → h'.2 i = h.2 i) ∧ GH h' σ' ∧ ∃ f, h'.2 59 = some (aJ 1 f) ∧ (k = 0 → f 0 = x)
theorem nc_1 {g : GT} (hg : OkG g) : va_Nc "java/lang/IllegalStateException" "java/lang/IllegalArgumentException" (g_s g) := hg.2.2.2.2.2.2.2.2.2.2.1
theorem nc_2 {g : GT} (hg : OkG g) : va_Nc "java/lang/IllegalArgumentException" "java/lang/IndexOutOfBoundsException" (g_s g) := hg.2.2.2.2.2.2.2.2.2.2.2.1
theorem nc_3 {g : GT} (hg : OkG g) : va_Nc "java/lang/IndexOutOfBoundsException" "java/lang/IllegalArgumentException" (g_s g) := hg.2.2.2.2.2.2.2.2.2.2.2.2

theorem okwL_bean : MOKW mL_bean 6 := ⟨q2_146, q1_0, by decide, ⟨by decide, by decide⟩, by decide +kernel, by decide⟩
set_option maxHeartbeats 2000000 in
set_option maxRecDepth 20000 in
theorem w_bean {g : GT} {d k : Nat} {h : MH} {σ σ' : ST} {a0 a1 a2 a3 : Int32} {x : Int32} {f : Nat → Int64} (hj : J g d 1 6 mX2_bean 0 (lv_args 0 [.ref (1), .int (a0), .int (a1), .int (a2), .int (a3)]) [] h (CO h k (.int x) σ' "java/lang/IllegalArgumentException" "java/lang/IllegalStateException")) (hG : GH h σ) (c59 : h.2 59 = some (aJ 1 f)) (hσ : k ≠ 0 → GH h σ') :
    J g (d + 1) 1 6 mL_bean 0 (lv_args 0 [.ref (1), .int (a0), .int (a1), .int (a2), .int (a3), .ref (59)]) [] h (RH (nI k) (WO h k (x.toInt64) σ')) := by
  obtain ⟨fs, hx1⟩ := GH_1 hG
  refine J_aload (i := 5) (pc := 0) dL_bean_0 rfl ?_
  refine J_iconst (v := nI (0)) (pc := 2) dL_bean_2 rfl ?_
  refine J_aload_n (i := 0) (pc := 3) dL_bean_3 rfl rfl ?_
  refine J_iload_n (i := 1) (pc := 4) dL_bean_4 rfl rfl ?_
  refine J_iload_n (i := 2) (pc := 5) dL_bean_5 rfl rfl ?_
  refine J_iload_n (i := 3) (pc := 6) dL_bean_6 rfl rfl ?_
  refine J_iload (i := 4) (pc := 7) dL_bean_7 rfl ?_
  refine J_callX (st := [.int (nI (0)), .ref (59)]) (As := [.int (a0), .int (a1), .int (a2), .int (a3)]) (ca1 := 1) (sa1 := 6) (ca2 := 0) (sa2 := 0) (pc := 9) dL_bean_9 okX2_bean q2_149 q2_150 q2_151 (rfl : vwCl[2]? = some _) hx1 rfl (Nat.le_of_ble_eq_true rfl) (Nat.le_of_ble_eq_true rfl) hj (by decide) (by decide) ?_ ?_
  · intro v9 h9 q
    rcases q with ⟨k0, q1, fr9, gh9⟩ | ⟨_, q1, _⟩ | ⟨_, q1, _⟩
    · cases q1
      subst k0
      have c9 := (fr9.2 59 (by decide)).trans c59
      refine J_i2l (pc := 12) dL_bean_12 ?_
      refine J_last (j := 0) (pc := 13) dL_bean_13 c9 rfl (by omega) (by omega) ?_
      obtain ⟨h_1, eh_1⟩ : ∃ z : MH, z = (h9.1, hset h9.2 (59) (aJ (1) (vp_updL f (0) (((x)).toInt64)))) := ⟨_, rfl⟩
      refine J_heq (h2 := h_1) eh_1 ?_
      have H_2 : h_1.2 (59) = some (aJ (1) (vp_updL f (0) (((x)).toInt64))) := hs_s eh_1
      refine J_goto (tgt := 25) (pc := 14) dL_bean_14 (by decide) ?_
      refine J_iconst (v := nI (0)) (pc := 25) dL_bean_25 rfl ?_
      refine J_iret (ty := .int) (pc := 26) dL_bean_26 rfl rfl ?_
      exact ⟨rfl, by rw [eh_1]; exact Nat.le_of_eq fr9.1.symm, fun i i1 i2 => (hs_n eh_1 i2).trans (fr9.2 i (Or.inr (by omega))), GH_oth (fun i i1 i2 => hs_n eh_1 (by omega)) gh9, _, H_2, fun _ => (by rw [pk_uLs])⟩
    · cases q1
    · cases q1
  · intro E9 h9 q
    rcases q with ⟨_, q1, _⟩ | ⟨k0, q1, z9, e9⟩ | ⟨k0, q1, z9, e9⟩
    · cases q1
    · cases q1
      subst k0
      refine ⟨[], [(0, 14, 21, 15)], (0, 14, 17, 13), "java/lang/IllegalArgumentException", 0, rfl, (fun z hz => absurd hz List.not_mem_nil), ⟨by decide, by decide⟩, by decide, q2_147, q2_161, ?_⟩
      refine Or.inr ⟨6, dL_bean_17, by decide, ?_⟩
      refine J_iconst (v := nI 1) (pc := 19) dL_bean_19 rfl ?_
      refine J_iret (ty := .int) (pc := 20) dL_bean_20 rfl rfl ?_
      exact ⟨rfl, z9, fun i _ _ => by rw [e9], GH_oth (fun i _ _ => by rw [e9]) (hσ (by decide)), f, by rw [e9]; exact c59, fun q => absurd q (by decide)⟩
    · cases q1
      subst k0
      refine ⟨[(0, 14, 17, 13)], [], (0, 14, 21, 15), "java/lang/IllegalStateException", 0, rfl, (fun z hz => by rw [List.mem_singleton.mp hz]; exact ⟨by decide, "java/lang/IllegalArgumentException", q2_147, fun hg => nc_1 hg⟩), ⟨by decide, by decide⟩, by decide, q2_148, q2_181, ?_⟩
      refine Or.inr ⟨6, dL_bean_21, by decide, ?_⟩
      refine J_iconst (v := nI 2) (pc := 23) dL_bean_23 rfl ?_
      refine J_iret (ty := .int) (pc := 24) dL_bean_24 rfl rfl ?_
      exact ⟨rfl, z9, fun i _ _ => by rw [e9], GH_oth (fun i _ _ => by rw [e9]) (hσ (by decide)), f, by rw [e9]; exact c59, fun q => absurd q (by decide)⟩

theorem okwL_setSort : MOKW mL_setSort 4 := ⟨q2_205, q1_0, by decide, ⟨by decide, by decide⟩, by decide +kernel, by decide⟩
set_option maxHeartbeats 2000000 in
set_option maxRecDepth 20000 in
theorem w_setSort {g : GT} {d k : Nat} {h : MH} {σ σ' : ST} {a0 a1 : Int32} {x : Int32} {f : Nat → Int64} (hj : J g d 1 6 mX2_setSort 0 (lv_args 0 [.ref (1), .int (a0), .int (a1)]) [] h (CO h k (.int x) σ' "java/lang/IndexOutOfBoundsException" "java/lang/IllegalArgumentException")) (hG : GH h σ) (c59 : h.2 59 = some (aJ 1 f)) (hσ : k ≠ 0 → GH h σ') :
    J g (d + 1) 1 6 mL_setSort 0 (lv_args 0 [.ref (1), .int (a0), .int (a1), .ref (59)]) [] h (RH (nI k) (WO h k (x.toInt64) σ')) := by
  obtain ⟨fs, hx1⟩ := GH_1 hG
  refine J_aload_n (i := 3) (pc := 0) dL_setSort_0 rfl rfl ?_
  refine J_iconst (v := nI (0)) (pc := 1) dL_setSort_1 rfl ?_
  refine J_aload_n (i := 0) (pc := 2) dL_setSort_2 rfl rfl ?_
  refine J_iload_n (i := 1) (pc := 3) dL_setSort_3 rfl rfl ?_
  refine J_iload_n (i := 2) (pc := 4) dL_setSort_4 rfl rfl ?_
  refine J_callX (st := [.int (nI (0)), .ref (59)]) (As := [.int (a0), .int (a1)]) (ca1 := 1) (sa1 := 6) (ca2 := 0) (sa2 := 0) (pc := 5) dL_setSort_5 okX2_setSort q2_207 q2_208 q2_209 (rfl : vwCl[2]? = some _) hx1 rfl (Nat.le_of_ble_eq_true rfl) (Nat.le_of_ble_eq_true rfl) hj (by decide) (by decide) ?_ ?_
  · intro v9 h9 q
    rcases q with ⟨k0, q1, fr9, gh9⟩ | ⟨_, q1, _⟩ | ⟨_, q1, _⟩
    · cases q1
      subst k0
      have c9 := (fr9.2 59 (by decide)).trans c59
      refine J_i2l (pc := 8) dL_setSort_8 ?_
      refine J_last (j := 0) (pc := 9) dL_setSort_9 c9 rfl (by omega) (by omega) ?_
      obtain ⟨h_1, eh_1⟩ : ∃ z : MH, z = (h9.1, hset h9.2 (59) (aJ (1) (vp_updL f (0) (((x)).toInt64)))) := ⟨_, rfl⟩
      refine J_heq (h2 := h_1) eh_1 ?_
      have H_2 : h_1.2 (59) = some (aJ (1) (vp_updL f (0) (((x)).toInt64))) := hs_s eh_1
      refine J_goto (tgt := 21) (pc := 10) dL_setSort_10 (by decide) ?_
      refine J_iconst (v := nI (0)) (pc := 21) dL_setSort_21 rfl ?_
      refine J_iret (ty := .int) (pc := 22) dL_setSort_22 rfl rfl ?_
      exact ⟨rfl, by rw [eh_1]; exact Nat.le_of_eq fr9.1.symm, fun i i1 i2 => (hs_n eh_1 i2).trans (fr9.2 i (Or.inr (by omega))), GH_oth (fun i i1 i2 => hs_n eh_1 (by omega)) gh9, _, H_2, fun _ => (by rw [pk_uLs])⟩
    · cases q1
    · cases q1
  · intro E9 h9 q
    rcases q with ⟨_, q1, _⟩ | ⟨k0, q1, z9, e9⟩ | ⟨k0, q1, z9, e9⟩
    · cases q1
    · cases q1
      subst k0
      refine ⟨[], [(0, 10, 17, 13)], (0, 10, 13, 21), "java/lang/IndexOutOfBoundsException", 0, rfl, (fun z hz => absurd hz List.not_mem_nil), ⟨by decide, by decide⟩, by decide, q2_206, q1_204, ?_⟩
      refine Or.inr ⟨4, dL_setSort_13, by decide, ?_⟩
      refine J_iconst (v := nI 1) (pc := 15) dL_setSort_15 rfl ?_
      refine J_iret (ty := .int) (pc := 16) dL_setSort_16 rfl rfl ?_
      exact ⟨rfl, z9, fun i _ _ => by rw [e9], GH_oth (fun i _ _ => by rw [e9]) (hσ (by decide)), f, by rw [e9]; exact c59, fun q => absurd q (by decide)⟩
    · cases q1
      subst k0
      refine ⟨[(0, 10, 13, 21)], [], (0, 10, 17, 13), "java/lang/IllegalArgumentException", 0, rfl, (fun z hz => by rw [List.mem_singleton.mp hz]; exact ⟨by decide, "java/lang/IndexOutOfBoundsException", q2_206, fun hg => nc_2 hg⟩), ⟨by decide, by decide⟩, by decide, q2_147, q2_161, ?_⟩
      refine Or.inr ⟨4, dL_setSort_17, by decide, ?_⟩
      refine J_iconst (v := nI 2) (pc := 19) dL_setSort_19 rfl ?_
      refine J_iret (ty := .int) (pc := 20) dL_setSort_20 rfl rfl ?_
      exact ⟨rfl, z9, fun i _ _ => by rw [e9], GH_oth (fun i _ _ => by rw [e9]) (hσ (by decide)), f, by rw [e9]; exact c59, fun q => absurd q (by decide)⟩

theorem okwL_check : MOKW mL_check 4 := ⟨q2_217, q1_0, by decide, ⟨by decide, by decide⟩, by decide +kernel, by decide⟩
set_option maxHeartbeats 2000000 in
set_option maxRecDepth 20000 in
theorem w_check {g : GT} {d k : Nat} {h : MH} {σ σ' : ST} {a0 : Int32} {a1 : Bool} {x : Bool} {f : Nat → Int64} (hj : J g d 1 6 mX2_check 0 (lv_args 0 [.ref (1), .int (a0), .int (bI (a1))]) [] h (CO h k (.int (bI x)) σ' "java/lang/IndexOutOfBoundsException" "none")) (hG : GH h σ) (c59 : h.2 59 = some (aJ 1 f)) (hk2 : k ≠ 2) (hσ : k ≠ 0 → GH h σ') :
    J g (d + 1) 1 6 mL_check 0 (lv_args 0 [.ref (1), .int (a0), .int (bI (a1)), .ref (59)]) [] h (RH (nI k) (WO h k ((if x = true then 1 else 0)) σ')) := by
  obtain ⟨fs, hx1⟩ := GH_1 hG
  refine J_aload_n (i := 3) (pc := 0) dL_check_0 rfl rfl ?_
  refine J_iconst (v := nI (0)) (pc := 1) dL_check_1 rfl ?_
  refine J_aload_n (i := 0) (pc := 2) dL_check_2 rfl rfl ?_
  refine J_iload_n (i := 1) (pc := 3) dL_check_3 rfl rfl ?_
  refine J_iload_n (i := 2) (pc := 4) dL_check_4 rfl rfl ?_
  refine J_callX (st := [.int (nI (0)), .ref (59)]) (As := [.int (a0), .int (bI (a1))]) (ca1 := 1) (sa1 := 6) (ca2 := 0) (sa2 := 0) (pc := 5) dL_check_5 okX2_check q2_218 q2_219 q2_220 (rfl : vwCl[2]? = some _) hx1 rfl (Nat.le_of_ble_eq_true rfl) (Nat.le_of_ble_eq_true rfl) hj (by decide) (by decide) ?_ ?_
  · intro v9 h9 q
    rcases q with ⟨k0, q1, fr9, gh9⟩ | ⟨_, q1, _⟩ | ⟨_, q1, _⟩
    · cases q1
      subst k0
      have c9 := (fr9.2 59 (by decide)).trans c59
      refine J_if_eqB (tgt := 15) (pc := 8) dL_check_8 (by decide) (fun c8 => ?_) (fun c8 => ?_)
      · skip
        refine J_lconst (v := lN 0) (pc := 15) dL_check_15 rfl ?_
        refine J_last (j := 0) (pc := 16) dL_check_16 c9 rfl (by omega) (by omega) ?_
        obtain ⟨h_1, eh_1⟩ : ∃ z : MH, z = (h9.1, hset h9.2 (59) (aJ (1) (vp_updL f (0) (lN (0))))) := ⟨_, rfl⟩
        refine J_heq (h2 := h_1) eh_1 ?_
        have H_2 : h_1.2 (59) = some (aJ (1) (vp_updL f (0) (lN (0)))) := hs_s eh_1
        refine J_goto (tgt := 24) (pc := 17) dL_check_17 (by decide) ?_
        refine J_iconst (v := nI (0)) (pc := 24) dL_check_24 rfl ?_
        refine J_iret (ty := .int) (pc := 25) dL_check_25 rfl rfl ?_
        exact ⟨rfl, by rw [eh_1]; exact Nat.le_of_eq fr9.1.symm, fun i i1 i2 => (hs_n eh_1 i2).trans (fr9.2 i (Or.inr (by omega))), GH_oth (fun i i1 i2 => hs_n eh_1 (by omega)) gh9, _, H_2, fun _ => by rw [pk_uLs]; first | (rw [c8]; rfl) | rfl⟩
      · skip
        refine J_lconst (v := lN 1) (pc := 11) dL_check_11 rfl ?_
        refine J_goto (tgt := 16) (pc := 12) dL_check_12 (by decide) ?_
        refine J_last (j := 0) (pc := 16) dL_check_16 c9 rfl (by omega) (by omega) ?_
        obtain ⟨h_3, eh_3⟩ : ∃ z : MH, z = (h9.1, hset h9.2 (59) (aJ (1) (vp_updL f (0) (lN (1))))) := ⟨_, rfl⟩
        refine J_heq (h2 := h_3) eh_3 ?_
        have H_4 : h_3.2 (59) = some (aJ (1) (vp_updL f (0) (lN (1)))) := hs_s eh_3
        refine J_goto (tgt := 24) (pc := 17) dL_check_17 (by decide) ?_
        refine J_iconst (v := nI (0)) (pc := 24) dL_check_24 rfl ?_
        refine J_iret (ty := .int) (pc := 25) dL_check_25 rfl rfl ?_
        exact ⟨rfl, by rw [eh_3]; exact Nat.le_of_eq fr9.1.symm, fun i i1 i2 => (hs_n eh_3 i2).trans (fr9.2 i (Or.inr (by omega))), GH_oth (fun i i1 i2 => hs_n eh_3 (by omega)) gh9, _, H_4, fun _ => by rw [pk_uLs]; first | (rw [c8]; rfl) | rfl⟩
    · cases q1
    · cases q1
  · intro E9 h9 q
    rcases q with ⟨_, q1, _⟩ | ⟨k0, q1, z9, e9⟩ | ⟨k0, q1, z9, e9⟩
    · cases q1
    · cases q1
      subst k0
      refine ⟨[], [], (0, 17, 20, 21), "java/lang/IndexOutOfBoundsException", 0, rfl, (fun z hz => absurd hz List.not_mem_nil), ⟨by decide, by decide⟩, by decide, q2_206, q1_204, ?_⟩
      refine Or.inr ⟨4, dL_check_20, by decide, ?_⟩
      refine J_iconst (v := nI 1) (pc := 22) dL_check_22 rfl ?_
      refine J_iret (ty := .int) (pc := 23) dL_check_23 rfl rfl ?_
      exact ⟨rfl, z9, fun i _ _ => by rw [e9], GH_oth (fun i _ _ => by rw [e9]) (hσ (by decide)), f, by rw [e9]; exact c59, fun q => absurd q (by decide)⟩
    · exact absurd k0 hk2

theorem okwL_setDepth : MOKW mL_setDepth 3 := ⟨q2_228, q1_0, by decide, ⟨by decide, by decide⟩, by decide +kernel, by decide⟩
set_option maxHeartbeats 2000000 in
set_option maxRecDepth 20000 in
theorem w_setDepth {g : GT} {d k : Nat} {h : MH} {σ σ' : ST} {a0 : Int32} {x : Int32} {f : Nat → Int64} (hj : J g d 1 6 mX2_setDepth 0 (lv_args 0 [.ref (1), .int (a0)]) [] h (CO h k (.int x) σ' "java/lang/IllegalArgumentException" "none")) (hG : GH h σ) (c59 : h.2 59 = some (aJ 1 f)) (hk2 : k ≠ 2) (hσ : k ≠ 0 → GH h σ') :
    J g (d + 1) 1 6 mL_setDepth 0 (lv_args 0 [.ref (1), .int (a0), .ref (59)]) [] h (RH (nI k) (WO h k (x.toInt64) σ')) := by
  obtain ⟨fs, hx1⟩ := GH_1 hG
  refine J_aload_n (i := 2) (pc := 0) dL_setDepth_0 rfl rfl ?_
  refine J_iconst (v := nI (0)) (pc := 1) dL_setDepth_1 rfl ?_
  refine J_aload_n (i := 0) (pc := 2) dL_setDepth_2 rfl rfl ?_
  refine J_iload_n (i := 1) (pc := 3) dL_setDepth_3 rfl rfl ?_
  refine J_callX (st := [.int (nI (0)), .ref (59)]) (As := [.int (a0)]) (ca1 := 1) (sa1 := 6) (ca2 := 0) (sa2 := 0) (pc := 4) dL_setDepth_4 okX2_setDepth q2_229 q2_230 q2_231 (rfl : vwCl[2]? = some _) hx1 rfl (Nat.le_of_ble_eq_true rfl) (Nat.le_of_ble_eq_true rfl) hj (by decide) (by decide) ?_ ?_
  · intro v9 h9 q
    rcases q with ⟨k0, q1, fr9, gh9⟩ | ⟨_, q1, _⟩ | ⟨_, q1, _⟩
    · cases q1
      subst k0
      have c9 := (fr9.2 59 (by decide)).trans c59
      refine J_i2l (pc := 7) dL_setDepth_7 ?_
      refine J_last (j := 0) (pc := 8) dL_setDepth_8 c9 rfl (by omega) (by omega) ?_
      obtain ⟨h_1, eh_1⟩ : ∃ z : MH, z = (h9.1, hset h9.2 (59) (aJ (1) (vp_updL f (0) (((x)).toInt64)))) := ⟨_, rfl⟩
      refine J_heq (h2 := h_1) eh_1 ?_
      have H_2 : h_1.2 (59) = some (aJ (1) (vp_updL f (0) (((x)).toInt64))) := hs_s eh_1
      refine J_goto (tgt := 15) (pc := 9) dL_setDepth_9 (by decide) ?_
      refine J_iconst (v := nI (0)) (pc := 15) dL_setDepth_15 rfl ?_
      refine J_iret (ty := .int) (pc := 16) dL_setDepth_16 rfl rfl ?_
      exact ⟨rfl, by rw [eh_1]; exact Nat.le_of_eq fr9.1.symm, fun i i1 i2 => (hs_n eh_1 i2).trans (fr9.2 i (Or.inr (by omega))), GH_oth (fun i i1 i2 => hs_n eh_1 (by omega)) gh9, _, H_2, fun _ => (by rw [pk_uLs])⟩
    · cases q1
    · cases q1
  · intro E9 h9 q
    rcases q with ⟨_, q1, _⟩ | ⟨k0, q1, z9, e9⟩ | ⟨k0, q1, z9, e9⟩
    · cases q1
    · cases q1
      subst k0
      refine ⟨[], [], (0, 9, 12, 13), "java/lang/IllegalArgumentException", 3, rfl, (fun z hz => absurd hz List.not_mem_nil), ⟨by decide, by decide⟩, by decide, q2_147, q2_161, ?_⟩
      refine Or.inl ⟨dL_setDepth_12, by decide, ?_⟩
      refine J_iconst (v := nI 1) (pc := 13) dL_setDepth_13 rfl ?_
      refine J_iret (ty := .int) (pc := 14) dL_setDepth_14 rfl rfl ?_
      exact ⟨rfl, z9, fun i _ _ => by rw [e9], GH_oth (fun i _ _ => by rw [e9]) (hσ (by decide)), f, by rw [e9]; exact c59, fun q => absurd q (by decide)⟩
    · exact absurd k0 hk2

theorem okwL_setLeast : MOKW mL_setLeast 3 := ⟨q2_239, q1_0, by decide, ⟨by decide, by decide⟩, by decide +kernel, by decide⟩
set_option maxHeartbeats 2000000 in
set_option maxRecDepth 20000 in
theorem w_setLeast {g : GT} {d k : Nat} {h : MH} {σ σ' : ST} {a0 : Int32} {x : Int32} {f : Nat → Int64} (hj : J g d 1 6 mX2_setLeast 0 (lv_args 0 [.ref (1), .int (a0)]) [] h (CO h k (.int x) σ' "java/lang/IllegalArgumentException" "none")) (hG : GH h σ) (c59 : h.2 59 = some (aJ 1 f)) (hk2 : k ≠ 2) (hσ : k ≠ 0 → GH h σ') :
    J g (d + 1) 1 6 mL_setLeast 0 (lv_args 0 [.ref (1), .int (a0), .ref (59)]) [] h (RH (nI k) (WO h k (x.toInt64) σ')) := by
  obtain ⟨fs, hx1⟩ := GH_1 hG
  refine J_aload_n (i := 2) (pc := 0) dL_setLeast_0 rfl rfl ?_
  refine J_iconst (v := nI (0)) (pc := 1) dL_setLeast_1 rfl ?_
  refine J_aload_n (i := 0) (pc := 2) dL_setLeast_2 rfl rfl ?_
  refine J_iload_n (i := 1) (pc := 3) dL_setLeast_3 rfl rfl ?_
  refine J_callX (st := [.int (nI (0)), .ref (59)]) (As := [.int (a0)]) (ca1 := 1) (sa1 := 6) (ca2 := 0) (sa2 := 0) (pc := 4) dL_setLeast_4 okX2_setLeast q3_0 q3_1 q3_2 (rfl : vwCl[2]? = some _) hx1 rfl (Nat.le_of_ble_eq_true rfl) (Nat.le_of_ble_eq_true rfl) hj (by decide) (by decide) ?_ ?_
  · intro v9 h9 q
    rcases q with ⟨k0, q1, fr9, gh9⟩ | ⟨_, q1, _⟩ | ⟨_, q1, _⟩
    · cases q1
      subst k0
      have c9 := (fr9.2 59 (by decide)).trans c59
      refine J_i2l (pc := 7) dL_setLeast_7 ?_
      refine J_last (j := 0) (pc := 8) dL_setLeast_8 c9 rfl (by omega) (by omega) ?_
      obtain ⟨h_1, eh_1⟩ : ∃ z : MH, z = (h9.1, hset h9.2 (59) (aJ (1) (vp_updL f (0) (((x)).toInt64)))) := ⟨_, rfl⟩
      refine J_heq (h2 := h_1) eh_1 ?_
      have H_2 : h_1.2 (59) = some (aJ (1) (vp_updL f (0) (((x)).toInt64))) := hs_s eh_1
      refine J_goto (tgt := 15) (pc := 9) dL_setLeast_9 (by decide) ?_
      refine J_iconst (v := nI (0)) (pc := 15) dL_setLeast_15 rfl ?_
      refine J_iret (ty := .int) (pc := 16) dL_setLeast_16 rfl rfl ?_
      exact ⟨rfl, by rw [eh_1]; exact Nat.le_of_eq fr9.1.symm, fun i i1 i2 => (hs_n eh_1 i2).trans (fr9.2 i (Or.inr (by omega))), GH_oth (fun i i1 i2 => hs_n eh_1 (by omega)) gh9, _, H_2, fun _ => (by rw [pk_uLs])⟩
    · cases q1
    · cases q1
  · intro E9 h9 q
    rcases q with ⟨_, q1, _⟩ | ⟨k0, q1, z9, e9⟩ | ⟨k0, q1, z9, e9⟩
    · cases q1
    · cases q1
      subst k0
      refine ⟨[], [], (0, 9, 12, 13), "java/lang/IllegalArgumentException", 3, rfl, (fun z hz => absurd hz List.not_mem_nil), ⟨by decide, by decide⟩, by decide, q2_147, q2_161, ?_⟩
      refine Or.inl ⟨dL_setLeast_12, by decide, ?_⟩
      refine J_iconst (v := nI 1) (pc := 13) dL_setLeast_13 rfl ?_
      refine J_iret (ty := .int) (pc := 14) dL_setLeast_14 rfl rfl ?_
      exact ⟨rfl, z9, fun i _ _ => by rw [e9], GH_oth (fun i _ _ => by rw [e9]) (hσ (by decide)), f, by rw [e9]; exact c59, fun q => absurd q (by decide)⟩
    · exact absurd k0 hk2

theorem okwL_plant : MOKW mL_plant 4 := ⟨q3_10, q1_0, by decide, ⟨by decide, by decide⟩, by decide +kernel, by decide⟩
set_option maxHeartbeats 2000000 in
set_option maxRecDepth 20000 in
theorem w_plant {g : GT} {d k : Nat} {h : MH} {σ σ' : ST} {a0 a1 : Int32} {x : Int32} {f : Nat → Int64} (hj : J g d 1 6 mX2_plant 0 (lv_args 0 [.ref (1), .int (a0), .int (a1)]) [] h (CO h k (.int x) σ' "java/lang/IllegalArgumentException" "java/lang/IllegalStateException")) (hG : GH h σ) (c59 : h.2 59 = some (aJ 1 f)) (hσ : k ≠ 0 → GH h σ') :
    J g (d + 1) 1 6 mL_plant 0 (lv_args 0 [.ref (1), .int (a0), .int (a1), .ref (59)]) [] h (RH (nI k) (WO h k (x.toInt64) σ')) := by
  obtain ⟨fs, hx1⟩ := GH_1 hG
  refine J_aload_n (i := 3) (pc := 0) dL_plant_0 rfl rfl ?_
  refine J_iconst (v := nI (0)) (pc := 1) dL_plant_1 rfl ?_
  refine J_aload_n (i := 0) (pc := 2) dL_plant_2 rfl rfl ?_
  refine J_iload_n (i := 1) (pc := 3) dL_plant_3 rfl rfl ?_
  refine J_iload_n (i := 2) (pc := 4) dL_plant_4 rfl rfl ?_
  refine J_callX (st := [.int (nI (0)), .ref (59)]) (As := [.int (a0), .int (a1)]) (ca1 := 1) (sa1 := 6) (ca2 := 0) (sa2 := 0) (pc := 5) dL_plant_5 okX2_plant q3_11 q3_12 q3_13 (rfl : vwCl[2]? = some _) hx1 rfl (Nat.le_of_ble_eq_true rfl) (Nat.le_of_ble_eq_true rfl) hj (by decide) (by decide) ?_ ?_
  · intro v9 h9 q
    rcases q with ⟨k0, q1, fr9, gh9⟩ | ⟨_, q1, _⟩ | ⟨_, q1, _⟩
    · cases q1
      subst k0
      have c9 := (fr9.2 59 (by decide)).trans c59
      refine J_i2l (pc := 8) dL_plant_8 ?_
      refine J_last (j := 0) (pc := 9) dL_plant_9 c9 rfl (by omega) (by omega) ?_
      obtain ⟨h_1, eh_1⟩ : ∃ z : MH, z = (h9.1, hset h9.2 (59) (aJ (1) (vp_updL f (0) (((x)).toInt64)))) := ⟨_, rfl⟩
      refine J_heq (h2 := h_1) eh_1 ?_
      have H_2 : h_1.2 (59) = some (aJ (1) (vp_updL f (0) (((x)).toInt64))) := hs_s eh_1
      refine J_goto (tgt := 21) (pc := 10) dL_plant_10 (by decide) ?_
      refine J_iconst (v := nI (0)) (pc := 21) dL_plant_21 rfl ?_
      refine J_iret (ty := .int) (pc := 22) dL_plant_22 rfl rfl ?_
      exact ⟨rfl, by rw [eh_1]; exact Nat.le_of_eq fr9.1.symm, fun i i1 i2 => (hs_n eh_1 i2).trans (fr9.2 i (Or.inr (by omega))), GH_oth (fun i i1 i2 => hs_n eh_1 (by omega)) gh9, _, H_2, fun _ => (by rw [pk_uLs])⟩
    · cases q1
    · cases q1
  · intro E9 h9 q
    rcases q with ⟨_, q1, _⟩ | ⟨k0, q1, z9, e9⟩ | ⟨k0, q1, z9, e9⟩
    · cases q1
    · cases q1
      subst k0
      refine ⟨[], [(0, 10, 17, 15)], (0, 10, 13, 13), "java/lang/IllegalArgumentException", 0, rfl, (fun z hz => absurd hz List.not_mem_nil), ⟨by decide, by decide⟩, by decide, q2_147, q2_161, ?_⟩
      refine Or.inr ⟨4, dL_plant_13, by decide, ?_⟩
      refine J_iconst (v := nI 1) (pc := 15) dL_plant_15 rfl ?_
      refine J_iret (ty := .int) (pc := 16) dL_plant_16 rfl rfl ?_
      exact ⟨rfl, z9, fun i _ _ => by rw [e9], GH_oth (fun i _ _ => by rw [e9]) (hσ (by decide)), f, by rw [e9]; exact c59, fun q => absurd q (by decide)⟩
    · cases q1
      subst k0
      refine ⟨[(0, 10, 13, 13)], [], (0, 10, 17, 15), "java/lang/IllegalStateException", 0, rfl, (fun z hz => by rw [List.mem_singleton.mp hz]; exact ⟨by decide, "java/lang/IllegalArgumentException", q2_147, fun hg => nc_1 hg⟩), ⟨by decide, by decide⟩, by decide, q2_148, q2_181, ?_⟩
      refine Or.inr ⟨4, dL_plant_17, by decide, ?_⟩
      refine J_iconst (v := nI 2) (pc := 19) dL_plant_19 rfl ?_
      refine J_iret (ty := .int) (pc := 20) dL_plant_20 rfl rfl ?_
      exact ⟨rfl, z9, fun i _ _ => by rw [e9], GH_oth (fun i _ _ => by rw [e9]) (hσ (by decide)), f, by rw [e9]; exact c59, fun q => absurd q (by decide)⟩

theorem okwL_fell : MOKW mL_fell 3 := ⟨q3_30, q1_0, by decide, ⟨by decide, by decide⟩, by decide +kernel, by decide⟩
set_option maxHeartbeats 2000000 in
set_option maxRecDepth 20000 in
theorem w_fell {g : GT} {d k : Nat} {h : MH} {σ σ' : ST} {a0 : Int32} {x : Int32} {f : Nat → Int64} (hj : J g d 1 6 mX2_fell 0 (lv_args 0 [.ref (1), .int (a0)]) [] h (CO h k (.int x) σ' "java/lang/IndexOutOfBoundsException" "none")) (hG : GH h σ) (c59 : h.2 59 = some (aJ 1 f)) (hk2 : k ≠ 2) (hσ : k ≠ 0 → GH h σ') :
    J g (d + 1) 1 6 mL_fell 0 (lv_args 0 [.ref (1), .int (a0), .ref (59)]) [] h (RH (nI k) (WO h k (x.toInt64) σ')) := by
  obtain ⟨fs, hx1⟩ := GH_1 hG
  refine J_aload_n (i := 2) (pc := 0) dL_fell_0 rfl rfl ?_
  refine J_iconst (v := nI (0)) (pc := 1) dL_fell_1 rfl ?_
  refine J_aload_n (i := 0) (pc := 2) dL_fell_2 rfl rfl ?_
  refine J_iload_n (i := 1) (pc := 3) dL_fell_3 rfl rfl ?_
  refine J_callX (st := [.int (nI (0)), .ref (59)]) (As := [.int (a0)]) (ca1 := 1) (sa1 := 6) (ca2 := 0) (sa2 := 0) (pc := 4) dL_fell_4 okX2_fell q3_31 q3_32 q3_33 (rfl : vwCl[2]? = some _) hx1 rfl (Nat.le_of_ble_eq_true rfl) (Nat.le_of_ble_eq_true rfl) hj (by decide) (by decide) ?_ ?_
  · intro v9 h9 q
    rcases q with ⟨k0, q1, fr9, gh9⟩ | ⟨_, q1, _⟩ | ⟨_, q1, _⟩
    · cases q1
      subst k0
      have c9 := (fr9.2 59 (by decide)).trans c59
      refine J_i2l (pc := 7) dL_fell_7 ?_
      refine J_last (j := 0) (pc := 8) dL_fell_8 c9 rfl (by omega) (by omega) ?_
      obtain ⟨h_1, eh_1⟩ : ∃ z : MH, z = (h9.1, hset h9.2 (59) (aJ (1) (vp_updL f (0) (((x)).toInt64)))) := ⟨_, rfl⟩
      refine J_heq (h2 := h_1) eh_1 ?_
      have H_2 : h_1.2 (59) = some (aJ (1) (vp_updL f (0) (((x)).toInt64))) := hs_s eh_1
      refine J_goto (tgt := 15) (pc := 9) dL_fell_9 (by decide) ?_
      refine J_iconst (v := nI (0)) (pc := 15) dL_fell_15 rfl ?_
      refine J_iret (ty := .int) (pc := 16) dL_fell_16 rfl rfl ?_
      exact ⟨rfl, by rw [eh_1]; exact Nat.le_of_eq fr9.1.symm, fun i i1 i2 => (hs_n eh_1 i2).trans (fr9.2 i (Or.inr (by omega))), GH_oth (fun i i1 i2 => hs_n eh_1 (by omega)) gh9, _, H_2, fun _ => (by rw [pk_uLs])⟩
    · cases q1
    · cases q1
  · intro E9 h9 q
    rcases q with ⟨_, q1, _⟩ | ⟨k0, q1, z9, e9⟩ | ⟨k0, q1, z9, e9⟩
    · cases q1
    · cases q1
      subst k0
      refine ⟨[], [], (0, 9, 12, 21), "java/lang/IndexOutOfBoundsException", 3, rfl, (fun z hz => absurd hz List.not_mem_nil), ⟨by decide, by decide⟩, by decide, q2_206, q1_204, ?_⟩
      refine Or.inl ⟨dL_fell_12, by decide, ?_⟩
      refine J_iconst (v := nI 1) (pc := 13) dL_fell_13 rfl ?_
      refine J_iret (ty := .int) (pc := 14) dL_fell_14 rfl rfl ?_
      exact ⟨rfl, z9, fun i _ _ => by rw [e9], GH_oth (fun i _ _ => by rw [e9]) (hσ (by decide)), f, by rw [e9]; exact c59, fun q => absurd q (by decide)⟩
    · exact absurd k0 hk2

theorem okwL_prune : MOKW mL_prune 3 := ⟨q3_37, q1_0, by decide, ⟨by decide, by decide⟩, by decide +kernel, by decide⟩
set_option maxHeartbeats 2000000 in
set_option maxRecDepth 20000 in
theorem w_prune {g : GT} {d k : Nat} {h : MH} {σ σ' : ST} {a0 : Int32} {x : Int32} {f : Nat → Int64} (hj : J g d 1 6 mX2_prune 0 (lv_args 0 [.ref (1), .int (a0)]) [] h (CO h k (.int x) σ' "java/lang/IndexOutOfBoundsException" "none")) (hG : GH h σ) (c59 : h.2 59 = some (aJ 1 f)) (hk2 : k ≠ 2) (hσ : k ≠ 0 → GH h σ') :
    J g (d + 1) 1 6 mL_prune 0 (lv_args 0 [.ref (1), .int (a0), .ref (59)]) [] h (RH (nI k) (WO h k (x.toInt64) σ')) := by
  obtain ⟨fs, hx1⟩ := GH_1 hG
  refine J_aload_n (i := 2) (pc := 0) dL_prune_0 rfl rfl ?_
  refine J_iconst (v := nI (0)) (pc := 1) dL_prune_1 rfl ?_
  refine J_aload_n (i := 0) (pc := 2) dL_prune_2 rfl rfl ?_
  refine J_iload_n (i := 1) (pc := 3) dL_prune_3 rfl rfl ?_
  refine J_callX (st := [.int (nI (0)), .ref (59)]) (As := [.int (a0)]) (ca1 := 1) (sa1 := 6) (ca2 := 0) (sa2 := 0) (pc := 4) dL_prune_4 okX2_prune q3_38 q3_39 q3_40 (rfl : vwCl[2]? = some _) hx1 rfl (Nat.le_of_ble_eq_true rfl) (Nat.le_of_ble_eq_true rfl) hj (by decide) (by decide) ?_ ?_
  · intro v9 h9 q
    rcases q with ⟨k0, q1, fr9, gh9⟩ | ⟨_, q1, _⟩ | ⟨_, q1, _⟩
    · cases q1
      subst k0
      have c9 := (fr9.2 59 (by decide)).trans c59
      refine J_i2l (pc := 7) dL_prune_7 ?_
      refine J_last (j := 0) (pc := 8) dL_prune_8 c9 rfl (by omega) (by omega) ?_
      obtain ⟨h_1, eh_1⟩ : ∃ z : MH, z = (h9.1, hset h9.2 (59) (aJ (1) (vp_updL f (0) (((x)).toInt64)))) := ⟨_, rfl⟩
      refine J_heq (h2 := h_1) eh_1 ?_
      have H_2 : h_1.2 (59) = some (aJ (1) (vp_updL f (0) (((x)).toInt64))) := hs_s eh_1
      refine J_goto (tgt := 15) (pc := 9) dL_prune_9 (by decide) ?_
      refine J_iconst (v := nI (0)) (pc := 15) dL_prune_15 rfl ?_
      refine J_iret (ty := .int) (pc := 16) dL_prune_16 rfl rfl ?_
      exact ⟨rfl, by rw [eh_1]; exact Nat.le_of_eq fr9.1.symm, fun i i1 i2 => (hs_n eh_1 i2).trans (fr9.2 i (Or.inr (by omega))), GH_oth (fun i i1 i2 => hs_n eh_1 (by omega)) gh9, _, H_2, fun _ => (by rw [pk_uLs])⟩
    · cases q1
    · cases q1
  · intro E9 h9 q
    rcases q with ⟨_, q1, _⟩ | ⟨k0, q1, z9, e9⟩ | ⟨k0, q1, z9, e9⟩
    · cases q1
    · cases q1
      subst k0
      refine ⟨[], [], (0, 9, 12, 21), "java/lang/IndexOutOfBoundsException", 3, rfl, (fun z hz => absurd hz List.not_mem_nil), ⟨by decide, by decide⟩, by decide, q2_206, q1_204, ?_⟩
      refine Or.inl ⟨dL_prune_12, by decide, ?_⟩
      refine J_iconst (v := nI 1) (pc := 13) dL_prune_13 rfl ?_
      refine J_iret (ty := .int) (pc := 14) dL_prune_14 rfl rfl ?_
      exact ⟨rfl, z9, fun i _ _ => by rw [e9], GH_oth (fun i _ _ => by rw [e9]) (hσ (by decide)), f, by rw [e9]; exact c59, fun q => absurd q (by decide)⟩
    · exact absurd k0 hk2

theorem okwL_node : MOKW mL_node 5 := ⟨q3_52, q1_0, by decide, ⟨by decide, by decide⟩, by decide +kernel, by decide⟩
set_option maxHeartbeats 2000000 in
set_option maxRecDepth 20000 in
theorem w_node {g : GT} {d k : Nat} {h : MH} {σ σ' : ST} {a0 a1 a2 : Int32} {x : Int32} {f : Nat → Int64} (hj : J g d 1 6 mX2_node 0 (lv_args 0 [.ref (1), .int (a0), .int (a1), .int (a2)]) [] h (CO h k (.int x) σ' "java/lang/IndexOutOfBoundsException" "none")) (hG : GH h σ) (c59 : h.2 59 = some (aJ 1 f)) (hk2 : k ≠ 2) (hσ : k ≠ 0 → GH h σ') :
    J g (d + 1) 1 6 mL_node 0 (lv_args 0 [.ref (1), .int (a0), .int (a1), .int (a2), .ref (59)]) [] h (RH (nI k) (WO h k (x.toInt64) σ')) := by
  obtain ⟨fs, hx1⟩ := GH_1 hG
  refine J_aload (i := 4) (pc := 0) dL_node_0 rfl ?_
  refine J_iconst (v := nI (0)) (pc := 2) dL_node_2 rfl ?_
  refine J_aload_n (i := 0) (pc := 3) dL_node_3 rfl rfl ?_
  refine J_iload_n (i := 1) (pc := 4) dL_node_4 rfl rfl ?_
  refine J_iload_n (i := 2) (pc := 5) dL_node_5 rfl rfl ?_
  refine J_iload_n (i := 3) (pc := 6) dL_node_6 rfl rfl ?_
  refine J_callX (st := [.int (nI (0)), .ref (59)]) (As := [.int (a0), .int (a1), .int (a2)]) (ca1 := 1) (sa1 := 6) (ca2 := 0) (sa2 := 0) (pc := 7) dL_node_7 okX2_node q3_53 q2_111 q2_112 (rfl : vwCl[2]? = some _) hx1 rfl (Nat.le_of_ble_eq_true rfl) (Nat.le_of_ble_eq_true rfl) hj (by decide) (by decide) ?_ ?_
  · intro v9 h9 q
    rcases q with ⟨k0, q1, fr9, gh9⟩ | ⟨_, q1, _⟩ | ⟨_, q1, _⟩
    · cases q1
      subst k0
      have c9 := (fr9.2 59 (by decide)).trans c59
      refine J_i2l (pc := 10) dL_node_10 ?_
      refine J_last (j := 0) (pc := 11) dL_node_11 c9 rfl (by omega) (by omega) ?_
      obtain ⟨h_1, eh_1⟩ : ∃ z : MH, z = (h9.1, hset h9.2 (59) (aJ (1) (vp_updL f (0) (((x)).toInt64)))) := ⟨_, rfl⟩
      refine J_heq (h2 := h_1) eh_1 ?_
      have H_2 : h_1.2 (59) = some (aJ (1) (vp_updL f (0) (((x)).toInt64))) := hs_s eh_1
      refine J_goto (tgt := 19) (pc := 12) dL_node_12 (by decide) ?_
      refine J_iconst (v := nI (0)) (pc := 19) dL_node_19 rfl ?_
      refine J_iret (ty := .int) (pc := 20) dL_node_20 rfl rfl ?_
      exact ⟨rfl, by rw [eh_1]; exact Nat.le_of_eq fr9.1.symm, fun i i1 i2 => (hs_n eh_1 i2).trans (fr9.2 i (Or.inr (by omega))), GH_oth (fun i i1 i2 => hs_n eh_1 (by omega)) gh9, _, H_2, fun _ => (by rw [pk_uLs])⟩
    · cases q1
    · cases q1
  · intro E9 h9 q
    rcases q with ⟨_, q1, _⟩ | ⟨k0, q1, z9, e9⟩ | ⟨k0, q1, z9, e9⟩
    · cases q1
    · cases q1
      subst k0
      refine ⟨[], [], (0, 12, 15, 21), "java/lang/IndexOutOfBoundsException", 0, rfl, (fun z hz => absurd hz List.not_mem_nil), ⟨by decide, by decide⟩, by decide, q2_206, q1_204, ?_⟩
      refine Or.inr ⟨5, dL_node_15, by decide, ?_⟩
      refine J_iconst (v := nI 1) (pc := 17) dL_node_17 rfl ?_
      refine J_iret (ty := .int) (pc := 18) dL_node_18 rfl rfl ?_
      exact ⟨rfl, z9, fun i _ _ => by rw [e9], GH_oth (fun i _ _ => by rw [e9]) (hσ (by decide)), f, by rw [e9]; exact c59, fun q => absurd q (by decide)⟩
    · exact absurd k0 hk2

theorem okwL_about : MOKW mL_about 4 := ⟨q3_56, q1_0, by decide, ⟨by decide, by decide⟩, by decide +kernel, by decide⟩
set_option maxHeartbeats 2000000 in
set_option maxRecDepth 20000 in
theorem w_about {g : GT} {d k : Nat} {h : MH} {σ σ' : ST} {a0 a1 : Int32} {x : Int32} {f : Nat → Int64} (hj : J g d 1 6 mX2_about 0 (lv_args 0 [.ref (1), .int (a0), .int (a1)]) [] h (CO h k (.int x) σ' "java/lang/IndexOutOfBoundsException" "none")) (hG : GH h σ) (c59 : h.2 59 = some (aJ 1 f)) (hk2 : k ≠ 2) (hσ : k ≠ 0 → GH h σ') :
    J g (d + 1) 1 6 mL_about 0 (lv_args 0 [.ref (1), .int (a0), .int (a1), .ref (59)]) [] h (RH (nI k) (WO h k (x.toInt64) σ')) := by
  obtain ⟨fs, hx1⟩ := GH_1 hG
  refine J_aload_n (i := 3) (pc := 0) dL_about_0 rfl rfl ?_
  refine J_iconst (v := nI (0)) (pc := 1) dL_about_1 rfl ?_
  refine J_aload_n (i := 0) (pc := 2) dL_about_2 rfl rfl ?_
  refine J_iload_n (i := 1) (pc := 3) dL_about_3 rfl rfl ?_
  refine J_iload_n (i := 2) (pc := 4) dL_about_4 rfl rfl ?_
  refine J_callX (st := [.int (nI (0)), .ref (59)]) (As := [.int (a0), .int (a1)]) (ca1 := 1) (sa1 := 6) (ca2 := 0) (sa2 := 0) (pc := 5) dL_about_5 okX2_about q3_57 q2_83 q2_84 (rfl : vwCl[2]? = some _) hx1 rfl (Nat.le_of_ble_eq_true rfl) (Nat.le_of_ble_eq_true rfl) hj (by decide) (by decide) ?_ ?_
  · intro v9 h9 q
    rcases q with ⟨k0, q1, fr9, gh9⟩ | ⟨_, q1, _⟩ | ⟨_, q1, _⟩
    · cases q1
      subst k0
      have c9 := (fr9.2 59 (by decide)).trans c59
      refine J_i2l (pc := 8) dL_about_8 ?_
      refine J_last (j := 0) (pc := 9) dL_about_9 c9 rfl (by omega) (by omega) ?_
      obtain ⟨h_1, eh_1⟩ : ∃ z : MH, z = (h9.1, hset h9.2 (59) (aJ (1) (vp_updL f (0) (((x)).toInt64)))) := ⟨_, rfl⟩
      refine J_heq (h2 := h_1) eh_1 ?_
      have H_2 : h_1.2 (59) = some (aJ (1) (vp_updL f (0) (((x)).toInt64))) := hs_s eh_1
      refine J_goto (tgt := 17) (pc := 10) dL_about_10 (by decide) ?_
      refine J_iconst (v := nI (0)) (pc := 17) dL_about_17 rfl ?_
      refine J_iret (ty := .int) (pc := 18) dL_about_18 rfl rfl ?_
      exact ⟨rfl, by rw [eh_1]; exact Nat.le_of_eq fr9.1.symm, fun i i1 i2 => (hs_n eh_1 i2).trans (fr9.2 i (Or.inr (by omega))), GH_oth (fun i i1 i2 => hs_n eh_1 (by omega)) gh9, _, H_2, fun _ => (by rw [pk_uLs])⟩
    · cases q1
    · cases q1
  · intro E9 h9 q
    rcases q with ⟨_, q1, _⟩ | ⟨k0, q1, z9, e9⟩ | ⟨k0, q1, z9, e9⟩
    · cases q1
    · cases q1
      subst k0
      refine ⟨[], [], (0, 10, 13, 21), "java/lang/IndexOutOfBoundsException", 0, rfl, (fun z hz => absurd hz List.not_mem_nil), ⟨by decide, by decide⟩, by decide, q2_206, q1_204, ?_⟩
      refine Or.inr ⟨4, dL_about_13, by decide, ?_⟩
      refine J_iconst (v := nI 1) (pc := 15) dL_about_15 rfl ?_
      refine J_iret (ty := .int) (pc := 16) dL_about_16 rfl rfl ?_
      exact ⟨rfl, z9, fun i _ _ => by rw [e9], GH_oth (fun i _ _ => by rw [e9]) (hσ (by decide)), f, by rw [e9]; exact c59, fun q => absurd q (by decide)⟩
    · exact absurd k0 hk2

theorem okwL_told : MOKW mL_told 4 := ⟨q3_60, q1_0, by decide, ⟨by decide, by decide⟩, by decide +kernel, by decide⟩
set_option maxHeartbeats 2000000 in
set_option maxRecDepth 20000 in
theorem w_told {g : GT} {d k : Nat} {h : MH} {σ σ' : ST} {a0 a1 : Int32} {x : Int32} {f : Nat → Int64} (hj : J g d 1 6 mX2_told 0 (lv_args 0 [.ref (1), .int (a0), .int (a1)]) [] h (CO h k (.int x) σ' "java/lang/IndexOutOfBoundsException" "none")) (hG : GH h σ) (c59 : h.2 59 = some (aJ 1 f)) (hk2 : k ≠ 2) (hσ : k ≠ 0 → GH h σ') :
    J g (d + 1) 1 6 mL_told 0 (lv_args 0 [.ref (1), .int (a0), .int (a1), .ref (59)]) [] h (RH (nI k) (WO h k (x.toInt64) σ')) := by
  obtain ⟨fs, hx1⟩ := GH_1 hG
  refine J_aload_n (i := 3) (pc := 0) dL_told_0 rfl rfl ?_
  refine J_iconst (v := nI (0)) (pc := 1) dL_told_1 rfl ?_
  refine J_aload_n (i := 0) (pc := 2) dL_told_2 rfl rfl ?_
  refine J_iload_n (i := 1) (pc := 3) dL_told_3 rfl rfl ?_
  refine J_iload_n (i := 2) (pc := 4) dL_told_4 rfl rfl ?_
  refine J_callX (st := [.int (nI (0)), .ref (59)]) (As := [.int (a0), .int (a1)]) (ca1 := 1) (sa1 := 6) (ca2 := 0) (sa2 := 0) (pc := 5) dL_told_5 okX2_told q3_61 q2_64 q2_65 (rfl : vwCl[2]? = some _) hx1 rfl (Nat.le_of_ble_eq_true rfl) (Nat.le_of_ble_eq_true rfl) hj (by decide) (by decide) ?_ ?_
  · intro v9 h9 q
    rcases q with ⟨k0, q1, fr9, gh9⟩ | ⟨_, q1, _⟩ | ⟨_, q1, _⟩
    · cases q1
      subst k0
      have c9 := (fr9.2 59 (by decide)).trans c59
      refine J_i2l (pc := 8) dL_told_8 ?_
      refine J_last (j := 0) (pc := 9) dL_told_9 c9 rfl (by omega) (by omega) ?_
      obtain ⟨h_1, eh_1⟩ : ∃ z : MH, z = (h9.1, hset h9.2 (59) (aJ (1) (vp_updL f (0) (((x)).toInt64)))) := ⟨_, rfl⟩
      refine J_heq (h2 := h_1) eh_1 ?_
      have H_2 : h_1.2 (59) = some (aJ (1) (vp_updL f (0) (((x)).toInt64))) := hs_s eh_1
      refine J_goto (tgt := 17) (pc := 10) dL_told_10 (by decide) ?_
      refine J_iconst (v := nI (0)) (pc := 17) dL_told_17 rfl ?_
      refine J_iret (ty := .int) (pc := 18) dL_told_18 rfl rfl ?_
      exact ⟨rfl, by rw [eh_1]; exact Nat.le_of_eq fr9.1.symm, fun i i1 i2 => (hs_n eh_1 i2).trans (fr9.2 i (Or.inr (by omega))), GH_oth (fun i i1 i2 => hs_n eh_1 (by omega)) gh9, _, H_2, fun _ => (by rw [pk_uLs])⟩
    · cases q1
    · cases q1
  · intro E9 h9 q
    rcases q with ⟨_, q1, _⟩ | ⟨k0, q1, z9, e9⟩ | ⟨k0, q1, z9, e9⟩
    · cases q1
    · cases q1
      subst k0
      refine ⟨[], [], (0, 10, 13, 21), "java/lang/IndexOutOfBoundsException", 0, rfl, (fun z hz => absurd hz List.not_mem_nil), ⟨by decide, by decide⟩, by decide, q2_206, q1_204, ?_⟩
      refine Or.inr ⟨4, dL_told_13, by decide, ?_⟩
      refine J_iconst (v := nI 1) (pc := 15) dL_told_15 rfl ?_
      refine J_iret (ty := .int) (pc := 16) dL_told_16 rfl rfl ?_
      exact ⟨rfl, z9, fun i _ _ => by rw [e9], GH_oth (fun i _ _ => by rw [e9]) (hσ (by decide)), f, by rw [e9]; exact c59, fun q => absurd q (by decide)⟩
    · exact absurd k0 hk2

theorem okwL_says : MOKW mL_says 6 := ⟨q3_64, q1_0, by decide, ⟨by decide, by decide⟩, by decide +kernel, by decide⟩
set_option maxHeartbeats 2000000 in
set_option maxRecDepth 20000 in
theorem w_says {g : GT} {d k : Nat} {h : MH} {σ σ' : ST} {a0 a1 a2 a3 : Int32} {x : Int32} {f : Nat → Int64} (hj : J g d 1 6 mX2_says 0 (lv_args 0 [.ref (1), .int (a0), .int (a1), .int (a2), .int (a3)]) [] h (CO h k (.int x) σ' "java/lang/IndexOutOfBoundsException" "java/lang/IllegalArgumentException")) (hG : GH h σ) (c59 : h.2 59 = some (aJ 1 f)) (hσ : k ≠ 0 → GH h σ') :
    J g (d + 1) 1 6 mL_says 0 (lv_args 0 [.ref (1), .int (a0), .int (a1), .int (a2), .int (a3), .ref (59)]) [] h (RH (nI k) (WO h k (x.toInt64) σ')) := by
  obtain ⟨fs, hx1⟩ := GH_1 hG
  refine J_aload (i := 5) (pc := 0) dL_says_0 rfl ?_
  refine J_iconst (v := nI (0)) (pc := 2) dL_says_2 rfl ?_
  refine J_aload_n (i := 0) (pc := 3) dL_says_3 rfl rfl ?_
  refine J_iload_n (i := 1) (pc := 4) dL_says_4 rfl rfl ?_
  refine J_iload_n (i := 2) (pc := 5) dL_says_5 rfl rfl ?_
  refine J_iload_n (i := 3) (pc := 6) dL_says_6 rfl rfl ?_
  refine J_iload (i := 4) (pc := 7) dL_says_7 rfl ?_
  refine J_callX (st := [.int (nI (0)), .ref (59)]) (As := [.int (a0), .int (a1), .int (a2), .int (a3)]) (ca1 := 1) (sa1 := 6) (ca2 := 0) (sa2 := 0) (pc := 9) dL_says_9 okX2_says q3_65 q3_66 q3_67 (rfl : vwCl[2]? = some _) hx1 rfl (Nat.le_of_ble_eq_true rfl) (Nat.le_of_ble_eq_true rfl) hj (by decide) (by decide) ?_ ?_
  · intro v9 h9 q
    rcases q with ⟨k0, q1, fr9, gh9⟩ | ⟨_, q1, _⟩ | ⟨_, q1, _⟩
    · cases q1
      subst k0
      have c9 := (fr9.2 59 (by decide)).trans c59
      refine J_i2l (pc := 12) dL_says_12 ?_
      refine J_last (j := 0) (pc := 13) dL_says_13 c9 rfl (by omega) (by omega) ?_
      obtain ⟨h_1, eh_1⟩ : ∃ z : MH, z = (h9.1, hset h9.2 (59) (aJ (1) (vp_updL f (0) (((x)).toInt64)))) := ⟨_, rfl⟩
      refine J_heq (h2 := h_1) eh_1 ?_
      have H_2 : h_1.2 (59) = some (aJ (1) (vp_updL f (0) (((x)).toInt64))) := hs_s eh_1
      refine J_goto (tgt := 25) (pc := 14) dL_says_14 (by decide) ?_
      refine J_iconst (v := nI (0)) (pc := 25) dL_says_25 rfl ?_
      refine J_iret (ty := .int) (pc := 26) dL_says_26 rfl rfl ?_
      exact ⟨rfl, by rw [eh_1]; exact Nat.le_of_eq fr9.1.symm, fun i i1 i2 => (hs_n eh_1 i2).trans (fr9.2 i (Or.inr (by omega))), GH_oth (fun i i1 i2 => hs_n eh_1 (by omega)) gh9, _, H_2, fun _ => (by rw [pk_uLs])⟩
    · cases q1
    · cases q1
  · intro E9 h9 q
    rcases q with ⟨_, q1, _⟩ | ⟨k0, q1, z9, e9⟩ | ⟨k0, q1, z9, e9⟩
    · cases q1
    · cases q1
      subst k0
      refine ⟨[], [(0, 14, 21, 13)], (0, 14, 17, 21), "java/lang/IndexOutOfBoundsException", 0, rfl, (fun z hz => absurd hz List.not_mem_nil), ⟨by decide, by decide⟩, by decide, q2_206, q1_204, ?_⟩
      refine Or.inr ⟨6, dL_says_17, by decide, ?_⟩
      refine J_iconst (v := nI 1) (pc := 19) dL_says_19 rfl ?_
      refine J_iret (ty := .int) (pc := 20) dL_says_20 rfl rfl ?_
      exact ⟨rfl, z9, fun i _ _ => by rw [e9], GH_oth (fun i _ _ => by rw [e9]) (hσ (by decide)), f, by rw [e9]; exact c59, fun q => absurd q (by decide)⟩
    · cases q1
      subst k0
      refine ⟨[(0, 14, 17, 21)], [], (0, 14, 21, 13), "java/lang/IllegalArgumentException", 0, rfl, (fun z hz => by rw [List.mem_singleton.mp hz]; exact ⟨by decide, "java/lang/IndexOutOfBoundsException", q2_206, fun hg => nc_2 hg⟩), ⟨by decide, by decide⟩, by decide, q2_147, q2_161, ?_⟩
      refine Or.inr ⟨6, dL_says_21, by decide, ?_⟩
      refine J_iconst (v := nI 2) (pc := 23) dL_says_23 rfl ?_
      refine J_iret (ty := .int) (pc := 24) dL_says_24 rfl rfl ?_
      exact ⟨rfl, z9, fun i _ _ => by rw [e9], GH_oth (fun i _ _ => by rw [e9]) (hσ (by decide)), f, by rw [e9]; exact c59, fun q => absurd q (by decide)⟩

theorem okwL_vote : MOKW mL_vote 5 := ⟨q3_71, q1_0, by decide, ⟨by decide, by decide⟩, by decide +kernel, by decide⟩
set_option maxHeartbeats 2000000 in
set_option maxRecDepth 20000 in
theorem w_vote {g : GT} {d k : Nat} {h : MH} {σ σ' : ST} {a0 a1 a2 : Int32} {x : Int32} {f : Nat → Int64} (hj : J g d 1 6 mX2_vote 0 (lv_args 0 [.ref (1), .int (a0), .int (a1), .int (a2)]) [] h (CO h k (.int x) σ' "java/lang/IllegalArgumentException" "none")) (hG : GH h σ) (c59 : h.2 59 = some (aJ 1 f)) (hk2 : k ≠ 2) (hσ : k ≠ 0 → GH h σ') :
    J g (d + 1) 1 6 mL_vote 0 (lv_args 0 [.ref (1), .int (a0), .int (a1), .int (a2), .ref (59)]) [] h (RH (nI k) (WO h k (x.toInt64) σ')) := by
  obtain ⟨fs, hx1⟩ := GH_1 hG
  refine J_aload (i := 4) (pc := 0) dL_vote_0 rfl ?_
  refine J_iconst (v := nI (0)) (pc := 2) dL_vote_2 rfl ?_
  refine J_aload_n (i := 0) (pc := 3) dL_vote_3 rfl rfl ?_
  refine J_iload_n (i := 1) (pc := 4) dL_vote_4 rfl rfl ?_
  refine J_iload_n (i := 2) (pc := 5) dL_vote_5 rfl rfl ?_
  refine J_iload_n (i := 3) (pc := 6) dL_vote_6 rfl rfl ?_
  refine J_callX (st := [.int (nI (0)), .ref (59)]) (As := [.int (a0), .int (a1), .int (a2)]) (ca1 := 1) (sa1 := 6) (ca2 := 0) (sa2 := 0) (pc := 7) dL_vote_7 okX2_vote q3_72 q3_73 q3_74 (rfl : vwCl[2]? = some _) hx1 rfl (Nat.le_of_ble_eq_true rfl) (Nat.le_of_ble_eq_true rfl) hj (by decide) (by decide) ?_ ?_
  · intro v9 h9 q
    rcases q with ⟨k0, q1, fr9, gh9⟩ | ⟨_, q1, _⟩ | ⟨_, q1, _⟩
    · cases q1
      subst k0
      have c9 := (fr9.2 59 (by decide)).trans c59
      refine J_i2l (pc := 10) dL_vote_10 ?_
      refine J_last (j := 0) (pc := 11) dL_vote_11 c9 rfl (by omega) (by omega) ?_
      obtain ⟨h_1, eh_1⟩ : ∃ z : MH, z = (h9.1, hset h9.2 (59) (aJ (1) (vp_updL f (0) (((x)).toInt64)))) := ⟨_, rfl⟩
      refine J_heq (h2 := h_1) eh_1 ?_
      have H_2 : h_1.2 (59) = some (aJ (1) (vp_updL f (0) (((x)).toInt64))) := hs_s eh_1
      refine J_goto (tgt := 19) (pc := 12) dL_vote_12 (by decide) ?_
      refine J_iconst (v := nI (0)) (pc := 19) dL_vote_19 rfl ?_
      refine J_iret (ty := .int) (pc := 20) dL_vote_20 rfl rfl ?_
      exact ⟨rfl, by rw [eh_1]; exact Nat.le_of_eq fr9.1.symm, fun i i1 i2 => (hs_n eh_1 i2).trans (fr9.2 i (Or.inr (by omega))), GH_oth (fun i i1 i2 => hs_n eh_1 (by omega)) gh9, _, H_2, fun _ => (by rw [pk_uLs])⟩
    · cases q1
    · cases q1
  · intro E9 h9 q
    rcases q with ⟨_, q1, _⟩ | ⟨k0, q1, z9, e9⟩ | ⟨k0, q1, z9, e9⟩
    · cases q1
    · cases q1
      subst k0
      refine ⟨[], [], (0, 12, 15, 13), "java/lang/IllegalArgumentException", 0, rfl, (fun z hz => absurd hz List.not_mem_nil), ⟨by decide, by decide⟩, by decide, q2_147, q2_161, ?_⟩
      refine Or.inr ⟨5, dL_vote_15, by decide, ?_⟩
      refine J_iconst (v := nI 1) (pc := 17) dL_vote_17 rfl ?_
      refine J_iret (ty := .int) (pc := 18) dL_vote_18 rfl rfl ?_
      exact ⟨rfl, z9, fun i _ _ => by rw [e9], GH_oth (fun i _ _ => by rw [e9]) (hσ (by decide)), f, by rw [e9]; exact c59, fun q => absurd q (by decide)⟩
    · exact absurd k0 hk2

theorem okwL_count : MOKW mL_count 3 := ⟨q3_78, q1_0, by decide, ⟨by decide, by decide⟩, by decide +kernel, by decide⟩
set_option maxHeartbeats 2000000 in
set_option maxRecDepth 20000 in
theorem w_count {g : GT} {d k : Nat} {h : MH} {σ σ' : ST} {a0 : Int32} {x : Int32} {f : Nat → Int64} (hj : J g d 1 6 mX2_count 0 (lv_args 0 [.ref (1), .int (a0)]) [] h (CO h k (.int x) σ' "java/lang/IndexOutOfBoundsException" "none")) (hG : GH h σ) (c59 : h.2 59 = some (aJ 1 f)) (hk2 : k ≠ 2) (hσ : k ≠ 0 → GH h σ') :
    J g (d + 1) 1 6 mL_count 0 (lv_args 0 [.ref (1), .int (a0), .ref (59)]) [] h (RH (nI k) (WO h k (x.toInt64) σ')) := by
  obtain ⟨fs, hx1⟩ := GH_1 hG
  refine J_aload_n (i := 2) (pc := 0) dL_count_0 rfl rfl ?_
  refine J_iconst (v := nI (0)) (pc := 1) dL_count_1 rfl ?_
  refine J_aload_n (i := 0) (pc := 2) dL_count_2 rfl rfl ?_
  refine J_iload_n (i := 1) (pc := 3) dL_count_3 rfl rfl ?_
  refine J_callX (st := [.int (nI (0)), .ref (59)]) (As := [.int (a0)]) (ca1 := 1) (sa1 := 6) (ca2 := 0) (sa2 := 0) (pc := 4) dL_count_4 okX2_count q3_79 q1_199 q1_200 (rfl : vwCl[2]? = some _) hx1 rfl (Nat.le_of_ble_eq_true rfl) (Nat.le_of_ble_eq_true rfl) hj (by decide) (by decide) ?_ ?_
  · intro v9 h9 q
    rcases q with ⟨k0, q1, fr9, gh9⟩ | ⟨_, q1, _⟩ | ⟨_, q1, _⟩
    · cases q1
      subst k0
      have c9 := (fr9.2 59 (by decide)).trans c59
      refine J_i2l (pc := 7) dL_count_7 ?_
      refine J_last (j := 0) (pc := 8) dL_count_8 c9 rfl (by omega) (by omega) ?_
      obtain ⟨h_1, eh_1⟩ : ∃ z : MH, z = (h9.1, hset h9.2 (59) (aJ (1) (vp_updL f (0) (((x)).toInt64)))) := ⟨_, rfl⟩
      refine J_heq (h2 := h_1) eh_1 ?_
      have H_2 : h_1.2 (59) = some (aJ (1) (vp_updL f (0) (((x)).toInt64))) := hs_s eh_1
      refine J_goto (tgt := 15) (pc := 9) dL_count_9 (by decide) ?_
      refine J_iconst (v := nI (0)) (pc := 15) dL_count_15 rfl ?_
      refine J_iret (ty := .int) (pc := 16) dL_count_16 rfl rfl ?_
      exact ⟨rfl, by rw [eh_1]; exact Nat.le_of_eq fr9.1.symm, fun i i1 i2 => (hs_n eh_1 i2).trans (fr9.2 i (Or.inr (by omega))), GH_oth (fun i i1 i2 => hs_n eh_1 (by omega)) gh9, _, H_2, fun _ => (by rw [pk_uLs])⟩
    · cases q1
    · cases q1
  · intro E9 h9 q
    rcases q with ⟨_, q1, _⟩ | ⟨k0, q1, z9, e9⟩ | ⟨k0, q1, z9, e9⟩
    · cases q1
    · cases q1
      subst k0
      refine ⟨[], [], (0, 9, 12, 21), "java/lang/IndexOutOfBoundsException", 3, rfl, (fun z hz => absurd hz List.not_mem_nil), ⟨by decide, by decide⟩, by decide, q2_206, q1_204, ?_⟩
      refine Or.inl ⟨dL_count_12, by decide, ?_⟩
      refine J_iconst (v := nI 1) (pc := 13) dL_count_13 rfl ?_
      refine J_iret (ty := .int) (pc := 14) dL_count_14 rfl rfl ?_
      exact ⟨rfl, z9, fun i _ _ => by rw [e9], GH_oth (fun i _ _ => by rw [e9]) (hσ (by decide)), f, by rw [e9]; exact c59, fun q => absurd q (by decide)⟩
    · exact absurd k0 hk2

theorem okwL_gain : MOKW mL_gain 5 := ⟨q3_82, q1_0, by decide, ⟨by decide, by decide⟩, by decide +kernel, by decide⟩
set_option maxHeartbeats 2000000 in
set_option maxRecDepth 20000 in
theorem w_gain {g : GT} {d k : Nat} {h : MH} {σ σ' : ST} {a0 a1 a2 : Int32} {x : Int32} {f : Nat → Int64} (hj : J g d 1 6 mX2_gain 0 (lv_args 0 [.ref (1), .int (a0), .int (a1), .int (a2)]) [] h (CO h k (.int x) σ' "java/lang/IndexOutOfBoundsException" "java/lang/IllegalArgumentException")) (hG : GH h σ) (c59 : h.2 59 = some (aJ 1 f)) (hσ : k ≠ 0 → GH h σ') :
    J g (d + 1) 1 6 mL_gain 0 (lv_args 0 [.ref (1), .int (a0), .int (a1), .int (a2), .ref (59)]) [] h (RH (nI k) (WO h k (x.toInt64) σ')) := by
  obtain ⟨fs, hx1⟩ := GH_1 hG
  refine J_aload (i := 4) (pc := 0) dL_gain_0 rfl ?_
  refine J_iconst (v := nI (0)) (pc := 2) dL_gain_2 rfl ?_
  refine J_aload_n (i := 0) (pc := 3) dL_gain_3 rfl rfl ?_
  refine J_iload_n (i := 1) (pc := 4) dL_gain_4 rfl rfl ?_
  refine J_iload_n (i := 2) (pc := 5) dL_gain_5 rfl rfl ?_
  refine J_iload_n (i := 3) (pc := 6) dL_gain_6 rfl rfl ?_
  refine J_callX (st := [.int (nI (0)), .ref (59)]) (As := [.int (a0), .int (a1), .int (a2)]) (ca1 := 1) (sa1 := 6) (ca2 := 0) (sa2 := 0) (pc := 7) dL_gain_7 okX2_gain q3_83 q3_84 q3_85 (rfl : vwCl[2]? = some _) hx1 rfl (Nat.le_of_ble_eq_true rfl) (Nat.le_of_ble_eq_true rfl) hj (by decide) (by decide) ?_ ?_
  · intro v9 h9 q
    rcases q with ⟨k0, q1, fr9, gh9⟩ | ⟨_, q1, _⟩ | ⟨_, q1, _⟩
    · cases q1
      subst k0
      have c9 := (fr9.2 59 (by decide)).trans c59
      refine J_i2l (pc := 10) dL_gain_10 ?_
      refine J_last (j := 0) (pc := 11) dL_gain_11 c9 rfl (by omega) (by omega) ?_
      obtain ⟨h_1, eh_1⟩ : ∃ z : MH, z = (h9.1, hset h9.2 (59) (aJ (1) (vp_updL f (0) (((x)).toInt64)))) := ⟨_, rfl⟩
      refine J_heq (h2 := h_1) eh_1 ?_
      have H_2 : h_1.2 (59) = some (aJ (1) (vp_updL f (0) (((x)).toInt64))) := hs_s eh_1
      refine J_goto (tgt := 23) (pc := 12) dL_gain_12 (by decide) ?_
      refine J_iconst (v := nI (0)) (pc := 23) dL_gain_23 rfl ?_
      refine J_iret (ty := .int) (pc := 24) dL_gain_24 rfl rfl ?_
      exact ⟨rfl, by rw [eh_1]; exact Nat.le_of_eq fr9.1.symm, fun i i1 i2 => (hs_n eh_1 i2).trans (fr9.2 i (Or.inr (by omega))), GH_oth (fun i i1 i2 => hs_n eh_1 (by omega)) gh9, _, H_2, fun _ => (by rw [pk_uLs])⟩
    · cases q1
    · cases q1
  · intro E9 h9 q
    rcases q with ⟨_, q1, _⟩ | ⟨k0, q1, z9, e9⟩ | ⟨k0, q1, z9, e9⟩
    · cases q1
    · cases q1
      subst k0
      refine ⟨[], [(0, 12, 19, 13)], (0, 12, 15, 21), "java/lang/IndexOutOfBoundsException", 0, rfl, (fun z hz => absurd hz List.not_mem_nil), ⟨by decide, by decide⟩, by decide, q2_206, q1_204, ?_⟩
      refine Or.inr ⟨5, dL_gain_15, by decide, ?_⟩
      refine J_iconst (v := nI 1) (pc := 17) dL_gain_17 rfl ?_
      refine J_iret (ty := .int) (pc := 18) dL_gain_18 rfl rfl ?_
      exact ⟨rfl, z9, fun i _ _ => by rw [e9], GH_oth (fun i _ _ => by rw [e9]) (hσ (by decide)), f, by rw [e9]; exact c59, fun q => absurd q (by decide)⟩
    · cases q1
      subst k0
      refine ⟨[(0, 12, 15, 21)], [], (0, 12, 19, 13), "java/lang/IllegalArgumentException", 0, rfl, (fun z hz => by rw [List.mem_singleton.mp hz]; exact ⟨by decide, "java/lang/IndexOutOfBoundsException", q2_206, fun hg => nc_2 hg⟩), ⟨by decide, by decide⟩, by decide, q2_147, q2_161, ?_⟩
      refine Or.inr ⟨5, dL_gain_19, by decide, ?_⟩
      refine J_iconst (v := nI 2) (pc := 21) dL_gain_21 rfl ?_
      refine J_iret (ty := .int) (pc := 22) dL_gain_22 rfl rfl ?_
      exact ⟨rfl, z9, fun i _ _ => by rw [e9], GH_oth (fun i _ _ => by rw [e9]) (hσ (by decide)), f, by rw [e9]; exact c59, fun q => absurd q (by decide)⟩

theorem okwL_best : MOKW mL_best 3 := ⟨q3_98, q1_0, by decide, ⟨by decide, by decide⟩, by decide +kernel, by decide⟩
set_option maxHeartbeats 2000000 in
set_option maxRecDepth 20000 in
theorem w_best {g : GT} {d k : Nat} {h : MH} {σ σ' : ST} {a0 : Int32} {x : Int32} {f : Nat → Int64} (hj : J g d 1 6 mX2_best 0 (lv_args 0 [.ref (1), .int (a0)]) [] h (CO h k (.int x) σ' "java/lang/IndexOutOfBoundsException" "none")) (hG : GH h σ) (c59 : h.2 59 = some (aJ 1 f)) (hk2 : k ≠ 2) (hσ : k ≠ 0 → GH h σ') :
    J g (d + 1) 1 6 mL_best 0 (lv_args 0 [.ref (1), .int (a0), .ref (59)]) [] h (RH (nI k) (WO h k (x.toInt64) σ')) := by
  obtain ⟨fs, hx1⟩ := GH_1 hG
  refine J_aload_n (i := 2) (pc := 0) dL_best_0 rfl rfl ?_
  refine J_iconst (v := nI (0)) (pc := 1) dL_best_1 rfl ?_
  refine J_aload_n (i := 0) (pc := 2) dL_best_2 rfl rfl ?_
  refine J_iload_n (i := 1) (pc := 3) dL_best_3 rfl rfl ?_
  refine J_callX (st := [.int (nI (0)), .ref (59)]) (As := [.int (a0)]) (ca1 := 1) (sa1 := 6) (ca2 := 0) (sa2 := 0) (pc := 4) dL_best_4 okX2_best q3_99 q3_100 q3_101 (rfl : vwCl[2]? = some _) hx1 rfl (Nat.le_of_ble_eq_true rfl) (Nat.le_of_ble_eq_true rfl) hj (by decide) (by decide) ?_ ?_
  · intro v9 h9 q
    rcases q with ⟨k0, q1, fr9, gh9⟩ | ⟨_, q1, _⟩ | ⟨_, q1, _⟩
    · cases q1
      subst k0
      have c9 := (fr9.2 59 (by decide)).trans c59
      refine J_i2l (pc := 7) dL_best_7 ?_
      refine J_last (j := 0) (pc := 8) dL_best_8 c9 rfl (by omega) (by omega) ?_
      obtain ⟨h_1, eh_1⟩ : ∃ z : MH, z = (h9.1, hset h9.2 (59) (aJ (1) (vp_updL f (0) (((x)).toInt64)))) := ⟨_, rfl⟩
      refine J_heq (h2 := h_1) eh_1 ?_
      have H_2 : h_1.2 (59) = some (aJ (1) (vp_updL f (0) (((x)).toInt64))) := hs_s eh_1
      refine J_goto (tgt := 15) (pc := 9) dL_best_9 (by decide) ?_
      refine J_iconst (v := nI (0)) (pc := 15) dL_best_15 rfl ?_
      refine J_iret (ty := .int) (pc := 16) dL_best_16 rfl rfl ?_
      exact ⟨rfl, by rw [eh_1]; exact Nat.le_of_eq fr9.1.symm, fun i i1 i2 => (hs_n eh_1 i2).trans (fr9.2 i (Or.inr (by omega))), GH_oth (fun i i1 i2 => hs_n eh_1 (by omega)) gh9, _, H_2, fun _ => (by rw [pk_uLs])⟩
    · cases q1
    · cases q1
  · intro E9 h9 q
    rcases q with ⟨_, q1, _⟩ | ⟨k0, q1, z9, e9⟩ | ⟨k0, q1, z9, e9⟩
    · cases q1
    · cases q1
      subst k0
      refine ⟨[], [], (0, 9, 12, 21), "java/lang/IndexOutOfBoundsException", 3, rfl, (fun z hz => absurd hz List.not_mem_nil), ⟨by decide, by decide⟩, by decide, q2_206, q1_204, ?_⟩
      refine Or.inl ⟨dL_best_12, by decide, ?_⟩
      refine J_iconst (v := nI 1) (pc := 13) dL_best_13 rfl ?_
      refine J_iret (ty := .int) (pc := 14) dL_best_14 rfl rfl ?_
      exact ⟨rfl, z9, fun i _ _ => by rw [e9], GH_oth (fun i _ _ => by rw [e9]) (hσ (by decide)), f, by rw [e9]; exact c59, fun q => absurd q (by decide)⟩
    · exact absurd k0 hk2

theorem okwL_would : MOKW mL_would 5 := ⟨q3_108, q1_0, by decide, ⟨by decide, by decide⟩, by decide +kernel, by decide⟩
set_option maxHeartbeats 2000000 in
set_option maxRecDepth 20000 in
theorem w_would {g : GT} {d k : Nat} {h : MH} {σ σ' : ST} {a0 a1 a2 : Int32} {x : Int32} {f : Nat → Int64} (hj : J g d 1 6 mX2_would 0 (lv_args 0 [.ref (1), .int (a0), .int (a1), .int (a2)]) [] h (CO h k (.int x) σ' "java/lang/IllegalArgumentException" "java/lang/IndexOutOfBoundsException")) (hG : GH h σ) (c59 : h.2 59 = some (aJ 1 f)) (hσ : k ≠ 0 → GH h σ') :
    J g (d + 1) 1 6 mL_would 0 (lv_args 0 [.ref (1), .int (a0), .int (a1), .int (a2), .ref (59)]) [] h (RH (nI k) (WO h k (x.toInt64) σ')) := by
  obtain ⟨fs, hx1⟩ := GH_1 hG
  refine J_aload (i := 4) (pc := 0) dL_would_0 rfl ?_
  refine J_iconst (v := nI (0)) (pc := 2) dL_would_2 rfl ?_
  refine J_aload_n (i := 0) (pc := 3) dL_would_3 rfl rfl ?_
  refine J_iload_n (i := 1) (pc := 4) dL_would_4 rfl rfl ?_
  refine J_iload_n (i := 2) (pc := 5) dL_would_5 rfl rfl ?_
  refine J_iload_n (i := 3) (pc := 6) dL_would_6 rfl rfl ?_
  refine J_callX (st := [.int (nI (0)), .ref (59)]) (As := [.int (a0), .int (a1), .int (a2)]) (ca1 := 1) (sa1 := 6) (ca2 := 0) (sa2 := 0) (pc := 7) dL_would_7 okX2_would q3_109 q3_110 q3_111 (rfl : vwCl[2]? = some _) hx1 rfl (Nat.le_of_ble_eq_true rfl) (Nat.le_of_ble_eq_true rfl) hj (by decide) (by decide) ?_ ?_
  · intro v9 h9 q
    rcases q with ⟨k0, q1, fr9, gh9⟩ | ⟨_, q1, _⟩ | ⟨_, q1, _⟩
    · cases q1
      subst k0
      have c9 := (fr9.2 59 (by decide)).trans c59
      refine J_i2l (pc := 10) dL_would_10 ?_
      refine J_last (j := 0) (pc := 11) dL_would_11 c9 rfl (by omega) (by omega) ?_
      obtain ⟨h_1, eh_1⟩ : ∃ z : MH, z = (h9.1, hset h9.2 (59) (aJ (1) (vp_updL f (0) (((x)).toInt64)))) := ⟨_, rfl⟩
      refine J_heq (h2 := h_1) eh_1 ?_
      have H_2 : h_1.2 (59) = some (aJ (1) (vp_updL f (0) (((x)).toInt64))) := hs_s eh_1
      refine J_goto (tgt := 23) (pc := 12) dL_would_12 (by decide) ?_
      refine J_iconst (v := nI (0)) (pc := 23) dL_would_23 rfl ?_
      refine J_iret (ty := .int) (pc := 24) dL_would_24 rfl rfl ?_
      exact ⟨rfl, by rw [eh_1]; exact Nat.le_of_eq fr9.1.symm, fun i i1 i2 => (hs_n eh_1 i2).trans (fr9.2 i (Or.inr (by omega))), GH_oth (fun i i1 i2 => hs_n eh_1 (by omega)) gh9, _, H_2, fun _ => (by rw [pk_uLs])⟩
    · cases q1
    · cases q1
  · intro E9 h9 q
    rcases q with ⟨_, q1, _⟩ | ⟨k0, q1, z9, e9⟩ | ⟨k0, q1, z9, e9⟩
    · cases q1
    · cases q1
      subst k0
      refine ⟨[], [(0, 12, 19, 21)], (0, 12, 15, 13), "java/lang/IllegalArgumentException", 0, rfl, (fun z hz => absurd hz List.not_mem_nil), ⟨by decide, by decide⟩, by decide, q2_147, q2_161, ?_⟩
      refine Or.inr ⟨5, dL_would_15, by decide, ?_⟩
      refine J_iconst (v := nI 1) (pc := 17) dL_would_17 rfl ?_
      refine J_iret (ty := .int) (pc := 18) dL_would_18 rfl rfl ?_
      exact ⟨rfl, z9, fun i _ _ => by rw [e9], GH_oth (fun i _ _ => by rw [e9]) (hσ (by decide)), f, by rw [e9]; exact c59, fun q => absurd q (by decide)⟩
    · cases q1
      subst k0
      refine ⟨[(0, 12, 15, 13)], [], (0, 12, 19, 21), "java/lang/IndexOutOfBoundsException", 0, rfl, (fun z hz => by rw [List.mem_singleton.mp hz]; exact ⟨by decide, "java/lang/IllegalArgumentException", q2_147, fun hg => nc_3 hg⟩), ⟨by decide, by decide⟩, by decide, q2_206, q1_204, ?_⟩
      refine Or.inr ⟨5, dL_would_19, by decide, ?_⟩
      refine J_iconst (v := nI 2) (pc := 21) dL_would_21 rfl ?_
      refine J_iret (ty := .int) (pc := 22) dL_would_22 rfl rfl ?_
      exact ⟨rfl, z9, fun i _ _ => by rw [e9], GH_oth (fun i _ _ => by rw [e9]) (hσ (by decide)), f, by rw [e9]; exact c59, fun q => absurd q (by decide)⟩

