-- rules for what reads and writes the heap, for ends, and for calls
theorem wd {g : GT} (hg : OkG g) {s : State} (hW : (g_s g).WarmedH s.vm) {w : Cond} (hw : w ∈ lw_tbl) (hgood : (w.onTables && w.keeps) = true ∨ ∃ ty, w = .arrayClass ty) (args : Array Value) : w.before args s = true := word_at hW hgood (hg.2.1 w hw)
theorem kd {g : GT} (hg : OkG g) {s : State} (hW : (g_s g).WarmedH s.vm) : va_K (g_D g) vwCl [] s := va_K.moved hW.alike hg.2.2.1
theorem lay_good {C : String} {T : u_T} {N : Nat} {w : Cond} (h : w ∈ u_ws C T N) : (w.onTables && w.keeps) = true := by
  obtain ⟨k, -, rfl⟩ := List.mem_map.mp h
  unfold u_lay
  split <;> rfl
theorem ad_ne {g : GT} {i j : Nat} (hi : 1 ≤ i) (hj : 1 ≤ j) (h : i ≠ j) : ad g i ≠ ad g j := by
  unfold ad
  rw [if_neg (by omega), if_neg (by omega)]
  omega
theorem ad_ge {g : GT} {i : Nat} (hi : 1 ≤ i) : g_n g ≤ ad g i := by
  unfold ad
  rw [if_neg (by omega)]
  omega
theorem Rel.put {g : GT} {h : MH} {H H' : Heap} {a : Nat} {c0 c1 : MC} (hR : Rel g h H) (ha : h.2 a = some c0) (hz : H'.size = H.size) (hoq : ∀ q, q ≠ ad g a → H'[q]? = H[q]?) (hat : va_at (g_D g) vwCl (ad g a, emC g c1) H') : Rel g (h.1, hset h.2 a c1) H' := by
  obtain ⟨h1, h2, h3⟩ := hR
  refine ⟨h1, by rw [hz]; exact h2, fun i c hc => ?_⟩
  obtain ⟨b1, b2, -⟩ := h3 a _ ha
  by_cases e : i = a
  · subst e
    have hc : hset h.2 i c1 i = some c := hc
    rw [hset_s] at hc
    cases hc
    exact ⟨b1, b2, hat⟩
  · have hc : hset h.2 a c1 i = some c := hc
    rw [hset_n e] at hc
    obtain ⟨d1, d2, d3⟩ := h3 i _ hc
    exact ⟨d1, d2, d3.kept (hoq _ (ad_ne d1 b1 e))⟩
theorem Rel.add {g : GT} {h : MH} {H H' : Heap} {c1 : MC} (hR : Rel g h H) (hz : H'.size = H.size + 1) (hoq : ∀ q, q < H.size → H'[q]? = H[q]?) (hat : va_at (g_D g) vwCl (H.size, emC g c1) H') : Rel g (h.1 + 1, hset h.2 h.1 c1) H' := by
  obtain ⟨h1, h2, h3⟩ := hR
  refine ⟨by show 1 ≤ h.1 + 1; omega, by show H'.size + 1 = g_n g + (h.1 + 1); omega, fun i c hc => ?_⟩
  have hc : hset h.2 h.1 c1 i = some c := hc
  by_cases e : i = h.1
  · subst e
    rw [hset_s] at hc
    cases hc
    refine ⟨h1, by show h.1 < h.1 + 1; omega, ?_⟩
    have e1 : ad g h.1 = H.size := by
      unfold ad
      rw [if_neg (by omega)]
      omega
    rw [e1]
    exact hat
  · rw [hset_n e] at hc
    obtain ⟨d1, d2, d3⟩ := h3 i _ hc
    exact ⟨d1, by show i < h.1 + 1; omega, d3.kept (hoq _ d3.lt)⟩
theorem Rel.next {g : GT} {h : MH} {H : Heap} (hR : Rel g h H) : ad g h.1 = H.size := by
  obtain ⟨h1, h2, h3⟩ := hR
  unfold ad
  rw [if_neg (by omega)]
  omega
/-- a field's place: the user's name, the pool's number, the kind of the object, the field -/
def FL (own : String) (index ci k : Nat) : Prop := ∃ (C : String) (T : u_T) (N : Nat), vwCl[ci]? = some (C, T, N) ∧ k < N ∧ Cond.fieldLink own index (T k).1 (T k).2.1 (T k).2.2.1 ∈ lw_tbl ∧ ∀ w ∈ u_ws C T N, w ∈ lw_tbl
/-- a field that may be written here -/
def FP (M : MT) (index ci k : Nat) (ty : FieldType) : Prop := ∃ (C : String) (T : u_T) (N : Nat) (ty0 : Nat → FieldType), vwCl[ci]? = some (C, T, N) ∧ k < N ∧ Cond.fieldLink M.1.cls index (T k).1 (T k).2.1 (T k).2.2.1 ∈ lw_tbl ∧ (∀ w ∈ u_ws C T N, w ∈ lw_tbl) ∧
  (∀ k, k < N → parseFieldDescriptor (T k).2.2.1 = some (ty0 k)) ∧ (∀ a, a < N → ∀ b, b < N → a ≠ b → (T a).2.1 ≠ (T b).2.1) ∧ ty0 k = ty ∧ ((T k).2.2.2 = false ∨ ((T k).2.2.2 = true ∧ M.1.name = "<init>" ∧ (T k).1 = M.1.cls))
section JH
variable {g : GT} {d ca sa : Nat} {M : MT} {pc : Nat} {lv lv' : List (Nat × Value)} {st : List Value} {h : MH} {Q Q' : RT → MH → Prop}
theorem J_getf {index a ci k : Nat} {fs : List Value} {v : Value} (hd : decode M.2.1 pc = .ok (.getfield index, 3)) (hf : FL M.1.cls index ci k) (ha : h.2 a = some (.inr (ci, fs))) (hv : fs[k]? = some v) (kk : J g d ca sa M (pc + 3) lv (v :: st) h Q) : J g d ca sa M pc lv (.ref a :: st) h Q := by
  intro hg p e R s m args below meth c H locs cells slots mc ms ls C
  obtain ⟨Cn, T, N, hc, hk, hw, hin⟩ := hf
  obtain ⟨⟨hx, hb, hml, hr, hlk, hnm, hown, htab⟩, ⟨hW, hz, ho⟩, ⟨hoH, hsz, hR, hlo⟩, hroom, hl⟩ := id C
  have hK := kd hg hW
  obtain ⟨ha0, ha1, r, h1, cell, q1, q2, q3, q4⟩ := hR.2.2 a _ ha
  have hr' : r = (Cn, T, N) := Option.some.inj (h1.symm.trans hc)
  subst hr'
  obtain ⟨hS, hfc, kC, hkC, hkind⟩ := hK.1 ci _ hc
  obtain ⟨cf, kf, fi, f, hi, hsl⟩ := hS k hk
  have hlays := u_lays (args := args) (s := s) (ws := u_ws Cn T N) (C := Cn) (T := T) (N := N) (fun w hw' => wd hg hW (hin w hw') (Or.inl (lay_good hw')) args) (fun w h => h) hk
  refine W.getf hx hb hown (wd hg hW hw (Or.inl rfl) args) hi (u_facts hfc hkC hlays hi).1 q1 (by rw [q3]; exact fun h => by cases h) (v := em g v) ?_ rfl rfl hd (kk hg p e R s m args below meth c H locs cells slots mc ms ls C)
  rw [hsl, q4 k hk]
  simp [vp_V, hv]
theorem J_putf {index a ci k : Nat} {fs : List Value} {v : Value} {ty : FieldType} (hd : decode M.2.1 pc = .ok (.putfield index, 3)) (hf : FP M index ci k ty) (hn : ∀ g, narrow ty (em g v) = em g v ∧ fits ty (em g v) = true) (ha : h.2 a = some (.inr (ci, fs))) (hlen : k < fs.length) (kk : J g d ca sa M (pc + 3) lv st (h.1, hset h.2 a (.inr (ci, fs.set k v))) Q) : J g d ca sa M pc lv (v :: .ref a :: st) h Q := by
  intro hg p e R s m args below meth c H locs cells slots mc ms ls C
  obtain ⟨Cn, T, N, ty0, hc, hk, hw, hin, hty, hnmT, hty0, hfin⟩ := hf
  obtain ⟨⟨hx, hb, hml, hr, hlk, hnm, hown, htab⟩, ⟨hW, hz, ho⟩, ⟨hoH, hsz, hR, hlo⟩, hroom, hl⟩ := id C
  have hK := kd hg hW
  obtain ⟨ha0, ha1, r, h1, cell, q1, q2, q3, q4⟩ := hR.2.2 a _ ha
  have hr' : r = (Cn, T, N) := Option.some.inj (h1.symm.trans hc)
  subst hr'
  have hlw : ∀ w ∈ u_ws Cn T N, w.before args s = true := fun w hw' => wd hg hW (hin w hw') (Or.inl (lay_good hw')) args
  have hap := va_apart (own := M.1.cls) (s := s) (args := args) (Ts := u_ws Cn T N) hlw (fun w h => h) ty0 hty hnmT hK hc
  obtain ⟨hS, hfc, kC, hkC, hkind⟩ := hK.1 ci _ hc
  obtain ⟨cf, kf, fi, f, hi, hsl⟩ := hS k hk
  have hlay := hlw _ (u_in_lay hk)
  unfold u_lay at hlay
  have hst := (u_facts hfc hkC (u_lays hlw (fun w h => h) hk) hi).1
  have hpd : parseFieldDescriptor (T k).2.2.1 = some ty := by rw [← hty0]; exact hty k hk
  have fin : ∀ (H' : Heap), H'[ad g a]? = some (cell.setSlot f.slot (em g v)) → H'.size = H.size → (∀ q, q ≠ ad g a → H'[q]? = H[q]?) → W p g.1 e R s m args below meth c H' (locs ++ [⟨ad g a, f.slot⟩]) cells slots (vx_MQ below (Qo g Q) (Xo g Q) args s mc ms (fun q => g_n g ≤ q)) (F0 m (pc + 3) ls (st.map (em g))) := by
    intro H' e1 e2 e3
    rw [hsl] at e1 ⊢
    have hat : va_at (g_D g) vwCl (ad g a, emC g (.inr (ci, fs.set k v))) H' := by
      refine ⟨_, hc, t_OB.to (V := updV (vp_V (fs.map (em g))) k (em g v)) ⟨_, e1, q2, q3, t_set q4 hap hk (em g v)⟩ (fun j _ => ?_)⟩
      show updV (vp_V (fs.map (em g))) k (em g v) j = vp_V ((fs.set k v).map (em g)) j
      rw [List.map_set]
      exact vp_updV_set (by rw [List.length_map]; exact hlen) (em g v) j
    refine kk hg p e R s m args below meth c H' _ cells slots mc ms ls ⟨⟨hx, hb, hml, hr, hlk, hnm, hown, htab⟩, ⟨hW, hz, ho⟩, ⟨fun q hq => ?_, by rw [e2]; exact hsz, Rel.put hR ha e2 e3 hat, fun q hq => ?_⟩, hroom, hl⟩
    · rw [e3 q (by have := ad_ge (g := g) ha0; omega)]
      exact hoH q hq
    · rcases List.mem_append.mp hq with h9 | h9
      · exact hlo q h9
      · rw [List.mem_singleton.mp h9]
        exact ad_ge ha0
  rcases hfin with hfin | ⟨hfin, hin2, hdecl⟩
  · rw [if_neg (by rw [hfin]; decide)] at hlay
    have h6 := u_store hfc hkC hkind hlay hi hpd (hn g).1 (hn g).2
    exact W.putK hx hb (f := f) ⟨hown, wd hg hW hw (Or.inl rfl) args, ⟨_, _, _, hi⟩, hst⟩ (by rw [q2]; exact h6) q1 q3 (by rw [hsl]; exact k2_hasslot (q4 k hk)) rfl rfl hd fin
  · rw [if_pos hfin] at hlay
    have hcf : m.cls = cf := by
      obtain ⟨_, _, c', _, _, _, -, -, hf', -, -, -, hown2, -⟩ := Cond.laysFinal_spec hlay
      have e1 : c' = cf := by have := hi.symm.trans hf'; simp at this; exact this.1.symm
      rw [hdecl] at hown2
      rw [← e1]; exact Option.some.inj (hown.symm.trans hown2)
    have h6 := u_fits hfc hkC hkind (Or.inr hlay) hi hpd (hn g).1 (hn g).2
    exact W.putFinK hx hb hown (wd hg hW hw (Or.inl rfl) args) hi hst hcf (hnm.trans hin2) (by rw [q2]; exact h6) q1 q3 (by rw [hsl]; exact k2_hasslot (q4 k hk)) rfl rfl hd fin
theorem ar_ok {g : GT} (hg : OkG g) {s : State} (hW : (g_s g).WarmedH s.vm) {t : Nat} (ht : t < 4) : ArrOfT s (g_c g t) (aty t) := arrOfT_moved hW.alike (hg.2.2.2.1 t ht).1
theorem nI_vin {n j : Nat} (hj : j < n) (hn : n < 2 ^ 31) : ¬ (nI j < 0 ∨ n ≤ (nI j).toNatClampNeg) := nI_in hj hn
theorem J_iald {a n j : Nat} {f : Nat → Int32} {i : Int32} (hd : decode M.2.1 pc = .ok (.iaload, 1)) (ha : h.2 a = some (aI n f)) (hi : i = nI j) (hj : j < n) (hn : n < 2 ^ 31) (kk : J g d ca sa M (pc + 1) lv (.int (f j) :: st) h Q) : J g d ca sa M pc lv (.int i :: .ref a :: st) h Q := by
  intro hg p e R s m args below meth c H locs cells slots mc ms ls C
  subst hi
  have hjc : (nI j).toNatClampNeg = j := nI_clamp (by omega)
  obtain ⟨-, -, hat⟩ := C.2.2.1.2.2.1.2.2 a _ ha
  refine W.iald (v := .int (f j)) C.1.1 C.1.2.1 hat ((ar_ok hg C.2.1.1 (t := 0) (by omega)) n (fun j => .int (f j))) (fun q => by cases q) ?_ ?_ rfl rfl hd (kk hg p e R s m args below meth c H locs cells slots mc ms ls C)
  · show ¬ (nI j < 0 ∨ (arrV _ _ _).slots.size ≤ _)
    rw [arrV_size]
    exact nI_vin hj hn
  · show (arrV (g_c g 0) n (fun j => Value.int (f j))).slots[_]? = _
    rw [hjc, arrV_read _ _ hj]
theorem J_aald {a n j b t : Nat} {f : Nat → Option Nat} {i : Int32} (hd : decode M.2.1 pc = .ok (.aaload, 1)) (ht : t = 2 ∨ t = 3) (ha : h.2 a = some (.inl (t, n, .inr (.inr (.inr (.inr f)))))) (hi : i = nI j) (hj : j < n) (hn : n < 2 ^ 31) (hv : f j = some b) (kk : J g d ca sa M (pc + 1) lv (.ref b :: st) h Q) : J g d ca sa M pc lv (.int i :: .ref a :: st) h Q := by
  intro hg p e R s m args below meth c H locs cells slots mc ms ls C
  subst hi
  have hjc : (nI j).toNatClampNeg = j := nI_clamp (by omega)
  obtain ⟨-, -, hat⟩ := C.2.2.1.2.2.1.2.2 a _ ha
  refine W.aald (v := .ref (ad g b)) (ty := aty t) C.1.1 C.1.2.1 hat ((ar_ok hg C.2.1.1 (t := t) (by omega)) n (fun j => va_rf ((f j).map (ad g)))) (by rcases ht with rfl | rfl <;> rfl) (fun q => by cases q) ?_ ?_ rfl rfl hd (kk hg p e R s m args below meth c H locs cells slots mc ms ls C)
  · show ¬ (nI j < 0 ∨ (arrV _ _ _).slots.size ≤ _)
    rw [arrV_size]
    exact nI_vin hj hn
  · show (arrV (g_c g t) n (fun j => va_rf ((f j).map (ad g)))).slots[_]? = _
    rw [hjc, arrV_read _ _ hj, hv]
    rfl
/-- behind a write into one cell -/
theorem JC.put {p : Program} {R : Room} {s : State} {m : MethodId} {meth : Method} {c : Code} {H H' : Heap} {locs : List Loc} {cells slots mc ms : Nat} {ls : Array Slot} {a i : Nat} {c0 c1 : MC} (C : JC g d ca sa M lv h p R s m meth c H locs cells slots mc ms ls) (ha : h.2 a = some c0) (hz : H'.size = H.size) (hoq : ∀ q, q ≠ ad g a → H'[q]? = H[q]?) (hat : va_at (g_D g) vwCl (ad g a, emC g c1) H') : JC g d ca sa M lv (h.1, hset h.2 a c1) p R s m meth c H' (locs ++ [⟨ad g a, i⟩]) cells slots mc ms ls := by
  obtain ⟨h1, h2, ⟨hoH, hsz, hR, hlo⟩, hroom, hl⟩ := C
  have ha0 := (hR.2.2 a _ ha).1
  refine ⟨h1, h2, ⟨fun q hq => ?_, by rw [hz]; exact hsz, Rel.put hR ha hz hoq hat, fun q hq => ?_⟩, hroom, hl⟩
  · rw [hoq q (by have := ad_ge (g := g) ha0; omega)]
    exact hoH q hq
  · rcases List.mem_append.mp hq with h9 | h9
    · exact hlo q h9
    · rw [List.mem_singleton.mp h9]
      exact ad_ge ha0
theorem J_iast {a n j : Nat} {f : Nat → Int32} {i x : Int32} (hd : decode M.2.1 pc = .ok (.iastore, 1)) (ha : h.2 a = some (aI n f)) (hi : i = nI j) (hj : j < n) (hn : n < 2 ^ 31) (kk : J g d ca sa M (pc + 1) lv st (h.1, hset h.2 a (aI n (upd f j x))) Q) : J g d ca sa M pc lv (.int x :: .int i :: .ref a :: st) h Q := by
  intro hg p e R s m args below meth c H locs cells slots mc ms ls C
  subst hi
  have hjc : (nI j).toNatClampNeg = j := nI_clamp (by omega)
  obtain ⟨-, -, hat⟩ := C.2.2.1.2.2.1.2.2 a _ ha
  refine W.iast C.1.1 C.1.2.1 hat ((ar_ok hg C.2.1.1 (t := 0) (by omega)) n (fun j => .int (f j))) (fun q => by cases q) ?_ rfl rfl hd fun H1 e z oq => ?_
  · show ¬ (nI j < 0 ∨ (arrV _ _ _).slots.size ≤ _)
    rw [arrV_size]
    exact nI_vin hj hn
  · refine kk hg p _ R s m args below meth c H1 _ cells slots mc ms ls (C.put ha z oq ?_)
    show H1[ad g a]? = some (vp_cell _ (n, .inl (upd f j x)))
    rw [e, hjc]
    show some ((vp_cell _ (n, .inl f)).setSlot _ _) = _
    rw [vp_cell_i, vp_cell_i, arrV_store]
    congr 2
    funext q
    by_cases hq : q = j
    · subst hq
      simp [updV, upd]
    · simp [updV, upd, hq]
end JH
