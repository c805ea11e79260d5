-- the claim
def R_law : String := "BeanGrovesLaw"
def lw_P (b : Addr) (xs : List Int32) (args : Array Value) (s : State) : Prop := args = #[.ref b] ∧ s.IntsAt b xs ∧ xs.length ≤ 2560 ∧ (Jvm.Cond.and given_1 narrow_1).before args s = true
/-- what a walk over the start with the record d0 says of its end, said of the start itself -/
theorem lw_closed {s t : State} {o : Outcome} {d0 : Drawn} {L : List Loc} {k n : Nat} (hd0 : s.drawn.sameBut d0 lw_cs) (hv : ∃ v, o = .returned v) (hW : (s.setDrawn d0).WarmedH t.vm) (hs : (s.setDrawn d0).sameButNew ({ t with vm := s.vm } : State) L k n) : State.butDraws s t lw_cs (fun t1 => Framed s o t1 L k n) := by
  have h2 : t.drawn = d0 := congrArg State.drawn hs.1
  refine ⟨⟨hv, hW, State.sameButNew.setDrawn hs s.drawn⟩, ?_, by decide⟩
  rw [h2]
  exact hd0
def lw_Q (_ : Array Value) (s : State) (o : Outcome) (t : State) : Prop := o = .returned (some (.int 1)) ∧ State.butDraws s t lw_cs (fun t1 => Framed s o t1 [] 601024 7293034)
def lw_Z (below : List Frame) (a : Array Value) (s : State) : State → Prop := fun t => ∃ o, t.status = .running ∧ Ended t below o ∧ lw_Q a s o t
/-- what holds at the law's entry: the machine, the code, the tables' words (any of lw_tbl by 'hts w (by decide +kernel)'), the script of L ints xs at the cell b, what the Statement gives of the start (any of its parts by flat_of_before) -/
def lw_At (p : Program) (s : State) (m : MethodId) (meth : Method) (c : Code) (b L : Nat) (xs : Nat → Int32) : Prop :=
  p.tables.exec = Jvm.exec ∧ c.code = code ∧ meth.sig.returnType = ret ∧ c.maxLocals = 9 ∧ s.vm.findClass R_law = some m.cls ∧ (∀ w ∈ lw_tbl, w.before #[Value.ref b] s = true) ∧ va_X b L xs s s.heap ∧ b < s.heap.size ∧ meth.locks = false ∧ (Jvm.Cond.and given_1 narrow_1).before #[Value.ref b] s = true ∧ meth.name = x.name ∧ c.exceptionTable.toList = []

theorem sx_136 {args : Array Value} {s : State} (hts : ∀ w ∈ lw_tbl, w.before args s = true) (hfl : ∀ w ∈ flatC (Jvm.Cond.and given_1 narrow_1), w.before args s = true) : ∃ a, vk_R "BeanGroves" 136 "what is not 0 to 6" a s := by
  obtain ⟨a, c, cA, kA, q1, _⟩ := Cond.exactly_spec (args := args) (first := s) (o := none) (s := s) (idx := []) (t := .string "BeanGroves" 136) (cls := "java/lang/String") (hfl _ (by decide +kernel))
  exact ⟨a, vk_R.of (hts _ q2_3) q1⟩
theorem sx_72 {args : Array Value} {s : State} (hts : ∀ w ∈ lw_tbl, w.before args s = true) (hfl : ∀ w ∈ flatC (Jvm.Cond.and given_1 narrow_1), w.before args s = true) : ∃ a, vk_R "BeanGroves" 72 "no such bean" a s := by
  obtain ⟨a, c, cA, kA, q1, _⟩ := Cond.exactly_spec (args := args) (first := s) (o := none) (s := s) (idx := []) (t := .string "BeanGroves" 72) (cls := "java/lang/String") (hfl _ (by decide +kernel))
  exact ⟨a, vk_R.of (hts _ q2_71) q1⟩
theorem sx_180 {args : Array Value} {s : State} (hts : ∀ w ∈ lw_tbl, w.before args s = true) (hfl : ∀ w ∈ flatC (Jvm.Cond.and given_1 narrow_1), w.before args s = true) : ∃ a, vk_R "BeanGroves" 180 "what is not 0 to 4" a s := by
  obtain ⟨a, c, cA, kA, q1, _⟩ := Cond.exactly_spec (args := args) (first := s) (o := none) (s := s) (idx := []) (t := .string "BeanGroves" 180) (cls := "java/lang/String") (hfl _ (by decide +kernel))
  exact ⟨a, vk_R.of (hts _ q2_72) q1⟩
theorem sx_122 {args : Array Value} {s : State} (hts : ∀ w ∈ lw_tbl, w.before args s = true) (hfl : ∀ w ∈ flatC (Jvm.Cond.and given_1 narrow_1), w.before args s = true) : ∃ a, vk_R "BeanGroves" 122 "no such tree" a s := by
  obtain ⟨a, c, cA, kA, q1, _⟩ := Cond.exactly_spec (args := args) (first := s) (o := none) (s := s) (idx := []) (t := .string "BeanGroves" 122) (cls := "java/lang/String") (hfl _ (by decide +kernel))
  exact ⟨a, vk_R.of (hts _ q2_90) q1⟩
theorem sx_134 {args : Array Value} {s : State} (hts : ∀ w ∈ lw_tbl, w.before args s = true) (hfl : ∀ w ∈ flatC (Jvm.Cond.and given_1 narrow_1), w.before args s = true) : ∃ a, vk_R "BeanGroves" 134 "no such tree or place" a s := by
  obtain ⟨a, c, cA, kA, q1, _⟩ := Cond.exactly_spec (args := args) (first := s) (o := none) (s := s) (idx := []) (t := .string "BeanGroves" 134) (cls := "java/lang/String") (hfl _ (by decide +kernel))
  exact ⟨a, vk_R.of (hts _ q2_118) q1⟩
theorem sx_43 {args : Array Value} {s : State} (hts : ∀ w ∈ lw_tbl, w.before args s = true) (hfl : ∀ w ∈ flatC (Jvm.Cond.and given_1 narrow_1), w.before args s = true) : ∃ a, vk_R "BeanGroves" 43 "a measure is not 0 to 50" a s := by
  obtain ⟨a, c, cA, kA, q1, _⟩ := Cond.exactly_spec (args := args) (first := s) (o := none) (s := s) (idx := []) (t := .string "BeanGroves" 43) (cls := "java/lang/String") (hfl _ (by decide +kernel))
  exact ⟨a, vk_R.of (hts _ q2_168) q1⟩
theorem sx_52 {args : Array Value} {s : State} (hts : ∀ w ∈ lw_tbl, w.before args s = true) (hfl : ∀ w ∈ flatC (Jvm.Cond.and given_1 narrow_1), w.before args s = true) : ∃ a, vk_R "BeanGroves" 52 "the sort is not 0 to 2" a s := by
  obtain ⟨a, c, cA, kA, q1, _⟩ := Cond.exactly_spec (args := args) (first := s) (o := none) (s := s) (idx := []) (t := .string "BeanGroves" 52) (cls := "java/lang/String") (hfl _ (by decide +kernel))
  exact ⟨a, vk_R.of (hts _ q2_178) q1⟩
theorem sx_60 {args : Array Value} {s : State} (hts : ∀ w ∈ lw_tbl, w.before args s = true) (hfl : ∀ w ∈ flatC (Jvm.Cond.and given_1 narrow_1), w.before args s = true) : ∃ a, vk_R "BeanGroves" 60 "there are 20 beans" a s := by
  obtain ⟨a, c, cA, kA, q1, _⟩ := Cond.exactly_spec (args := args) (first := s) (o := none) (s := s) (idx := []) (t := .string "BeanGroves" 60) (cls := "java/lang/String") (hfl _ (by decide +kernel))
  exact ⟨a, vk_R.of (hts _ q2_188) q1⟩
theorem sx_93 {args : Array Value} {s : State} (hts : ∀ w ∈ lw_tbl, w.before args s = true) (hfl : ∀ w ∈ flatC (Jvm.Cond.and given_1 narrow_1), w.before args s = true) : ∃ a, vk_R "BeanGroves" 93 "the depth is not 1 to 5" a s := by
  obtain ⟨a, c, cA, kA, q1, _⟩ := Cond.exactly_spec (args := args) (first := s) (o := none) (s := s) (idx := []) (t := .string "BeanGroves" 93) (cls := "java/lang/String") (hfl _ (by decide +kernel))
  exact ⟨a, vk_R.of (hts _ q2_236) q1⟩
theorem sx_98 {args : Array Value} {s : State} (hts : ∀ w ∈ lw_tbl, w.before args s = true) (hfl : ∀ w ∈ flatC (Jvm.Cond.and given_1 narrow_1), w.before args s = true) : ∃ a, vk_R "BeanGroves" 98 "the least number is not 1 to 6" a s := by
  obtain ⟨a, c, cA, kA, q1, _⟩ := Cond.exactly_spec (args := args) (first := s) (o := none) (s := s) (idx := []) (t := .string "BeanGroves" 98) (cls := "java/lang/String") (hfl _ (by decide +kernel))
  exact ⟨a, vk_R.of (hts _ q3_7) q1⟩
theorem sx_100 {args : Array Value} {s : State} (hts : ∀ w ∈ lw_tbl, w.before args s = true) (hfl : ∀ w ∈ flatC (Jvm.Cond.and given_1 narrow_1), w.before args s = true) : ∃ a, vk_R "BeanGroves" 100 "parts is not 1 to 5" a s := by
  obtain ⟨a, c, cA, kA, q1, _⟩ := Cond.exactly_spec (args := args) (first := s) (o := none) (s := s) (idx := []) (t := .string "BeanGroves" 100) (cls := "java/lang/String") (hfl _ (by decide +kernel))
  exact ⟨a, vk_R.of (hts _ q3_15) q1⟩
theorem sx_102 {args : Array Value} {s : State} (hts : ∀ w ∈ lw_tbl, w.before args s = true) (hfl : ∀ w ∈ flatC (Jvm.Cond.and given_1 narrow_1), w.before args s = true) : ∃ a, vk_R "BeanGroves" 102 "left is not -1 to parts - 1" a s := by
  obtain ⟨a, c, cA, kA, q1, _⟩ := Cond.exactly_spec (args := args) (first := s) (o := none) (s := s) (idx := []) (t := .string "BeanGroves" 102) (cls := "java/lang/String") (hfl _ (by decide +kernel))
  exact ⟨a, vk_R.of (hts _ q3_16) q1⟩
theorem sx_104 {args : Array Value} {s : State} (hts : ∀ w ∈ lw_tbl, w.before args s = true) (hfl : ∀ w ∈ flatC (Jvm.Cond.and given_1 narrow_1), w.before args s = true) : ∃ a, vk_R "BeanGroves" 104 "there are 5 trees" a s := by
  obtain ⟨a, c, cA, kA, q1, _⟩ := Cond.exactly_spec (args := args) (first := s) (o := none) (s := s) (idx := []) (t := .string "BeanGroves" 104) (cls := "java/lang/String") (hfl _ (by decide +kernel))
  exact ⟨a, vk_R.of (hts _ q3_17) q1⟩
theorem sx_110 {args : Array Value} {s : State} (hts : ∀ w ∈ lw_tbl, w.before args s = true) (hfl : ∀ w ∈ flatC (Jvm.Cond.and given_1 narrow_1), w.before args s = true) : ∃ a, vk_R "BeanGroves" 110 "there are no beans to grow a tree of" a s := by
  obtain ⟨a, c, cA, kA, q1, _⟩ := Cond.exactly_spec (args := args) (first := s) (o := none) (s := s) (idx := []) (t := .string "BeanGroves" 110) (cls := "java/lang/String") (hfl _ (by decide +kernel))
  exact ⟨a, vk_R.of (hts _ q3_23) q1⟩
theorem sx_200 {args : Array Value} {s : State} (hts : ∀ w ∈ lw_tbl, w.before args s = true) (hfl : ∀ w ∈ flatC (Jvm.Cond.and given_1 narrow_1), w.before args s = true) : ∃ a, vk_R "BeanGroves" 200 "the measure is not 0 to 2" a s := by
  obtain ⟨a, c, cA, kA, q1, _⟩ := Cond.exactly_spec (args := args) (first := s) (o := none) (s := s) (idx := []) (t := .string "BeanGroves" 200) (cls := "java/lang/String") (hfl _ (by decide +kernel))
  exact ⟨a, vk_R.of (hts _ q3_87) q1⟩
theorem sx_202 {args : Array Value} {s : State} (hts : ∀ w ∈ lw_tbl, w.before args s = true) (hfl : ∀ w ∈ flatC (Jvm.Cond.and given_1 narrow_1), w.before args s = true) : ∃ a, vk_R "BeanGroves" 202 "what is not 0 or 1" a s := by
  obtain ⟨a, c, cA, kA, q1, _⟩ := Cond.exactly_spec (args := args) (first := s) (o := none) (s := s) (idx := []) (t := .string "BeanGroves" 202) (cls := "java/lang/String") (hfl _ (by decide +kernel))
  exact ⟨a, vk_R.of (hts _ q3_88) q1⟩
theorem sx_207 {args : Array Value} {s : State} (hts : ∀ w ∈ lw_tbl, w.before args s = true) (hfl : ∀ w ∈ flatC (Jvm.Cond.and given_1 narrow_1), w.before args s = true) : ∃ a, vk_R "BeanGroves" 207 "the number is not 0 to 50" a s := by
  obtain ⟨a, c, cA, kA, q1, _⟩ := Cond.exactly_spec (args := args) (first := s) (o := none) (s := s) (idx := []) (t := .string "BeanGroves" 207) (cls := "java/lang/String") (hfl _ (by decide +kernel))
  exact ⟨a, vk_R.of (hts _ q3_89) q1⟩
theorem sx_230 {args : Array Value} {s : State} (hts : ∀ w ∈ lw_tbl, w.before args s = true) (hfl : ∀ w ∈ flatC (Jvm.Cond.and given_1 narrow_1), w.before args s = true) : ∃ a, vk_R "BeanGroves" 230 "what is not 0 to 2" a s := by
  obtain ⟨a, c, cA, kA, q1, _⟩ := Cond.exactly_spec (args := args) (first := s) (o := none) (s := s) (idx := []) (t := .string "BeanGroves" 230) (cls := "java/lang/String") (hfl _ (by decide +kernel))
  exact ⟨a, vk_R.of (hts _ q3_113) q1⟩

theorem arr_ok {args : Array Value} {s : State} (hts : ∀ w ∈ lw_tbl, w.before args s = true) : ∃ cids : Nat → ClassId, ∀ t, t < 4 → ArrOfT s (cids t) (aty t) ∧ s.vm.findClass ("[" ++ (aty t).toString) = some (cids t) := by
  obtain ⟨c0, k0, p0, f0, g0, h0⟩ := Cond.arrayClass_spec (hts _ q1_49)
  obtain ⟨c1, k1, p1, f1, g1, h1⟩ := Cond.arrayClass_spec (hts _ q4_3)
  obtain ⟨p2, c2, k2, e2, f2, g2, h2, i2⟩ := arrayOverA_spec (hts _ q1_29)
  obtain ⟨p3, c3, k3, e3, f3, g3, h3, i3⟩ := Cond.arrayOver_spec (hts _ q1_51)
  refine ⟨fun t => match t with | 0 => c0 | 1 => c1 | 2 => c2 | _ => c3, fun t ht => ?_⟩
  obtain rfl | rfl | rfl | rfl : t = 0 ∨ t = 1 ∨ t = 2 ∨ t = 3 := by omega
  · exact ⟨fun n z => ⟨fun k h => (by cases h), k0, g0, p0, h0⟩, f0⟩
  · exact ⟨fun n z => ⟨fun k h => (by cases h), k1, g1, p1, h1⟩, f1⟩
  · exact ⟨fun n z => ⟨fun k h => (by cases h), k2, g2, p2, h2⟩, i2⟩
  · exact ⟨fun n z => ⟨fun k h => (by cases h), k3, g3, p3, h3⟩, i3⟩
theorem dat_ok {args : Array Value} {s : State} (hts : ∀ w ∈ lw_tbl, w.before args s = true) : ∃ D : va_G, va_K D vwCl [] s := by
  obtain ⟨a0, b0, h0⟩ := u_known hts inwX0 (hts _ q1_23)
  obtain ⟨a1, b1, h1⟩ := u_known hts inwX1 (hts _ q1_52)
  obtain ⟨a2, b2, h2⟩ := u_known hts inwX2 (hts _ q1_15)
  obtain ⟨a3, b3, h3⟩ := u_known hts inwX3 (hts _ q3_115)
  refine ⟨(fun t => match t with | 0 => a0 | 1 => a1 | 2 => a2 | _ => a3, fun t => match t with | 0 => b0 | 1 => b1 | 2 => b2 | _ => b3), fun c q hq => ?_, fun k q hq => by cases hq⟩
  match c, hq with
  | 0, hq => cases hq; exact h0
  | 1, hq => cases hq; exact h1
  | 2, hq => cases hq; exact h2
  | 3, hq => cases hq; exact h3
  | n + 4, hq => cases hq

set_option maxHeartbeats 4000000 in
set_option maxRecDepth 20000 in
theorem whole_start {p : Program} {e : Env} {s : State} {m : MethodId} {below : List Frame} {meth : Method} {c : Code} (l : Launch) (hflags : l.flags = flags0) {b L : Nat} {xs : Nat → Int32} (hL : L ≤ 2560) (C0 : lw_At p s m meth c b L xs) : W p l e room_1 s m #[Value.ref b] below meth c s.heap [] 0 0 (lw_Z below #[Value.ref b] s) (entryFrame m ([Value.ref b] : List Value).toArray 9) := by
  obtain ⟨hx, hb, hr, hml, hown, hts, hX, hbl, hlk, hgv, hname, htab⟩ := C0
  have hfl := flat_of_before _ hgv
  obtain ⟨cids, hcids⟩ := arr_ok hts
  obtain ⟨D, hD⟩ := dat_ok hts
  have hstr : ∀ q ∈ strs, ∃ a, vk_R "BeanGroves" q.1 q.2 a s := fun q hq => by
    simp only [strs, List.mem_cons, List.not_mem_nil, or_false] at hq
    rcases hq with rfl | rfl | rfl | rfl | rfl | rfl | rfl | rfl | rfl | rfl | rfl | rfl | rfl | rfl | rfl | rfl | rfl | rfl
    · exact sx_136 hts hfl
    · exact sx_72 hts hfl
    · exact sx_180 hts hfl
    · exact sx_122 hts hfl
    · exact sx_134 hts hfl
    · exact sx_43 hts hfl
    · exact sx_52 hts hfl
    · exact sx_60 hts hfl
    · exact sx_93 hts hfl
    · exact sx_98 hts hfl
    · exact sx_100 hts hfl
    · exact sx_102 hts hfl
    · exact sx_104 hts hfl
    · exact sx_110 hts hfl
    · exact sx_200 hts hfl
    · exact sx_202 hts hfl
    · exact sx_207 hts hfl
    · exact sx_230 hts hfl
  have hA : ∀ a : Nat, a < s.heap.size → ¬ s.heap.size ≤ a := fun a h1 h2 => by omega
  have z1 : vx_Zq Bundle.tN "UNASSIGNED_STACK" Bundle.steD (fun q => s.heap.size ≤ q) s s.heap := vx_Zqof (hts _ q1_229) (hts _ q1_5) (hfl _ (by decide +kernel)) hA
  have z2 : vx_Zq Bundle.tN "SUPPRESSED_SENTINEL" Bundle.listD (fun q => s.heap.size ≤ q) s s.heap := vx_Zqof (hts _ q1_231) (hts _ q1_5) (hfl _ (by decide +kernel)) hA
  obtain ⟨g, eg⟩ : ∃ g : GT, g = (l, s, #[Value.ref b], b, L, xs, D, cids) := ⟨_, rfl⟩
  have hg : OkG g := by
    rw [eg]
    exact ⟨hflags, hts, hD, hcids, hX, hbl, hL, z1, z2, hstr, va_Nc.of (hfl (Cond.not (.castable "java/lang/IllegalStateException" "java/lang/IllegalArgumentException")) (by decide +kernel)), va_Nc.of (hfl (Cond.not (.castable "java/lang/IllegalArgumentException" "java/lang/IndexOutOfBoundsException")) (by decide +kernel)), va_Nc.of (hfl (Cond.not (.castable "java/lang/IndexOutOfBoundsException" "java/lang/IllegalArgumentException")) (by decide +kernel))⟩
  have hgL : g_L g ≤ 2560 := by rw [eg]; exact hL
  have hj := law_start (g := g) (d := 0) (ca := 512 * 1111) (sa := 512 * 7006) hgL (Nat.le_refl _) (Nat.le_refl _) (h := (1, fun _ => none)) rfl
  have hl := lv_entry ([Value.ref b]) (n := 9) (Nat.le_of_ble_eq_true rfl)
  rw [lg_entry_eq]
  have hgs : g_s g = s := by rw [eg]; rfl
  have hgn : g_n g = s.heap.size := by rw [eg]; rfl
  have hg1 : g.1 = l := by rw [eg]
  have C : JC g (0 + 62) (59 + 512 * 1111) (1821 + 512 * 7006) mL_law [(0, .ref 0)] (1, fun _ => none) p room_1 s m meth c s.heap [] 0 0 601024 7293034 (lg_sl [Value.ref b] ++ List.replicate (9 - (lg_sl [Value.ref b]).length) Slot.unset).toArray := by
    refine ⟨⟨hx, hb, hml, hr, hlk, hname, hown, by rw [htab]; rfl⟩, ⟨by rw [hgs]; exact State.WarmedH.refl s, by omega, fun q _ => by rw [hgs]⟩, ⟨fun q _ => by rw [hgs], Nat.le_refl _, ⟨Nat.le_refl 1, by rw [hgn], fun i c h => by cases h⟩, fun q hq => absurd hq List.not_mem_nil⟩, ⟨by decide, by decide, by decide, by decide, by decide, by decide⟩, ?_⟩
    have e9 : ([(0, Value.ref 0)] : List (Nat × Value)).map (fun q => (q.1, em g q.2)) = lv_args 0 [Value.ref b] := by
      rw [eg]
      rfl
    rw [e9]
    exact hl
  have k := hj hg p e room_1 s m #[Value.ref b] below meth c s.heap [] 0 0 601024 7293034 _ C
  rw [hg1] at k
  intro Tt hT X
  obtain ⟨t, a1, o, b1, b2, b3⟩ := k Tt hT X
  refine ⟨t, a1, o, b1, b2, ?_⟩
  rcases b3 with ⟨⟨⟨v, h', e1, e2, e3, e4⟩, e5⟩, Lc, hF, hfree⟩ | ⟨q, e1, E, ce, Lc, ⟨⟨h', c2, _⟩, _⟩, _⟩
  · have ev : v = some (.int 1) := by
      have e2' : (Sum.inl v : RT) = .inl (some (.int 1)) := e2
      exact Sum.inl.inj e2'
    rw [ev] at e1
    obtain ⟨f1, f2, f3⟩ := hF
    refine ⟨e1, ?_⟩
    have hs : s.sameButNew ({ t with vm := s.vm } : State) [] 601024 7293034 := State.sameButNew.drop_fresh (L := []) (J := Lc) f3 (fun z hz => by rw [← hgn]; exact hfree z hz)
    exact lw_closed (d0 := s.drawn) (Drawn.sameBut.refl s.drawn lw_cs) f1 f2 hs
  · have c2' : (Sum.inr E : RT) = .inl (some (.int 1)) := c2
    cases c2'

set_option maxHeartbeats 4000000 in
theorem lw_walk (l : Launch) (hflags : l.flags = flags0) (b : Addr) (xs : List Int32) : MetFree l x (headSpec (Jvm.Cond.code x code maxLocals ret :: tables_1) room_1) (lw_P b xs) (fun _ _ _ _ _ => True) lw_Q := by
  refine MetFree.of_bodyS (code := code) (maxLocals := maxLocals) (ret := ret) (by decide) ?_ ?_
  · intro args s m h hn
    obtain ⟨meth, c, h1, h2, h3, h4, h5, h6, -, -⟩ := Cond.code_spec hn (atoms_spec (ws := Jvm.Cond.code x code maxLocals ret :: tables_1) h _ List.mem_cons_self)
    exact ⟨meth, c, h1, h2, h3, h4, h5, h6⟩
  · intro p e s m args below meth c s₁ B hml0 hP _
    obtain ⟨rfl, hx, hbd, hgv⟩ := hP
    obtain ⟨scr, harrAt, hlist, hof, hsmall⟩ := hx
    obtain ⟨hcb, hkn, -, -⟩ := State.arrayAt?_spec harrAt
    have hown : s.vm.findClass R_law = some m.cls := findClass_of_methodNamed B.named
    have hts0 : ∀ c ∈ (Jvm.Cond.code x code maxLocals ret :: tables_1), c.before #[Value.ref b] s = true := atoms_spec (ws := Jvm.Cond.code x code maxLocals ret :: tables_1) B.pre
    have hts : ∀ w ∈ lw_tbl, w.before #[Value.ref b] s = true := k2_hts_sels lw_privs (fun w hw => hts0 w (List.mem_cons_of_mem _ hw)) lw_privs_ok
    have hml : c.maxLocals = 9 := B.maxLocals_eq (hts0 _ List.mem_cons_self)
    have X₀ : Stand p l e room_1 s m #[Value.ref b] below meth c s₁ [] 0 0 := Stand.of_body B
    have hh0 : s₁.heap = s.heap := by rw [B.state]; rfl
    have htab : c.exceptionTable.toList = [] := by
      obtain ⟨meth9, c9, h1, h2, -, -, -, -, h7, -⟩ := Cond.code_spec B.named (hts0 _ List.mem_cons_self)
      cases Option.some.inj (h1.symm.trans B.method)
      cases Option.some.inj (h2.symm.trans (Stand.of_body B).code)
      rw [Array.isEmpty_iff.mp h7]
    have hsz : scr.slots.size = xs.length := by rw [← Array.length_toList, hlist, List.length_map]
    have hval : ∀ j : Nat, j < xs.length → scr.slots[j]? = some (.int (xs.getD j 0)) := fun j hj => by
      rw [← Array.getElem?_toList, hlist]
      simp [hj]
    have hbl : b < s.heap.size := (Array.getElem?_eq_some_iff.mp hcb).1
    have hX : va_X b xs.length (fun j => xs.getD j 0) s s.heap := ⟨scr, hcb, hof, hkn, hsz, hval⟩
    have K : W p l e room_1 s m #[Value.ref b] below meth c s₁.heap [] 0 0 (lw_Z below #[Value.ref b] s) (entryFrame m ([Value.ref b] : List Value).toArray 9) := by
      rw [hh0]
      exact whole_start l hflags hbd ⟨B.exec, B.bytes, B.returns, hml, hown, hts, hX, hbl, B.notSynchronized, hgv, (name_of_methodNamed B.named B.method).1, htab⟩
    obtain ⟨t, a1, o, b1, b2, b3⟩ := K s₁ rfl X₀
    exact ⟨t, o, a1, b1, b2, b3⟩
theorem lw_pre_spec {args : Array Value} {s : State} (h : (Jvm.Cond.and given_1 narrow_1).before args s = true) (hr : rest_1_c.before args s = true) : ∃ (b : Addr) (xs : List Int32), lw_P b xs args s := by
  have hs := flat_of_before _ h
  have hq := flat_of_before _ hr
  have hc : (Cond.count 1).before args s = true := hs _ (by decide +kernel)
  have harr : (Cond.arrayOf (.arg 0) .int).before args s = true := hs _ (by decide +kernel)
  have hle : (Cond.le (.length (.arg 0)) (.int 2560)).before args s = true := hs _ (by decide +kernel)
  have hlen : (Cond.isInt (.length (.arg 0))).before args s = true := hq _ (by decide +kernel)
  have hall : (Cond.all (.arg 0) (.isInt (.elem (.arg 0) (.index 0)))).before args s = true := hq _ (by decide +kernel)
  obtain ⟨b, xs, hb, hx⟩ := State.ints_of_pre rfl harr hlen hall
  have hsm : xs.length < 2 ^ 31 := hx.choose_spec.2.2.2
  have hev : (Term.length (.arg 0)).eval args s none [] s = some (.int xs.length.toInt32) := hx.length_eval hb
  have hv := Cond.le_ints hev (show (Term.int 2560).eval args s none [] s = some (.int 2560) from rfl)
  have hd : xs.length.toInt32 ≤ 2560 := by
    simpa [Cond.before, Cond.holds, hv] using hle
  have hN : xs.length ≤ 2560 := (Int32.ofNat_le_ofNat hsm (by decide)).mp (show Int32.ofNat xs.length ≤ Int32.ofNat 2560 from hd)
  exact ⟨b, xs, Cond.one_arg hc (show args[0]? = some (.ref b) from hb), hx, hN, h⟩
theorem lw_comes (l : Launch) (hflags : l.flags = flags0) : Comes l x (Jvm.Cond.code x code maxLocals ret :: tables_1) room_1 (fun tb e args s => Calls_1 tb e args s ∧ rest_1 tb e args s ∧ Pre_1 tb e args s)
    (fun _ _ args s o t => lw_Q args s o t) := by
  intro p e ha hc hk s m args below hf hfit hheap happ hpre
  obtain ⟨b, xs, hP⟩ := lw_pre_spec hpre.2.2 hpre.2.1
  obtain ⟨k, o, h1, h2, h3, hQ⟩ := lw_walk l hflags b xs p e ha hc hk s m args below hf ((Spec.applies_iff_loose hf).mp happ).1 hP trivial
  exact ⟨k, o, h1, h2, h3, hQ⟩
theorem lw_frame {s t : State} {o : Outcome} {args : Array Value} (h : State.butDraws s t lw_cs (fun t1 => Framed s o t1 [] 601024 7293034)) :
    State.butDraws s t [Jvm.Choice.named "NaN.bits"] (fun t1 => Framed s o t1 (fieldLocs frame_1_writes args s ++ arrayLocs frame_1_arrays args s ++ staticLocs frame_1_statics s) 601024 7293034) := h
theorem lw_limb (L : Cond) (hL : ∀ (args : Array Value) (s t : State), L.after args s (.returned (some (.int 1))) t = true) :
    ArmFor flags0 classFile x code maxLocals ret World_1 tables_1 room_1 Calls_1 rest_1 Pre_1
      (fun tb e a s o t => postC L tb e a s o t ∧ State.butDraws s t [Jvm.Choice.named "NaN.bits"] (fun t1 => Framed s o t1 (fieldLocs frame_1_writes a s ++ arrayLocs frame_1_arrays a s ++ staticLocs frame_1_statics s) 601024 7293034)) := by
  intro l hflags _ _ p e ha hc hk s m args below hf hfit hheap happ hpre
  obtain ⟨k, o, h1, h2, h3, rfl, hF⟩ := lw_comes l hflags p e ha hc hk s m args below hf hfit hheap happ hpre
  exact ⟨k, _, h1, h2, h3, hL args s _, lw_frame hF⟩
theorem i_vc : Claimed_1_1 ∧ Claimed_1_2 := ⟨lw_limb limb_1_1 (fun args s t => by simp [limb_1_1, Cond.after, Cond.holds, Cond.value]), lw_limb limb_1_2 (fun args s t => Cond.after_iff.mpr (by
  first | (rw [show limb_1_2 = Cond.eq .result (.int 1) from rfl, Cond.eq_ints (x := 1) (y := 1) rfl rfl]; simp; done) | (simp [limb_1_2, Cond.value, Term.eval]; done)))⟩
