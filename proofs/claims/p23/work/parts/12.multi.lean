-- new int[n][k]
theorem outer_is (c : ClassId) (N h0 : Nat) : ∀ i : Nat, Jvm.Free.Multi.outerC c N h0 i = arrV c N (fun j => va_rf (if j < i then some (h0 + 1 + j) else none))
  | 0 => by
    show ({ cls := c, slots := Array.replicate N .null, vm := .none } : Cell) = _
    rw [arrV_new]
    exact congrArg (arrV c N) (funext fun j => by simp [va_rf])
  | i + 1 => by
    show (Jvm.Free.Multi.outerC c N h0 i).setSlot i (.ref (h0 + 1 + i)) = _
    rw [outer_is c N h0 i, arrV_store]
    refine congrArg (arrV c N) (funext fun j => ?_)
    by_cases e : j = i
    · subst e
      simp [updV, va_rf]
    · by_cases h : j < i
      · simp [updV, e, h, Nat.lt_succ_of_lt h]
      · simp [updV, e, h, show ¬ j < i + 1 by omega]
section JN
variable {g : GT} {d ca sa : Nat} {M : MT} {pc : Nat} {lv lv' : List (Nat × Value)} {st : List Value} {h : MH} {Q Q' : RT → MH → Prop}
def hgrid (f : Nat → Option MC) (a N K : Nat) : Nat → Option MC := fun j => if j = a then some (aG N (fun i => if i < N then some (a + 1 + i) else none)) else if a < j ∧ j ≤ a + N then some (aI K (fun _ => 0)) else f j
theorem J_multi {index N K ca' sa' : Nat} {x y : Int32} (hd : decode M.2.1 pc = .ok (.multianewarray index 2, 4)) (hw : Cond.classLink M.1.cls index "[[I" ∈ lw_tbl) (hx : x = nI N) (hy : y = nI K) (hN : N < 1000) (hK : K < 1000) (h1 : ca' + (1 + N) ≤ ca) (h2 : sa' + (N + N * K) ≤ sa)
    (kk : J g d ca' sa' M (pc + 4) lv (.ref h.1 :: st) (h.1 + 1 + N, hgrid h.2 h.1 N K) Q) : J g d ca sa M pc lv (.int y :: .int x :: st) h Q := by
  intro hg p e R s m args below meth c H locs cells slots mc ms ls C
  subst hx; subst hy
  intro T hT X
  have hW := C.2.1.1
  have hrm := C.2.2.2.1
  have hnx := C.2.2.1.2.2.1.next
  have eN : (nI N).toNatClampNeg = N := nI_clamp (by omega)
  have eK : (nI K).toNatClampNeg = K := nI_clamp (by omega)
  have hp : N * K < 1000 * 1000 := Nat.mul_lt_mul'' hN hK
  obtain ⟨vm₁, cA, comp, -, fA, fC, hO, -, X', step⟩ := X.multianewarray2F C.1.1 C.1.2.2.2.2.2.2.1 (index := index) (ty := .int) (wd hg hW hw (Or.inl rfl) args) (over_alike hW.alike (hg.2.1 _ q2_198)) (wd hg hW q2_218 (Or.inr ⟨_, rfl⟩) args) (g := F0 m pc ls ((.int (nI K) :: .int (nI N) :: st : List Value).map (em g))) rfl (by rw [C.1.2.1]; exact hd) (rest := st.map (em g)) rfl (nI_pos (by omega)) (nI_pos (by omega)) (by rw [eN]; omega) (by rw [eK]; show K * 4 ≤ _; omega) (by rw [eK]; omega) rfl rfl (by rw [eN]; omega) (by rw [eN, eK]; omega)
  rw [eN, eK] at X' step
  have hcA : cA = g_c g 2 := by
    have h9 : s.vm.findClass ("[" ++ (aty 2).toString) = some (g_c g 2) := by rw [hW.alike.findClass]; exact (hg.2.2.2.1 2 (by omega)).2
    exact Option.some.inj (fA.symm.trans h9)
  have hcy : comp = g_c g 0 := by
    have h9 : s.vm.findClass ("[" ++ (aty 0).toString) = some (g_c g 0) := by rw [hW.alike.findClass]; exact (hg.2.2.2.1 0 (by omega)).2
    exact Option.some.inj (fC.symm.trans h9)
  subst hcA; subst hcy
  generalize hF : Jvm.Free.Multi.fill (T.setVm vm₁) (g_c g 2) (g_c g 0) N K (defaultValue .int) N = F at X' step
  have hTh : (T.setVm vm₁).heap = H := hT
  obtain ⟨f1, f2, -, -⟩ := Jvm.Free.Multi.fill_facts (T.setVm vm₁) (g_c g 2) (g_c g 0) N K (defaultValue .int) N
  rw [hF, hTh] at f1 f2
  have hold : ∀ x : Nat, x < H.size → F.heap[x]? = H[x]? := fun x hx => by
    have := Jvm.Free.Multi.fill_old (T.setVm vm₁) (g_c g 2) (g_c g 0) N K (defaultValue .int) (a := x) (by rw [hTh]; exact hx) N
    rw [hF, hTh] at this
    exact this
  have hrow : ∀ j : Nat, j < N → F.heap[H.size + 1 + j]? = some (vp_cell (g_c g 0) (K, .inl (fun _ => 0))) := fun j hj => by
    have := Jvm.Free.Multi.fill_inner (T.setVm vm₁) (g_c g 2) (g_c g 0) N K (defaultValue .int) N j hj
    rw [hF, hTh] at this
    rw [this, vp_cell_i, ← arrV_new]
    rfl
  rw [outer_is] at f2
  obtain ⟨b1, b2, ⟨hoH, hsz, hR, hlo⟩, hroom, hl⟩ := id C
  have hr1 := hR.1
  have hr2 := hR.2.1
  have C' : JC g d ca' sa' M lv (h.1 + 1 + N, hgrid h.2 h.1 N K) p R s m meth c F.heap locs (cells + 1 + N) (slots + N + N * K) mc ms ls := by
    refine ⟨b1, b2, ⟨fun q hq => ?_, by omega, ⟨by show 1 ≤ h.1 + 1 + N; omega, by show F.heap.size + 1 = g_n g + (h.1 + 1 + N); omega, fun i c0 hc0 => ?_⟩, hlo⟩, by omega, hl⟩
    · rw [hold q (by omega)]
      exact hoH q hq
    · have hc0 : hgrid h.2 h.1 N K i = some c0 := hc0
      unfold hgrid at hc0
      by_cases e9 : i = h.1
      · rw [if_pos e9] at hc0
        have hc0 := Option.some.inj hc0
        subst hc0
        rw [e9]
        refine ⟨hr1, by show h.1 < h.1 + 1 + N; omega, ?_⟩
        show F.heap[ad g h.1]? = some (vp_cell (g_c g 2) (N, .inr (.inr (.inr (.inr (fun j => (if j < N then some (h.1 + 1 + j) else none : Option Nat).map (ad g)))))))
        rw [hnx, f2, vp_cell_q]
        congr 2
        funext j
        by_cases hj : j < N
        · simp only [hj, if_true, Option.map_some]
          congr 2
          unfold ad
          rw [if_neg (by omega)]
          omega
        · simp only [hj, if_false, Option.map_none]
      · rw [if_neg e9] at hc0
        by_cases e8 : h.1 < i ∧ i ≤ h.1 + N
        · rw [if_pos e8] at hc0
          have hc0 := Option.some.inj hc0
          subst hc0
          refine ⟨by omega, by show i < h.1 + 1 + N; omega, ?_⟩
          show F.heap[ad g i]? = some (vp_cell (g_c g 0) (K, .inl (fun _ => 0)))
          have : ad g i = H.size + 1 + (i - h.1 - 1) := by
            unfold ad
            rw [if_neg (by omega)]
            omega
          rw [this]
          exact hrow _ (by omega)
        · rw [if_neg e8] at hc0
          obtain ⟨d1, d2, d3⟩ := hR.2.2 i c0 hc0
          exact ⟨d1, by show i < h.1 + 1 + N; omega, d3.kept (hold _ d3.lt)⟩
  have k9 := kk hg p e R s m args below meth c F.heap locs (cells + 1 + N) (slots + N + N * K) mc ms ls C'
  obtain ⟨t, a1, a2⟩ := k9 F rfl X'
  refine ⟨t, step t ?_, a2⟩
  have e7 : T.heap.size = ad g h.1 := by rw [hT]; exact hnx.symm
  rw [e7]
  exact a1
end JN
