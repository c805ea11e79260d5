-- the grove: its heap; checks of arguments; the writers of beans and numbers
def inZ (lo hi : Int) (x : Int32) : Prop := lo ≤ x.toInt ∧ x.toInt ≤ hi
theorem inZ_n {hi : Nat} {lo : Int} {x : Int32} (h : inZ lo hi x) (hl : 0 ≤ lo) : ∃ j : Nat, x = nI j ∧ lo ≤ j ∧ j ≤ hi ∧ j < 2 ^ 31 := by
  have h0 : ¬ x < 0 := by
    rw [Int32.lt_iff_toInt_lt, z32]
    have := h.1
    omega
  obtain ⟨j, hj, rfl⟩ := nI_of h0
  have h1 := h.1
  have h2 := h.2
  rw [nI_toInt hj] at h1 h2
  exact ⟨j, rfl, h1, by omega, hj⟩
theorem okR_inT {lo hi : Nat} (hh : hi < 1000) (hl : lo < 1000) {x : Int32} (h : inZ lo hi x) : okR (nI lo) (nI hi) x = true := okR_t hh hl h.1 h.2
theorem okR_inF {lo hi : Nat} (hh : hi < 1000) (hl : lo < 1000) {x : Int32} (h : ¬ inZ lo hi x) : okR (nI lo) (nI hi) x = false := okR_f hh hl h
theorem inZ_nI {lo : Int} {hi j : Nat} (h1 : lo ≤ j) (h2 : j ≤ hi) (hh : hi < 1000) : inZ lo hi (nI j) := by
  unfold inZ
  rw [nI_toInt (by omega)]
  omega
theorem c_isMeasureT {g : GT} {d : Nat} {h : MH} {x : Int32} (hx : inZ 0 50 x) : J g d 0 0 mX2_isMeasure 0 (lv_args 0 [.int x]) [] h (RI (nI 1) h) := by
  have r := c_isMeasure (g := g) (d := d) (h := h) (x := x)
  rw [okR_inT (lo := 0) (hi := 50) (by decide) (by decide) hx] at r
  exact r
theorem c_isMeasureF {g : GT} {d : Nat} {h : MH} {x : Int32} (hx : ¬ inZ 0 50 x) : J g d 0 0 mX2_isMeasure 0 (lv_args 0 [.int x]) [] h (RI (nI 0) h) := by
  have r := c_isMeasure (g := g) (d := d) (h := h) (x := x)
  rw [okR_inF (lo := 0) (hi := 50) (by decide) (by decide) hx] at r
  exact r
theorem c_isSortT {g : GT} {d : Nat} {h : MH} {x : Int32} (hx : inZ 0 2 x) : J g d 0 0 mX2_isSort 0 (lv_args 0 [.int x]) [] h (RI (nI 1) h) := by
  have r := c_isSort (g := g) (d := d) (h := h) (x := x)
  rw [okR_inT (lo := 0) (hi := 2) (by decide) (by decide) hx] at r
  exact r
theorem c_isSortF {g : GT} {d : Nat} {h : MH} {x : Int32} (hx : ¬ inZ 0 2 x) : J g d 0 0 mX2_isSort 0 (lv_args 0 [.int x]) [] h (RI (nI 0) h) := by
  have r := c_isSort (g := g) (d := d) (h := h) (x := x)
  rw [okR_inF (lo := 0) (hi := 2) (by decide) (by decide) hx] at r
  exact r
theorem c_isDepthT {g : GT} {d : Nat} {h : MH} {x : Int32} (hx : inZ 1 5 x) : J g d 0 0 mX2_isDepth 0 (lv_args 0 [.int x]) [] h (RI (nI 1) h) := by
  have r := c_isDepth (g := g) (d := d) (h := h) (x := x)
  rw [okR_inT (lo := 1) (hi := 5) (by decide) (by decide) hx] at r
  exact r
theorem c_isDepthF {g : GT} {d : Nat} {h : MH} {x : Int32} (hx : ¬ inZ 1 5 x) : J g d 0 0 mX2_isDepth 0 (lv_args 0 [.int x]) [] h (RI (nI 0) h) := by
  have r := c_isDepth (g := g) (d := d) (h := h) (x := x)
  rw [okR_inF (lo := 1) (hi := 5) (by decide) (by decide) hx] at r
  exact r
theorem c_isLeastT {g : GT} {d : Nat} {h : MH} {x : Int32} (hx : inZ 1 6 x) : J g d 0 0 mX2_isLeast 0 (lv_args 0 [.int x]) [] h (RI (nI 1) h) := by
  have r := c_isLeast (g := g) (d := d) (h := h) (x := x)
  rw [okR_inT (lo := 1) (hi := 6) (by decide) (by decide) hx] at r
  exact r
theorem c_isLeastF {g : GT} {d : Nat} {h : MH} {x : Int32} (hx : ¬ inZ 1 6 x) : J g d 0 0 mX2_isLeast 0 (lv_args 0 [.int x]) [] h (RI (nI 0) h) := by
  have r := c_isLeast (g := g) (d := d) (h := h) (x := x)
  rw [okR_inF (lo := 1) (hi := 6) (by decide) (by decide) hx] at r
  exact r
def inM (a b c : Int32) : Prop := inZ 0 50 a ∧ inZ 0 50 b ∧ inZ 0 50 c
theorem c_areMeasuresT {g : GT} {d : Nat} {h : MH} {a b c : Int32} (hx : inM a b c) : J g (d + 1) 0 0 mX2_areMeasures 0 (lv_args 0 [.int a, .int b, .int c]) [] h (RI (nI 1) h) := by
  have r := c_areMeasures (g := g) (d := d) (h := h) (a := a) (b := b) (c := c)
  rw [okR_inT (lo := 0) (hi := 50) (by decide) (by decide) hx.1, okR_inT (lo := 0) (hi := 50) (by decide) (by decide) hx.2.1, okR_inT (lo := 0) (hi := 50) (by decide) (by decide) hx.2.2] at r
  exact r
theorem c_areMeasuresF {g : GT} {d : Nat} {h : MH} {a b c : Int32} (hx : ¬ inM a b c) : J g (d + 1) 0 0 mX2_areMeasures 0 (lv_args 0 [.int a, .int b, .int c]) [] h (RI (nI 0) h) := by
  have r := c_areMeasures (g := g) (d := d) (h := h) (a := a) (b := b) (c := c)
  have e : (okR (nI 0) (nI 50) a && okR (nI 0) (nI 50) b && okR (nI 0) (nI 50) c) = false := by
    by_cases h1 : inZ 0 50 a
    · by_cases h2 : inZ 0 50 b
      · have h3 : ¬ inZ 0 50 c := fun h3 => hx ⟨h1, h2, h3⟩
        rw [okR_inF (lo := 0) (hi := 50) (by decide) (by decide) h3, Bool.and_false]
      · rw [okR_inF (lo := 0) (hi := 50) (by decide) (by decide) h2, Bool.and_false, Bool.false_and]
    · rw [okR_inF (lo := 0) (hi := 50) (by decide) (by decide) h1, Bool.false_and, Bool.false_and]
  rw [e] at r
  exact r
/-- where the trees lie -/
def SL (π : Nat → Nat) : Prop := (∀ i, i < 5 → ∃ a, a < 5 ∧ π i = 18 + 7 * a) ∧ ∀ i j, i < 5 → j < 5 → π i = π j → i = j
def TA (h : MH) (t : Nat) : Prop := ∃ (n pa le : Int32) (cf sf gf df mf rf : Nat → Int32), TO h t n pa le cf sf gf df mf rf
def TT (h : MH) (t : Nat) (tr : TR 5) (pa le : Int32) : Prop := ∃ cf sf gf df mf rf, TO h t (nI (nN 5 tr)) pa le cf sf gf df mf rf ∧ Blk (G4 cf sf gf df) 0 5 0 tr
abbrev ST : Type := BT × (Nat × Nat × Nat) × (Nat → TR 5) × (Nat → Int32) × (Nat → Int32)
def okS (σ : ST) : Prop := σ.2.1.1 ≤ 5 ∧ (1 ≤ σ.2.1.2.1 ∧ σ.2.1.2.1 ≤ 5) ∧ (1 ≤ σ.2.1.2.2 ∧ σ.2.1.2.2 ≤ 6) ∧ ∀ i, i < σ.2.1.1 → okT 5 (σ.2.2.1 i) ∧ nN 5 (σ.2.2.1 i) ≤ 39
def GP (h : MH) (σ : ST) (π : Nat → Nat) : Prop :=
  BH h σ.1 ∧ okS σ ∧ SL π ∧ h.2 1 = some (oB 2 [.ref 2, .ref 10, .ref 11, .int (nI σ.2.1.1), .int (nI σ.2.1.2.1), .int (nI σ.2.1.2.2)]) ∧ (∃ f, h.2 10 = some (aT 5 f) ∧ ∀ i, i < 5 → f i = some (π i)) ∧ TA h 11 ∧ (∀ i, i < 5 → TA h (π i)) ∧ ∀ i, i < σ.2.1.1 → TT h (π i) (σ.2.2.1 i) (σ.2.2.2.1 i) (σ.2.2.2.2 i)
def GH (h : MH) (σ : ST) : Prop := ∃ π, GP h σ π
theorem TA_fr {h h' : MH} {t a b : Nat} (k : Fr a b h h') (hx : b < t ∨ t + 6 < a) (hT : TA h t) : TA h' t := by
  obtain ⟨n, pa, le, cf, sf, gf, df, mf, rf, hT⟩ := hT
  exact ⟨n, pa, le, cf, sf, gf, df, mf, rf, TO_fr k hx hT⟩
theorem TT_fr {h h' : MH} {t a b : Nat} {tr : TR 5} {pa le : Int32} (k : Fr a b h h') (hx : b < t ∨ t + 6 < a) (hT : TT h t tr pa le) : TT h' t tr pa le := by
  obtain ⟨cf, sf, gf, df, mf, rf, hT, hK⟩ := hT
  exact ⟨cf, sf, gf, df, mf, rf, TO_fr k hx hT, hK⟩
theorem TT_TA {h : MH} {t : Nat} {tr : TR 5} {pa le : Int32} (hT : TT h t tr pa le) : TA h t := by
  obtain ⟨cf, sf, gf, df, mf, rf, hT, hK⟩ := hT
  exact ⟨_, _, _, _, _, _, _, _, _, hT⟩
theorem SL_ge {π : Nat → Nat} (s : SL π) {i : Nat} (hi : i < 5) : 18 ≤ π i ∧ π i ≤ 46 := by
  obtain ⟨a, ha, e⟩ := s.1 i hi
  omega
theorem SL_ne {π : Nat → Nat} (s : SL π) {i j : Nat} (hi : i < 5) (hj : j < 5) (h : i ≠ j) : π i + 6 < π j ∨ π j + 6 < π i := by
  obtain ⟨a, ha, e⟩ := s.1 i hi
  obtain ⟨b, hb, e2⟩ := s.1 j hj
  have : a ≠ b := fun q => h (s.2 i j hi hj (by rw [e, e2, q]))
  omega
/-- beans and numbers change -/
theorem GP_beans {h h' : MH} {σ : ST} {π : Nat → Nat} {β : BT} (k : Fr 2 9 h h') (hB : BH h' β) (hG : GP h σ π) : GP h' (β, σ.2) π := by
  obtain ⟨g1, g2, g3, g4, ⟨f, g5, g5b⟩, g6, g7, g8⟩ := hG
  refine ⟨hB, g2, g3, (k.2 _ (by omega)).trans g4, ⟨f, (k.2 _ (by omega)).trans g5, g5b⟩, TA_fr k (by omega) g6, fun i hi => ?_, fun i hi => ?_⟩
  · have := SL_ge g3 hi
    exact TA_fr k (by omega) (g7 i hi)
  · have h5 := g2.1
    have hi2 : i < σ.2.1.1 := hi
    have := SL_ge g3 (show i < 5 by omega)
    exact TT_fr k (by omega) (g8 i hi)
/-- only numbers change -/
theorem GP_num {h h' : MH} {σ : ST} {π : Nat → Nat} {dp le : Nat} (k : Fr 1 1 h h') (hd : 1 ≤ dp ∧ dp ≤ 5) (hl : 1 ≤ le ∧ le ≤ 6) (h1 : h'.2 1 = some (oB 2 [.ref 2, .ref 10, .ref 11, .int (nI σ.2.1.1), .int (nI dp), .int (nI le)])) (hG : GP h σ π) : GP h' (σ.1, (σ.2.1.1, dp, le), σ.2.2) π := by
  obtain ⟨g1, g2, g3, g4, ⟨f, g5, g5b⟩, g6, g7, g8⟩ := hG
  have hB : BH h' σ.1 := by
    obtain ⟨hW, mf, sf, tf, lf, b2, b3, bm, b7, b8, b9, r⟩ := g1
    exact ⟨hW, mf, sf, tf, lf, (k.2 _ (by omega)).trans b2, (k.2 _ (by omega)).trans b3, fun m hm => (k.2 _ (by omega)).trans (bm m hm), (k.2 _ (by omega)).trans b7, (k.2 _ (by omega)).trans b8, (k.2 _ (by omega)).trans b9, r⟩
  refine ⟨hB, ⟨g2.1, hd, hl, g2.2.2.2⟩, g3, h1, ⟨f, (k.2 _ (by omega)).trans g5, g5b⟩, TA_fr k (by omega) g6, fun i hi => ?_, fun i hi => ?_⟩
  · have := SL_ge g3 hi
    exact TA_fr k (by omega) (g7 i hi)
  · have h5 := g2.1
    have hi2 : i < σ.2.1.1 := hi
    have := SL_ge g3 (show i < 5 by omega)
    exact TT_fr k (by omega) (g8 i hi)
/-- one tree's rows change, the tree stays or is another -/
theorem GP_tree {h h' : MH} {σ : ST} {π : Nat → Nat} {j : Nat} {tr : TR 5} (hj : j < σ.2.1.1) (k : Fr (π j) (π j + 6) h h') (hT : TT h' (π j) tr (σ.2.2.2.1 j) (σ.2.2.2.2 j)) (ok : okT 5 tr ∧ nN 5 tr ≤ 39) (hG : GP h σ π) : GP h' (σ.1, σ.2.1, va_up σ.2.2.1 j tr, σ.2.2.2) π := by
  obtain ⟨g1, g2, g3, g4, ⟨f, g5, g5b⟩, g6, g7, g8⟩ := hG
  have h5 := g2.1
  have hj5 : j < 5 := by omega
  have hp := SL_ge g3 hj5
  refine ⟨BH_fr k (by omega) g1, ⟨g2.1, g2.2.1, g2.2.2.1, fun i hi => ?_⟩, g3, (k.2 _ (by omega)).trans g4, ⟨f, (k.2 _ (by omega)).trans g5, g5b⟩, TA_fr k (by omega) g6, fun i hi => ?_, fun i hi => ?_⟩
  · show okT 5 (va_up σ.2.2.1 j tr i) ∧ nN 5 (va_up σ.2.2.1 j tr i) ≤ 39
    by_cases e : i = j
    · subst e
      rw [va_up_self]
      exact ok
    · rw [va_up_ne _ _ e]
      exact g2.2.2.2 i hi
  · by_cases e : i = j
    · subst e
      exact TT_TA hT
    · have := SL_ne g3 hi hj5 e
      exact TA_fr k (by omega) (g7 i hi)
  · show TT h' (π i) (va_up σ.2.2.1 j tr i) _ _
    have hi2 : i < σ.2.1.1 := hi
    by_cases e : i = j
    · subst e
      rw [va_up_self]
      exact hT
    · have := SL_ne g3 (show i < 5 by omega) hj5 e
      rw [va_up_ne _ _ e]
      exact TT_fr k (by omega) (g8 i hi)
theorem va_up_id {α : Type} (f : Nat → α) (j : Nat) : va_up f j (f j) = f := by
  funext i
  by_cases e : i = j
  · subst e
    exact va_up_self _ _ _
  · exact va_up_ne _ _ e
theorem GP_same {h h' : MH} {σ : ST} {π : Nat → Nat} {j : Nat} (hj : j < σ.2.1.1) (k : Fr (π j) (π j + 6) h h') (hT : TT h' (π j) (σ.2.2.1 j) (σ.2.2.2.1 j) (σ.2.2.2.2 j)) (hG : GP h σ π) : GP h' σ π := by
  have r := GP_tree hj k hT (hG.2.1.2.2.2 j hj) hG
  rw [va_up_id] at r
  exact r
theorem GP_trial {h h' : MH} {σ : ST} {π : Nat → Nat} (k : Fr 11 17 h h') (hT : TA h' 11) (hG : GP h σ π) : GP h' σ π := by
  obtain ⟨g1, g2, g3, g4, ⟨f, g5, g5b⟩, g6, g7, g8⟩ := hG
  refine ⟨BH_fr k (by omega) g1, g2, g3, (k.2 _ (by omega)).trans g4, ⟨f, (k.2 _ (by omega)).trans g5, g5b⟩, hT, fun i hi => ?_, fun i hi => ?_⟩
  · have := SL_ge g3 hi
    exact TA_fr k (by omega) (g7 i hi)
  · have h5 := g2.1
    have hi2 : i < σ.2.1.1 := hi
    have := SL_ge g3 (show i < 5 by omega)
    exact TT_fr k (by omega) (g8 i hi)
theorem GP_tr {h : MH} {σ : ST} {π : Nat → Nat} (hG : GP h σ π) {i : Nat} (hi : i < 5) : 18 ≤ π i ∧ π i ≤ 46 ∧ ∃ fs, h.2 (π i) = some (.inr (1, fs)) := by
  obtain ⟨g1, g2, g3, g4, g5, g6, g7, g8⟩ := hG
  obtain ⟨n, pa, le, cf, sf, gf, df, mf, rf, hT⟩ := g7 i hi
  have := SL_ge g3 hi
  exact ⟨by omega, by omega, _, hT.1⟩
theorem Fr_12 {a b : Nat} {h h' : MH} (k : Fr a b h h') (ha : 1 ≤ a) (hb : b ≤ 52) : Fr 1 52 h h' := Fr_up k ha hb

set_option maxHeartbeats 2000000 in
set_option maxRecDepth 20000 in
theorem c_isBeanT {g : GT} {d : Nat} {h : MH} {σ : ST} {π : Nat → Nat} (hG : GP h σ π) {k : Nat} (hk : k < σ.1.1) : J g (d + 1) 0 0 mX2_isBean 0 (lv_args 0 [.ref 1, .int (nI (k))]) [] h (RI (nI 1) h) := by
  obtain ⟨g1, g2, g3, g4, ⟨tf, g5, g5b⟩, g6, g7, g8⟩ := id hG
  obtain ⟨o1, o2, o3, o4⟩ := id g2
  have hB := g1
  have b9 := BH_2 g1
  obtain ⟨hn, hc9, hm5, hs2⟩ := id g1.1
  have hp9 := pw_le hn

  refine J_iload_n (i := 1) (pc := 0) dX2_isBean_0 rfl rfl ?_
  refine J_if_lt (tgt := 19) (pc := 1) dX2_isBean_1 (by decide) (fun c1 => absurd c1 (nI_pos (by omega))) (fun c1 => ?_)
  refine J_iload_n (i := 1) (pc := 4) dX2_isBean_4 rfl rfl ?_
  refine J_aload_n (i := 0) (pc := 5) dX2_isBean_5 rfl rfl ?_
  refine J_getf (k := 0) (pc := 6) dX2_isBean_6 flX2_12 g4 rfl ?_
  refine J_cVi (st := [.int (nI (k))]) (As := []) (pc := 9) dX2_isBean_9 okX0_howMany q1_21 q1_22 q1_23 (rfl : vwCl[0]? = some _) b9 rfl (Nat.le_of_ble_eq_true rfl) (Nat.le_of_ble_eq_true rfl) (c_howMany hB) ?_
  refine J_icmp_geN (tgt := 19) (pc := 12) dX2_isBean_12 (by decide) (by omega) (by omega) (fun c12 => by exfalso; first | omega | simp_all) (fun c12 => ?_)
  refine J_iconst (v := nI (1)) (pc := 15) dX2_isBean_15 rfl ?_
  refine J_goto (tgt := 20) (pc := 16) dX2_isBean_16 (by decide) ?_
  refine J_iret (ty := .boolean) (pc := 20) dX2_isBean_20 rfl rfl ?_
  exact ⟨rfl, rfl⟩

set_option maxHeartbeats 2000000 in
set_option maxRecDepth 20000 in
theorem c_isTreeT {g : GT} {d : Nat} {h : MH} {σ : ST} {π : Nat → Nat} (hG : GP h σ π) {k : Nat} (hk : k < σ.2.1.1) : J g (d) 0 0 mX2_isTree 0 (lv_args 0 [.ref 1, .int (nI (k))]) [] h (RI (nI 1) h) := by
  obtain ⟨g1, g2, g3, g4, ⟨tf, g5, g5b⟩, g6, g7, g8⟩ := id hG
  obtain ⟨o1, o2, o3, o4⟩ := id g2
  have hB := g1
  have b9 := BH_2 g1
  obtain ⟨hn, hc9, hm5, hs2⟩ := id g1.1
  have hp9 := pw_le hn

  refine J_iload_n (i := 1) (pc := 0) dX2_isTree_0 rfl rfl ?_
  refine J_if_lt (tgt := 16) (pc := 1) dX2_isTree_1 (by decide) (fun c1 => absurd c1 (nI_pos (by omega))) (fun c1 => ?_)
  refine J_iload_n (i := 1) (pc := 4) dX2_isTree_4 rfl rfl ?_
  refine J_aload_n (i := 0) (pc := 5) dX2_isTree_5 rfl rfl ?_
  refine J_getf (k := 3) (pc := 6) dX2_isTree_6 flX2_27 g4 rfl ?_
  refine J_icmp_geN (tgt := 16) (pc := 9) dX2_isTree_9 (by decide) (by omega) (by omega) (fun c9 => by exfalso; first | omega | simp_all) (fun c9 => ?_)
  refine J_iconst (v := nI (1)) (pc := 12) dX2_isTree_12 rfl ?_
  refine J_goto (tgt := 17) (pc := 13) dX2_isTree_13 (by decide) ?_
  refine J_iret (ty := .boolean) (pc := 17) dX2_isTree_17 rfl rfl ?_
  exact ⟨rfl, rfl⟩

set_option maxHeartbeats 2000000 in
set_option maxRecDepth 20000 in
theorem c_isBeanF {g : GT} {d : Nat} {h : MH} {σ : ST} {π : Nat → Nat} (hG : GP h σ π) {x : Int32} (hx : ¬ (0 ≤ x.toInt ∧ x.toInt < (σ.1.1 : Int))) : J g (d + 1) 0 0 mX2_isBean 0 (lv_args 0 [.ref 1, .int (x)]) [] h (RI (nI 0) h) := by
  obtain ⟨g1, g2, g3, g4, ⟨tf, g5, g5b⟩, g6, g7, g8⟩ := id hG
  obtain ⟨o1, o2, o3, o4⟩ := id g2
  have hB := g1
  have b9 := BH_2 g1
  obtain ⟨hn, hc9, hm5, hs2⟩ := id g1.1
  have hp9 := pw_le hn

  refine J_iload_n (i := 1) (pc := 0) dX2_isBean_0 rfl rfl ?_
  refine J_if_lt (tgt := 19) (pc := 1) dX2_isBean_1 (by decide) (fun c1 => ?_) (fun c1 => ?_)
  · skip
    refine J_iconst (v := nI (0)) (pc := 19) dX2_isBean_19 rfl ?_
    refine J_iret (ty := .boolean) (pc := 20) dX2_isBean_20 rfl rfl ?_
    exact ⟨rfl, rfl⟩
  · skip
    refine J_iload_n (i := 1) (pc := 4) dX2_isBean_4 rfl rfl ?_
    refine J_aload_n (i := 0) (pc := 5) dX2_isBean_5 rfl rfl ?_
    refine J_getf (k := 0) (pc := 6) dX2_isBean_6 flX2_12 g4 rfl ?_
    refine J_cVi (st := [.int (x)]) (As := []) (pc := 9) dX2_isBean_9 okX0_howMany q1_21 q1_22 q1_23 (rfl : vwCl[0]? = some _) b9 rfl (Nat.le_of_ble_eq_true rfl) (Nat.le_of_ble_eq_true rfl) (c_howMany hB) ?_
    refine J_icmp_ge (tgt := 19) (pc := 12) dX2_isBean_12 (by decide) (fun c12 => ?_) (fun c12 => absurd c12 (by rw [Int32.lt_iff_toInt_lt, z32] at c1; show ¬ ¬ nI σ.1.1 ≤ x; rw [Int32.le_iff_toInt_le, nI_toInt (by omega)]; omega))
    refine J_iconst (v := nI (0)) (pc := 19) dX2_isBean_19 rfl ?_
    refine J_iret (ty := .boolean) (pc := 20) dX2_isBean_20 rfl rfl ?_
    exact ⟨rfl, rfl⟩

set_option maxHeartbeats 2000000 in
set_option maxRecDepth 20000 in
theorem c_isTreeF {g : GT} {d : Nat} {h : MH} {σ : ST} {π : Nat → Nat} (hG : GP h σ π) {x : Int32} (hx : ¬ (0 ≤ x.toInt ∧ x.toInt < (σ.2.1.1 : Int))) : J g (d) 0 0 mX2_isTree 0 (lv_args 0 [.ref 1, .int (x)]) [] h (RI (nI 0) h) := by
  obtain ⟨g1, g2, g3, g4, ⟨tf, g5, g5b⟩, g6, g7, g8⟩ := id hG
  obtain ⟨o1, o2, o3, o4⟩ := id g2
  have hB := g1
  have b9 := BH_2 g1
  obtain ⟨hn, hc9, hm5, hs2⟩ := id g1.1
  have hp9 := pw_le hn

  refine J_iload_n (i := 1) (pc := 0) dX2_isTree_0 rfl rfl ?_
  refine J_if_lt (tgt := 16) (pc := 1) dX2_isTree_1 (by decide) (fun c1 => ?_) (fun c1 => ?_)
  · skip
    refine J_iconst (v := nI (0)) (pc := 16) dX2_isTree_16 rfl ?_
    refine J_iret (ty := .boolean) (pc := 17) dX2_isTree_17 rfl rfl ?_
    exact ⟨rfl, rfl⟩
  · skip
    refine J_iload_n (i := 1) (pc := 4) dX2_isTree_4 rfl rfl ?_
    refine J_aload_n (i := 0) (pc := 5) dX2_isTree_5 rfl rfl ?_
    refine J_getf (k := 3) (pc := 6) dX2_isTree_6 flX2_27 g4 rfl ?_
    refine J_icmp_ge (tgt := 16) (pc := 9) dX2_isTree_9 (by decide) (fun c9 => ?_) (fun c9 => absurd c9 (by rw [Int32.lt_iff_toInt_lt, z32] at c1; show ¬ ¬ nI σ.2.1.1 ≤ x; rw [Int32.le_iff_toInt_le, nI_toInt (by omega)]; omega))
    refine J_iconst (v := nI (0)) (pc := 16) dX2_isTree_16 rfl ?_
    refine J_iret (ty := .boolean) (pc := 17) dX2_isTree_17 rfl rfl ?_
    exact ⟨rfl, rfl⟩

set_option maxHeartbeats 2000000 in
set_option maxRecDepth 20000 in
theorem c_bean {g : GT} {d : Nat} {h : MH} {σ : ST} {π : Nat → Nat} (hG : GP h σ π) {a b c s : Nat} (hk : σ.1.1 < 20) (ha : a ≤ 50) (hb : b ≤ 50) (hc : c ≤ 50) (hs : s ≤ 2) : J g (d + 2) 0 0 mX2_bean 0 (lv_args 0 [.ref 1, .int (nI (a)), .int (nI (b)), .int (nI (c)), .int (nI (s))]) [] h (RH (nI σ.1.1) (fun h' => Fr 1 52 h h' ∧ GP h' (addB σ.1 a b c s, σ.2) π)) := by
  obtain ⟨g1, g2, g3, g4, ⟨tf, g5, g5b⟩, g6, g7, g8⟩ := id hG
  obtain ⟨o1, o2, o3, o4⟩ := id g2
  have hB := g1
  have b9 := BH_2 g1
  obtain ⟨hn, hc9, hm5, hs2⟩ := id g1.1
  have hp9 := pw_le hn

  refine J_iload_n (i := 1) (pc := 0) dX2_bean_0 rfl rfl ?_
  refine J_iload_n (i := 2) (pc := 1) dX2_bean_1 rfl rfl ?_
  refine J_iload_n (i := 3) (pc := 2) dX2_bean_2 rfl rfl ?_
  refine J_cSi (st := []) (As := [.int (nI (a)), .int (nI (b)), .int (nI (c))]) (pc := 3) dX2_bean_3 okX2_areMeasures q3_42 q3_43 rfl (Nat.le_of_ble_eq_true rfl) (Nat.le_of_ble_eq_true rfl) (c_areMeasuresT ⟨inZ_nI (by omega) (by omega) (by decide), inZ_nI (by omega) (by omega) (by decide), inZ_nI (by omega) (by omega) (by decide)⟩) ?_
  refine J_if_neN (tgt := 19) (pc := 6) dX2_bean_6 (by decide) (by omega) (fun c6 => ?_) (fun c6 => by exfalso; first | omega | simp_all)
  refine J_iload (i := 4) (pc := 19) dX2_bean_19 rfl ?_
  refine J_cSi (st := []) (As := [.int (nI (s))]) (pc := 21) dX2_bean_21 okX2_isSort q3_46 q3_47 rfl (Nat.le_of_ble_eq_true rfl) (Nat.le_of_ble_eq_true rfl) (c_isSortT (inZ_nI (by omega) (by omega) (by decide))) ?_
  refine J_if_neN (tgt := 37) (pc := 24) dX2_bean_24 (by decide) (by omega) (fun c24 => ?_) (fun c24 => by exfalso; first | omega | simp_all)
  refine J_aload_n (i := 0) (pc := 37) dX2_bean_37 rfl rfl ?_
  refine J_getf (k := 0) (pc := 38) dX2_bean_38 flX2_12 g4 rfl ?_
  refine J_cVi (st := []) (As := []) (pc := 41) dX2_bean_41 okX0_howMany q1_21 q1_22 q1_23 (rfl : vwCl[0]? = some _) b9 rfl (Nat.le_of_ble_eq_true rfl) (Nat.le_of_ble_eq_true rfl) (c_howMany hB) ?_
  refine J_bipush (v := nI (20)) (pc := 44) dX2_bean_44 rfl ?_
  refine J_icmp_ltN (tgt := 59) (pc := 46) dX2_bean_46 (by decide) (by omega) (by omega) (fun c46 => ?_) (fun c46 => by exfalso; first | omega | simp_all)
  refine J_aload_n (i := 0) (pc := 59) dX2_bean_59 rfl rfl ?_
  refine J_getf (k := 0) (pc := 60) dX2_bean_60 flX2_12 g4 rfl ?_
  refine J_iload_n (i := 1) (pc := 63) dX2_bean_63 rfl rfl ?_
  refine J_iload_n (i := 2) (pc := 64) dX2_bean_64 rfl rfl ?_
  refine J_iload_n (i := 3) (pc := 65) dX2_bean_65 rfl rfl ?_
  refine J_iload (i := 4) (pc := 66) dX2_bean_66 rfl ?_
  refine J_cVh (st := []) (As := [.int (nI (a)), .int (nI (b)), .int (nI (c)), .int (nI (s))]) (pc := 68) dX2_bean_68 okX0_add q3_51 q3_52 q3_53 (rfl : vwCl[0]? = some _) b9 rfl (Nat.le_of_ble_eq_true rfl) (Nat.le_of_ble_eq_true rfl) (c_add hB hk (by omega) (by omega) (by omega) (by omega)) (fun h_1 q_2 => ?_)
  refine J_iret (ty := .int) (pc := 71) dX2_bean_71 rfl rfl ?_
  exact ⟨rfl, Fr_12 q_2.1 (by decide) (by decide), GP_beans q_2.1 q_2.2 hG⟩

set_option maxHeartbeats 2000000 in
set_option maxRecDepth 20000 in
theorem c_check {g : GT} {d : Nat} {h : MH} {σ : ST} {π : Nat → Nat} (hG : GP h σ π) {k : Nat} {v : Bool} (hk : k < σ.1.1) : J g (d + 2) 0 0 mX2_check 0 (lv_args 0 [.ref 1, .int (nI (k)), .int (bI (v))]) [] h (RH (bI (σ.1.2.1.testBit k)) (fun h' => Fr 1 52 h h' ∧ GP h' (checkB σ.1 k v, σ.2) π)) := by
  obtain ⟨g1, g2, g3, g4, ⟨tf, g5, g5b⟩, g6, g7, g8⟩ := id hG
  obtain ⟨o1, o2, o3, o4⟩ := id g2
  have hB := g1
  have b9 := BH_2 g1
  obtain ⟨hn, hc9, hm5, hs2⟩ := id g1.1
  have hp9 := pw_le hn

  refine J_aload_n (i := 0) (pc := 0) dX2_check_0 rfl rfl ?_
  refine J_iload_n (i := 1) (pc := 1) dX2_check_1 rfl rfl ?_
  refine J_cVi (st := []) (As := [.int (nI (k))]) (pc := 2) dX2_check_2 okX2_isBean q1_16 q1_18 qs1_0 (rfl : vwCl[2]? = some _) g4 rfl (Nat.le_of_ble_eq_true rfl) (Nat.le_of_ble_eq_true rfl) (c_isBeanT hG hk) ?_
  refine J_if_neN (tgt := 18) (pc := 5) dX2_check_5 (by decide) (by omega) (fun c5 => ?_) (fun c5 => by exfalso; first | omega | simp_all)
  refine J_aload_n (i := 0) (pc := 18) dX2_check_18 rfl rfl ?_
  refine J_getf (k := 0) (pc := 19) dX2_check_19 flX2_12 g4 rfl ?_
  refine J_iload_n (i := 1) (pc := 22) dX2_check_22 rfl rfl ?_
  refine J_cVi (st := []) (As := [.int (nI (k))]) (pc := 23) dX2_check_23 okX0_isCheck q1_95 q1_96 q1_97 (rfl : vwCl[0]? = some _) b9 rfl (Nat.le_of_ble_eq_true rfl) (Nat.le_of_ble_eq_true rfl) (c_isCheck hB hk) ?_
  refine J_istore_n (i := 3) (lv' := [(3, .int (bI (σ.1.2.1.testBit k))), (0, .ref (1)), (1, .int (nI (k))), (2, .int (bI (v)))]) (pc := 26) dX2_check_26 rfl (by decide) rfl ?_
  refine J_aload_n (i := 0) (pc := 27) dX2_check_27 rfl rfl ?_
  refine J_getf (k := 0) (pc := 28) dX2_check_28 flX2_12 g4 rfl ?_
  refine J_iload_n (i := 1) (pc := 31) dX2_check_31 rfl rfl ?_
  refine J_iload_n (i := 2) (pc := 32) dX2_check_32 rfl rfl ?_
  refine J_cVv (st := []) (As := [.int (nI (k)), .int (bI (v))]) (pc := 33) dX2_check_33 okX0_makeCheck q1_102 q1_103 q1_104 (rfl : vwCl[0]? = some _) b9 rfl (Nat.le_of_ble_eq_true rfl) (Nat.le_of_ble_eq_true rfl) (c_makeCheck hB hk) (fun h_1 q_2 => ?_)
  refine J_iload_n (i := 3) (pc := 36) dX2_check_36 rfl rfl ?_
  refine J_iret (ty := .boolean) (pc := 37) dX2_check_37 rfl (nar_b _) ?_
  exact ⟨rfl, Fr_12 q_2.1 (by decide) (by decide), GP_beans q_2.1 q_2.2 hG⟩

set_option maxHeartbeats 2000000 in
set_option maxRecDepth 20000 in
theorem c_setDepth {g : GT} {d : Nat} {h : MH} {σ : ST} {π : Nat → Nat} (hG : GP h σ π) {m : Nat} (hm1 : 1 ≤ m) (hm : m ≤ 5) : J g (d + 1) 0 0 mX2_setDepth 0 (lv_args 0 [.ref 1, .int (nI (m))]) [] h (RH (nI σ.2.1.2.1) (fun h' => Fr 1 52 h h' ∧ GP h' (σ.1, (σ.2.1.1, m, σ.2.1.2.2), σ.2.2) π)) := by
  obtain ⟨g1, g2, g3, g4, ⟨tf, g5, g5b⟩, g6, g7, g8⟩ := id hG
  obtain ⟨o1, o2, o3, o4⟩ := id g2
  have hB := g1
  have b9 := BH_2 g1
  obtain ⟨hn, hc9, hm5, hs2⟩ := id g1.1
  have hp9 := pw_le hn

  refine J_iload_n (i := 1) (pc := 0) dX2_setDepth_0 rfl rfl ?_
  refine J_cSi (st := []) (As := [.int (nI (m))]) (pc := 1) dX2_setDepth_1 okX2_isDepth q1_110 q1_111 rfl (Nat.le_of_ble_eq_true rfl) (Nat.le_of_ble_eq_true rfl) (c_isDepthT (inZ_nI (by omega) (by omega) (by decide))) ?_
  refine J_if_neN (tgt := 17) (pc := 4) dX2_setDepth_4 (by decide) (by omega) (fun c4 => ?_) (fun c4 => by exfalso; first | omega | simp_all)
  refine J_aload_n (i := 0) (pc := 17) dX2_setDepth_17 rfl rfl ?_
  refine J_getf (k := 4) (pc := 18) dX2_setDepth_18 flX2_31 g4 rfl ?_
  refine J_istore_n (i := 2) (lv' := [(2, .int (nI (σ.2.1.2.1))), (0, .ref (1)), (1, .int (nI (m)))]) (pc := 21) dX2_setDepth_21 rfl (by decide) rfl ?_
  refine J_aload_n (i := 0) (pc := 22) dX2_setDepth_22 rfl rfl ?_
  refine J_iload_n (i := 1) (pc := 23) dX2_setDepth_23 rfl rfl ?_
  refine J_putf (k := 4) (pc := 24) dX2_setDepth_24 fpX2_setDepth_31 (fun g => ⟨rfl, rfl⟩) g4 (Nat.le_of_ble_eq_true rfl) ?_
  obtain ⟨h_1, eh_1⟩ : ∃ z : MH, z = (h.1, hset h.2 (1) (oB 2 [.ref (2), .ref (10), .ref (11), .int (nI (σ.2.1.1)), .int (nI (m)), .int (nI (σ.2.1.2.2))])) := ⟨_, rfl⟩
  refine J_heq (h2 := h_1) eh_1 ?_
  have H_2 : h_1.2 (1) = some (oB 2 [.ref (2), .ref (10), .ref (11), .int (nI (σ.2.1.1)), .int (nI (m)), .int (nI (σ.2.1.2.2))]) := hs_s eh_1
  have H_3 : h_1.2 (10) = some (aT (5) (tf)) := (hs_n eh_1 (by omega)).trans g5
  have H_4 : h_1.2 (2) = some (oB 0 [.ref (3), .ref (7), .ref (8), .ref (9), .int (nI (σ.1.1)), .int (nI (σ.1.2.1))]) := (hs_n eh_1 (by omega)).trans b9
  refine J_iload_n (i := 2) (pc := 27) dX2_setDepth_27 rfl rfl ?_
  refine J_iret (ty := .int) (pc := 28) dX2_setDepth_28 rfl rfl ?_
  have k9 : Fr 1 1 h h_1 := by rw [eh_1]; exact Fr_set (Nat.le_refl 1) (Nat.le_refl 1)
  exact ⟨rfl, Fr_12 k9 (by decide) (by decide), GP_num (dp := m) (le := σ.2.1.2.2) k9 (by omega) (by omega) H_2 hG⟩

set_option maxHeartbeats 2000000 in
set_option maxRecDepth 20000 in
theorem c_setLeast {g : GT} {d : Nat} {h : MH} {σ : ST} {π : Nat → Nat} (hG : GP h σ π) {m : Nat} (hm1 : 1 ≤ m) (hm : m ≤ 6) : J g (d + 1) 0 0 mX2_setLeast 0 (lv_args 0 [.ref 1, .int (nI (m))]) [] h (RH (nI σ.2.1.2.2) (fun h' => Fr 1 52 h h' ∧ GP h' (σ.1, (σ.2.1.1, σ.2.1.2.1, m), σ.2.2) π)) := by
  obtain ⟨g1, g2, g3, g4, ⟨tf, g5, g5b⟩, g6, g7, g8⟩ := id hG
  obtain ⟨o1, o2, o3, o4⟩ := id g2
  have hB := g1
  have b9 := BH_2 g1
  obtain ⟨hn, hc9, hm5, hs2⟩ := id g1.1
  have hp9 := pw_le hn

  refine J_iload_n (i := 1) (pc := 0) dX2_setLeast_0 rfl rfl ?_
  refine J_cSi (st := []) (As := [.int (nI (m))]) (pc := 1) dX2_setLeast_1 okX2_isLeast q1_133 q1_134 rfl (Nat.le_of_ble_eq_true rfl) (Nat.le_of_ble_eq_true rfl) (c_isLeastT (inZ_nI (by omega) (by omega) (by decide))) ?_
  refine J_if_neN (tgt := 17) (pc := 4) dX2_setLeast_4 (by decide) (by omega) (fun c4 => ?_) (fun c4 => by exfalso; first | omega | simp_all)
  refine J_aload_n (i := 0) (pc := 17) dX2_setLeast_17 rfl rfl ?_
  refine J_getf (k := 5) (pc := 18) dX2_setLeast_18 flX2_34 g4 rfl ?_
  refine J_istore_n (i := 2) (lv' := [(2, .int (nI (σ.2.1.2.2))), (0, .ref (1)), (1, .int (nI (m)))]) (pc := 21) dX2_setLeast_21 rfl (by decide) rfl ?_
  refine J_aload_n (i := 0) (pc := 22) dX2_setLeast_22 rfl rfl ?_
  refine J_iload_n (i := 1) (pc := 23) dX2_setLeast_23 rfl rfl ?_
  refine J_putf (k := 5) (pc := 24) dX2_setLeast_24 fpX2_setLeast_34 (fun g => ⟨rfl, rfl⟩) g4 (Nat.le_of_ble_eq_true rfl) ?_
  obtain ⟨h_1, eh_1⟩ : ∃ z : MH, z = (h.1, hset h.2 (1) (oB 2 [.ref (2), .ref (10), .ref (11), .int (nI (σ.2.1.1)), .int (nI (σ.2.1.2.1)), .int (nI (m))])) := ⟨_, rfl⟩
  refine J_heq (h2 := h_1) eh_1 ?_
  have H_2 : h_1.2 (1) = some (oB 2 [.ref (2), .ref (10), .ref (11), .int (nI (σ.2.1.1)), .int (nI (σ.2.1.2.1)), .int (nI (m))]) := hs_s eh_1
  have H_3 : h_1.2 (10) = some (aT (5) (tf)) := (hs_n eh_1 (by omega)).trans g5
  have H_4 : h_1.2 (2) = some (oB 0 [.ref (3), .ref (7), .ref (8), .ref (9), .int (nI (σ.1.1)), .int (nI (σ.1.2.1))]) := (hs_n eh_1 (by omega)).trans b9
  refine J_iload_n (i := 2) (pc := 27) dX2_setLeast_27 rfl rfl ?_
  refine J_iret (ty := .int) (pc := 28) dX2_setLeast_28 rfl rfl ?_
  have k9 : Fr 1 1 h h_1 := by rw [eh_1]; exact Fr_set (Nat.le_refl 1) (Nat.le_refl 1)
  exact ⟨rfl, Fr_12 k9 (by decide) (by decide), GP_num (dp := σ.2.1.2.1) (le := m) k9 (by omega) (by omega) H_2 hG⟩
