-- rules that the law wants beside the others; what the law asks of the class, in plain numbers
section
variable {g : GT} {d ca sa : Nat} {M : MT} {pc : Nat} {lv : List (Nat × Value)} {st : List Value} {h : MH} {Q : RT → MH → Prop}
theorem J_pop {v : Value} (hd : decode M.2.1 pc = .ok (.pop, 1)) (hv : v.category = 1) (k : J g d ca sa M (pc + 1) lv st h Q) : J g d ca sa M pc lv (v :: st) h Q := by
  intro hg p e R s m args below meth c H locs cells slots mc ms ls C
  exact lv_pop C.1.1 C.1.2.1 hd (by rw [em_cat]; exact hv) (k hg p e R s m args below meth c H locs cells slots mc ms ls C)
theorem J_ldc {index : Nat} {v : Int32} (hd : decode M.2.1 pc = .ok (.ldc index, 2)) (hw : Cond.constant M.1.cls index v ∈ lw_tbl) (k : J g d ca sa M (pc + 2) lv (.int v :: st) h Q) : J g d ca sa M pc lv st h Q := by
  intro hg p e R s m args below meth c H locs cells slots mc ms ls C
  exact lv_ldc C.1.1 C.1.2.1 C.1.2.2.2.2.2.2.1 (wd hg C.2.1.1 hw (Or.inl rfl) args) hd (k hg p e R s m args below meth c H locs cells slots mc ms ls C)
theorem J_ifnonnull {x : Nat} {off : Int} {tgt : Nat} (hd : decode M.2.1 pc = .ok (.ifnonnull off, 3)) (ht : (pc : Int) + off = (tgt : Int)) (k : J g d ca sa M tgt lv st h Q) : J g d ca sa M pc lv (.ref x :: st) h Q := by
  intro hg p e R s m args below meth c H locs cells slots mc ms ls C
  exact lv_ifnonnull C.1.1 C.1.2.1 hd ht (k hg p e R s m args below meth c H locs cells slots mc ms ls C)
theorem J_areto {x : Nat} {C0 : String} (hd : decode M.2.1 pc = .ok (.areturn, 1)) (hr : M.2.2.2.1 = some (.object C0)) (hq : Q (.inl (some (.ref x))) h) : J g d ca sa M pc lv [.ref x] h Q := by
  intro hg p e R s m args below meth c H locs cells slots mc ms ls C
  refine vx_ret ?_
  refine W.widen (k := mc) (n := ms) (by have := C.2.2.2.1; omega) (by have := C.2.2.2.1; omega) ?_
  have hlocks := C.1.2.2.2.2.1
  exact W.aret (v := .ref (ad g x)) C.1.1 C.1.2.1 (C.1.2.2.2.1.trans hr) (Or.inl ⟨C0, rfl⟩) (Or.inr ⟨_, rfl⟩) (fun t ht hW => C.fin (v := some (.ref x)) hq args t ht) C.2.2.1.2.2.2 hd
theorem J_min {index : Nat} {x y : Int32} (hd : decode M.2.1 pc = .ok (.invokestatic index, 3)) (hl : Cond.methodLink M.1.cls index Lib.Math.min.name ∈ lw_tbl) (hst : (st.map fun v => v.category).sum ≤ 8) (k : J g d ca sa M (pc + 3) lv (.int (if y < x then y else x) :: st) h Q) : J g d ca sa M pc lv (.int y :: .int x :: st) h Q := by
  intro hg p e R s m args below meth c H locs cells slots mc ms ls C
  have hr := C.2.2.2.1
  exact va_mmin C.1.1 C.1.2.1 (by rw [C.1.2.2.1]; exact C.2.2.2.2.1.symm) C.1.2.2.2.2.2.2.1 (wd hg C.2.1.1 hl (Or.inl rfl) args) (wd hg C.2.1.1 (show Cond.static Lib.Math.min.name ∈ lw_tbl from q3_60) (Or.inl rfl) args) (wd hg C.2.1.1 q1_11 (Or.inl rfl) args) (wd hg C.2.1.1 (show Cond.code Lib.Math.min.name Lib.Math.min.code 2 (some .int) ∈ lw_tbl from q3_61) (Or.inl rfl) args) (by omega) (by rw [catj]; omega) (by omega) (by omega) hd (k hg p e R s m args below meth c H locs cells slots mc ms ls C)
end
theorem nI_min {a b : Nat} (ha : a < 2 ^ 31) (hb : b < 2 ^ 31) : (if nI b < nI a then nI b else nI a) = nI (min a b) := by
  by_cases hh : b < a
  · rw [if_pos ((nI_ltI hb ha).mpr hh), Nat.min_eq_right (by omega)]
  · rw [if_neg (fun z => hh ((nI_ltI hb ha).mp z)), Nat.min_eq_left (by omega)]
theorem GP_1 {h : MH} {σ : ST} {π : Nat → Nat} (hG : GP h σ π) : ∃ fs, h.2 1 = some (.inr (2, fs)) := ⟨_, hG.2.2.2.1⟩
theorem of_le (β : BT) (X s : Nat) : ofS β X s ≤ cnt X := by
  have := cnt_split X (mkS β s)
  unfold ofS
  omega
theorem rg_le (β : BT) : ∀ (d : Nat) (t : TR d) (X : Nat), rgT β d t X ≤ cnt X
  | 0, (s, m), X => of_le β X s
  | d + 1, t, X => by
    rcases TR_c t with ⟨s, m, rfl⟩ | ⟨s, m, c, l, r, rfl⟩
    · exact of_le β X s
    · have h1 := rg_le β d l (X &&& mkC β c)
      have h2 := rg_le β d r (sdf X (X &&& mkC β c))
      have h3 := cnt_two β X c
      show rgT β d l _ + rgT β d r _ ≤ _
      omega
theorem dp_le : ∀ (d : Nat) (t : TR d), dpT d t ≤ d
  | 0, _ => Nat.le_refl _
  | d + 1, t => by
    rcases TR_c t with ⟨s, m, rfl⟩ | ⟨s, m, c, l, r, rfl⟩
    · exact Nat.zero_le _
    · have h1 := dp_le d l
      have h2 := dp_le d r
      show 1 + max (dpT d l) (dpT d r) ≤ d + 1
      omega
section
variable {g : GT} {d : Nat} {h : MH} {σ : ST} {π : Nat → Nat}
theorem k_about0 (hG : GP h σ π) {j : Nat} (hj : j < σ.2.1.1) : J g (d + 3) 0 0 mX2_about 0 (lv_args 0 [.ref 1, .int (nI j), .int (nI 0)]) [] h (RH (nI (nN 5 (σ.2.2.1 j))) (fun h' => Fr 1 52 h h' ∧ GP h' σ π)) := c_about0 hG hj
theorem k_about1 (hG : GP h σ π) {j : Nat} (hj : j < σ.2.1.1) : J g (d + 3) 0 0 mX2_about 0 (lv_args 0 [.ref 1, .int (nI j), .int (nI 1)]) [] h (RH (nI (lvT 5 (σ.2.2.1 j))) (fun h' => Fr 1 52 h h' ∧ GP h' σ π)) := c_about1 hG hj
theorem k_about2 (hG : GP h σ π) {j : Nat} (hj : j < σ.2.1.1) : J g (d + 3) 0 0 mX2_about 0 (lv_args 0 [.ref 1, .int (nI j), .int (nI 2)]) [] h (RH (nI (dpT 5 (σ.2.2.1 j))) (fun h' => Fr 1 52 h h' ∧ GP h' σ π)) := c_about2 hG hj
theorem k_about3 (hG : GP h σ π) {j : Nat} (hj : j < σ.2.1.1) : J g (d + 3) 0 0 mX2_about 0 (lv_args 0 [.ref 1, .int (nI j), .int (nI 3)]) [] h (RH (nI (rgT σ.1 5 (σ.2.2.1 j) (gro σ.1))) (fun h' => Fr 1 52 h h' ∧ GP h' σ π)) := c_about3 hG hj
theorem k_about4 (hG : GP h σ π) {j : Nat} (hj : j < σ.2.1.1) : J g (d + 3) 0 0 mX2_about 0 (lv_args 0 [.ref 1, .int (nI j), .int (nI 4)]) [] h (RH (nI (rgT σ.1 5 (σ.2.2.1 j) σ.1.2.1)) (fun h' => Fr 1 52 h h' ∧ GP h' σ π)) := c_about4 hG hj
theorem k_count0 (hG : GP h σ π) : J g (d + 4) 0 0 mX2_count 0 (lv_args 0 [.ref 1, .int (nI 0)]) [] h (RI (nI σ.1.1) h) := c_count0 hG
theorem k_count1 (hG : GP h σ π) : J g (d + 4) 0 0 mX2_count 0 (lv_args 0 [.ref 1, .int (nI 1)]) [] h (RI (nI (cnt σ.1.2.1)) h) := c_count1 hG
theorem k_count2 (hG : GP h σ π) : J g (d + 4) 0 0 mX2_count 0 (lv_args 0 [.ref 1, .int (nI 2)]) [] h (RI (nI σ.2.1.1) h) := c_count2 hG
theorem k_count5 (hG : GP h σ π) : J g (d + 4) 0 0 mX2_count 0 (lv_args 0 [.ref 1, .int (nI 5)]) [] h (RI (nI σ.2.1.2.1) h) := c_count5 hG
theorem k_count6 (hG : GP h σ π) : J g (d + 4) 0 0 mX2_count 0 (lv_args 0 [.ref 1, .int (nI 6)]) [] h (RI (nI σ.2.1.2.2) h) := c_count6 hG
theorem k_told3 (hG : GP h σ π) {k : Nat} (hk : k < σ.1.1) : J g (d + 2) 0 0 mX2_told 0 (lv_args 0 [.ref 1, .int (nI k), .int (nI 3)]) [] h (RI (nI (σ.1.2.2.2 k)) h) := c_told3 hG hk
theorem k_told4 (hG : GP h σ π) {k : Nat} (hk : k < σ.1.1) : J g (d + 2) 0 0 mX2_told 0 (lv_args 0 [.ref 1, .int (nI k), .int (nI 4)]) [] h (RI (nI (if σ.1.2.1.testBit k = true then 1 else 0)) h) := c_told4 hG hk
theorem k_node2 (hG : GP h σ π) {j p : Nat} (hj : j < σ.2.1.1) (hp : p < nN 5 (σ.2.2.1 j)) : J g (d + 2) 0 0 mX2_node 0 (lv_args 0 [.ref 1, .int (nI j), .int (nI p), .int (nI 2)]) [] h (RI (nI (rowT 5 0 (σ.2.2.1 j) p).2.1) h) := c_node2 hG hj hp
theorem k_node3 (hG : GP h σ π) {j p : Nat} (hj : j < σ.2.1.1) (hp : p < nN 5 (σ.2.2.1 j)) : J g (d + 2) 0 0 mX2_node 0 (lv_args 0 [.ref 1, .int (nI j), .int (nI p), .int (nI 3)]) [] h (RI (nI (rowT 5 0 (σ.2.2.1 j) p).2.2.1) h) := c_node3 hG hj hp
theorem k_node4 (hG : GP h σ π) {j p : Nat} (hj : j < σ.2.1.1) (hp : p < nN 5 (σ.2.2.1 j)) : J g (d + 2) 0 0 mX2_node 0 (lv_args 0 [.ref 1, .int (nI j), .int (nI p), .int (nI 4)]) [] h (RI (nI (rowT 5 0 (σ.2.2.1 j) p).2.2.2) h) := c_node4 hG hj hp
theorem k_node0L (hG : GP h σ π) {j p : Nat} (hj : j < σ.2.1.1) (hp : p < nN 5 (σ.2.2.1 j)) (e : (rowT 5 0 (σ.2.2.1 j) p).1 = none) : J g (d + 2) 0 0 mX2_node 0 (lv_args 0 [.ref 1, .int (nI j), .int (nI p), .int (nI 0)]) [] h (RI (-1) h) := by
  have r := c_node0 (g := g) (d := d) hG hj hp
  rw [show ndS (σ.2.2.1 j) p 0 = none from by show (rowT 5 0 (σ.2.2.1 j) p).1.map _ = none; rw [e]; rfl] at r
  exact r
theorem k_node5L (hG : GP h σ π) {j p : Nat} (hj : j < σ.2.1.1) (hp : p < nN 5 (σ.2.2.1 j)) (e : (rowT 5 0 (σ.2.2.1 j) p).1 = none) : J g (d + 2) 0 0 mX2_node 0 (lv_args 0 [.ref 1, .int (nI j), .int (nI p), .int (nI 5)]) [] h (RI (-1) h) := by
  have r := c_node5 (g := g) (d := d) hG hj hp
  rw [show ndS (σ.2.2.1 j) p 5 = none from by show (rowT 5 0 (σ.2.2.1 j) p).1.map _ = none; rw [e]; rfl] at r
  exact r
theorem k_node6L (hG : GP h σ π) {j p : Nat} (hj : j < σ.2.1.1) (hp : p < nN 5 (σ.2.2.1 j)) (e : hiT 5 (σ.2.2.1 j) p = none) : J g (d + 2) 0 0 mX2_node 0 (lv_args 0 [.ref 1, .int (nI j), .int (nI p), .int (nI 6)]) [] h (RI (-1) h) := by
  have r := c_node6 (g := g) (d := d) hG hj hp
  rw [show ndS (σ.2.2.1 j) p 6 = none from e] at r
  exact r
theorem k_node0F (hG : GP h σ π) {j p c : Nat} (hj : j < σ.2.1.1) (hp : p < nN 5 (σ.2.2.1 j)) (e : (rowT 5 0 (σ.2.2.1 j) p).1 = some c) : J g (d + 2) 0 0 mX2_node 0 (lv_args 0 [.ref 1, .int (nI j), .int (nI p), .int (nI 0)]) [] h (RI (nI (c / 51)) h) := by
  have r := c_node0 (g := g) (d := d) hG hj hp
  rw [show ndS (σ.2.2.1 j) p 0 = some (c / 51) from by show (rowT 5 0 (σ.2.2.1 j) p).1.map _ = _; rw [e]; rfl] at r
  exact r
theorem k_node5F (hG : GP h σ π) {j p c : Nat} (hj : j < σ.2.1.1) (hp : p < nN 5 (σ.2.2.1 j)) (e : (rowT 5 0 (σ.2.2.1 j) p).1 = some c) : J g (d + 2) 0 0 mX2_node 0 (lv_args 0 [.ref 1, .int (nI j), .int (nI p), .int (nI 5)]) [] h (RI (nI (p + 1)) h) := by
  have r := c_node5 (g := g) (d := d) hG hj hp
  rw [show ndS (σ.2.2.1 j) p 5 = some (p + 1) from by show (rowT 5 0 (σ.2.2.1 j) p).1.map _ = _; rw [e]; rfl] at r
  exact r
theorem k_node6F (hG : GP h σ π) {j p z : Nat} (hj : j < σ.2.1.1) (hp : p < nN 5 (σ.2.2.1 j)) (e : hiT 5 (σ.2.2.1 j) p = some z) : J g (d + 2) 0 0 mX2_node 0 (lv_args 0 [.ref 1, .int (nI j), .int (nI p), .int (nI 6)]) [] h (RI (nI z) h) := by
  have r := c_node6 (g := g) (d := d) hG hj hp
  rw [show ndS (σ.2.2.1 j) p 6 = some z from e] at r
  exact r
theorem k_best0N (hG : GP h σ π) (e : bestS σ.1 (gro σ.1) σ.2.1.2.2 = none) : J g (d + 5) 0 0 mX2_best 0 (lv_args 0 [.ref 1, .int (nI 0)]) [] h (RI (-1) h) := by
  have r := c_best0 (g := g) (d := d) hG
  rw [show bsS σ.1 σ.2.1.2.2 0 = none from by show (bestS σ.1 (gro σ.1) σ.2.1.2.2).map _ = none; rw [e]; rfl] at r
  exact r
theorem k_best1N (hG : GP h σ π) (e : bestS σ.1 (gro σ.1) σ.2.1.2.2 = none) : J g (d + 5) 0 0 mX2_best 0 (lv_args 0 [.ref 1, .int (nI 1)]) [] h (RI (-1) h) := by
  have r := c_best1 (g := g) (d := d) hG
  rw [show bsS σ.1 σ.2.1.2.2 1 = none from by show (bestS σ.1 (gro σ.1) σ.2.1.2.2).map _ = none; rw [e]; rfl] at r
  exact r
theorem k_best0S (hG : GP h σ π) {c : Nat} (e : bestS σ.1 (gro σ.1) σ.2.1.2.2 = some c) : J g (d + 5) 0 0 mX2_best 0 (lv_args 0 [.ref 1, .int (nI 0)]) [] h (RI (nI (c / 51)) h) := by
  have r := c_best0 (g := g) (d := d) hG
  rw [show bsS σ.1 σ.2.1.2.2 0 = some (c / 51) from by show (bestS σ.1 (gro σ.1) σ.2.1.2.2).map _ = _; rw [e]; rfl] at r
  exact r
theorem k_best1S (hG : GP h σ π) {c : Nat} (e : bestS σ.1 (gro σ.1) σ.2.1.2.2 = some c) : J g (d + 5) 0 0 mX2_best 0 (lv_args 0 [.ref 1, .int (nI 1)]) [] h (RI (nI (c % 51)) h) := by
  have r := c_best1 (g := g) (d := d) hG
  rw [show bsS σ.1 σ.2.1.2.2 1 = some (c % 51) from by show (bestS σ.1 (gro σ.1) σ.2.1.2.2).map _ = _; rw [e]; rfl] at r
  exact r
theorem k_would (hG : GP h σ π) {mo ls w : Nat} (hm1 : 1 ≤ mo) (hm : mo ≤ 5) (hl1 : 1 ≤ ls) (hl : ls ≤ 6) (hw : w ≤ 2) : ∃ v : Int32, J g (d + 6) 0 0 mX2_would 0 (lv_args 0 [.ref 1, .int (nI mo), .int (nI ls), .int (nI w)]) [] h (RH v (fun h' => Fr 1 52 h h' ∧ GP h' σ π)) := by
  by_cases e : gro σ.1 = 0
  · refine ⟨0, J_mono ?_ (c_wouldZ (d := d) hG hm1 hm hl1 hl hw e)⟩
    rintro r h' ⟨r1, rfl⟩
    exact ⟨r1, Fr_rfl, hG⟩
  · have h3 : w = 0 ∨ w = 1 ∨ w = 2 := by omega
    rcases h3 with rfl | rfl | rfl
    · exact ⟨_, c_would0 hG hm1 hm hl1 hl e⟩
    · exact ⟨_, c_would1 hG hm1 hm hl1 hl e⟩
    · exact ⟨_, c_would2 hG hm1 hm hl1 hl e⟩
theorem k_plant (hG : GP h σ π) (hk5 : σ.2.1.1 < 5) (hg0 : gro σ.1 ≠ 0) : J g (d + 6) 0 0 mX2_plant 0 (lv_args 0 [.ref 1, .int (nI 1), .int (-1)]) [] h (RH (nI σ.2.1.1) (fun h' => Fr 1 52 h h' ∧ GP h' (σ.1, (σ.2.1.1 + 1, σ.2.1.2.1, σ.2.1.2.2), va_up σ.2.2.1 σ.2.1.1 (grT σ.1 σ.2.1.2.2 5 σ.2.1.2.1 (gro σ.1)), va_up σ.2.2.2.1 σ.2.1.1 (nI 1), va_up σ.2.2.2.2 σ.2.1.1 (-1)) π)) := by
  have r := c_plant (g := g) (d := d) hG (P := 1) (L := -1) (by decide) (by decide) (by decide) (by decide) hk5 (by rw [gbS_all]; exact hg0)
  rw [gbS_all] at r
  exact r
end
theorem dc_ok : ∀ a, a < 196 → ∀ b, b < 6 → 0 < b → Op.cmpValue (FP.dcmp (FP.ddiv (FP.i2d (nI a)) (FP.i2d (nI b))) (FP.ddiv (FP.i2d (nI a)) (FP.i2d (nI b)))) .l = 0 := by decide +kernel
theorem dc_0 : Op.cmpValue (FP.dcmp FP.dconst0 FP.dconst0) .l = 0 := by decide +kernel
theorem lg_selfc (a : Int64) : lg_cmp a a = 0 := by
  unfold lg_cmp
  simp
