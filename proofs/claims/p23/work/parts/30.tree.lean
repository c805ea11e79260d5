-- trees: what they are, where they lie, the small methods
def TR : Nat → Type
  | 0 => Nat × Nat
  | d + 1 => (Nat × Nat) × Option (Nat × TR d × TR d)
abbrev NR : Type := Option Nat × Nat × Nat × Nat
abbrev Q4 : Type := Int32 × Int32 × Int32 × Int32
def nN : (d : Nat) → TR d → Nat
  | 0, _ => 1
  | _ + 1, (_, none) => 1
  | d + 1, (_, some (_, l, r)) => 1 + nN d l + nN d r
def rowT : (d : Nat) → Nat → TR d → Nat → NR
  | 0, D, (s, m), _ => (none, s, m, D)
  | _ + 1, D, ((s, m), none), _ => (none, s, m, D)
  | _ + 1, D, ((s, m), some (c, _, _)), 0 => (some c, s, m, D)
  | d + 1, D, (_, some (_, l, r)), q + 1 => if q < nN d l then rowT d (D + 1) l q else rowT d (D + 1) r (q - nN d l)
def okT : (d : Nat) → TR d → Prop
  | 0, (s, m) => s ≤ 2 ∧ m ≤ 20
  | _ + 1, ((s, m), none) => s ≤ 2 ∧ m ≤ 20
  | d + 1, ((s, m), some (c, l, r)) => (s ≤ 2 ∧ m ≤ 20) ∧ c < 153 ∧ okT d l ∧ okT d r
def E4 (r : NR) : Q4 := (enc r.1, nI r.2.1, nI r.2.2.1, nI r.2.2.2)
def G4 (cf sf gf df : Nat → Int32) : Nat → Q4 := fun p => (cf p, sf p, gf p, df p)
def Blk (G : Nat → Q4) (p d D : Nat) (t : TR d) : Prop := ∀ q, q < nN d t → G (p + q) = E4 (rowT d D t q)
theorem TR_c {d : Nat} (t : TR (d + 1)) : (∃ s m, t = ((s, m), none)) ∨ ∃ s m c l r, t = ((s, m), some (c, l, r)) := by
  obtain ⟨⟨s, m⟩, k⟩ := t
  cases k with
  | none => exact Or.inl ⟨s, m, rfl⟩
  | some k => exact Or.inr ⟨s, m, k.1, k.2.1, k.2.2, rfl⟩
theorem nN_pos : ∀ (d : Nat) (t : TR d), 1 ≤ nN d t
  | 0, _ => Nat.le_refl 1
  | d + 1, t => by
    rcases TR_c t with ⟨s, m, rfl⟩ | ⟨s, m, c, l, r, rfl⟩
    · exact Nat.le_refl 1
    · show 1 ≤ 1 + nN d l + nN d r
      omega
theorem nN_f {d : Nat} (a : Nat × Nat) (c : Nat) (l r : TR d) : nN (d + 1) (a, some (c, l, r)) = 1 + nN d l + nN d r := rfl
/-- the root's row -/
def lfB : (d : Nat) → TR d → Prop
  | 0, _ => True
  | _ + 1, t => t.2 = none
theorem row_root : ∀ (d D : Nat) (t : TR d), (rowT d D t 0).2.2.2 = D
  | 0, D, (s, m) => rfl
  | d + 1, D, t => by
    rcases TR_c t with ⟨s, m, rfl⟩ | ⟨s, m, c, l, r, rfl⟩ <;> rfl
theorem row_dep : ∀ (d D : Nat) (t : TR d) (q : Nat), q < nN d t → D ≤ (rowT d D t q).2.2.2 ∧ (rowT d D t q).2.2.2 ≤ D + d ∧ (0 < q → D < (rowT d D t q).2.2.2)
  | 0, D, (s, m), q, hq => by
    have : q < 1 := hq
    refine ⟨Nat.le_refl _, Nat.le_refl _, by omega⟩
  | d + 1, D, t, q, hq => by
    rcases TR_c t with ⟨s, m, rfl⟩ | ⟨s, m, c, l, r, rfl⟩
    · have : q < 1 := hq
      exact ⟨Nat.le_refl _, Nat.le_add_right _ _, by omega⟩
    · cases q with
      | zero => exact ⟨Nat.le_refl _, Nat.le_add_right _ _, by omega⟩
      | succ q =>
        have hq2 : q + 1 < 1 + nN d l + nN d r := hq
        show _ ≤ (if q < nN d l then rowT d (D + 1) l q else rowT d (D + 1) r (q - nN d l)).2.2.2 ∧ (if q < nN d l then rowT d (D + 1) l q else rowT d (D + 1) r (q - nN d l)).2.2.2 ≤ _ ∧ (_ → _ < (if q < nN d l then rowT d (D + 1) l q else rowT d (D + 1) r (q - nN d l)).2.2.2)
        split
        · have h1 := row_dep d (D + 1) l q (by omega)
          omega
        · have h1 := row_dep d (D + 1) r (q - nN d l) (by omega)
          omega
theorem Blk_0 {G : Nat → Q4} {p D s m : Nat} (h : Blk G p 0 D (s, m)) : G p = (-1, nI s, nI m, nI D) := h 0 Nat.one_pos
theorem Blk_l {G : Nat → Q4} {p d D s m : Nat} (h : Blk G p (d + 1) D ((s, m), none)) : G p = (-1, nI s, nI m, nI D) := h 0 Nat.one_pos
theorem Blk_f {G : Nat → Q4} {p d D s m c : Nat} {l r : TR d} (h : Blk G p (d + 1) D ((s, m), some (c, l, r))) : G p = (nI c, nI s, nI m, nI D) ∧ Blk G (p + 1) d (D + 1) l ∧ Blk G (p + 1 + nN d l) d (D + 1) r := by
  refine ⟨h 0 (by rw [nN_f]; omega), ?_, ?_⟩
  · intro q hq
    have h1 := h (q + 1) (by rw [nN_f]; omega)
    rw [show p + (q + 1) = p + 1 + q by omega] at h1
    rw [h1]
    show E4 (if q < nN d l then _ else _) = _
    rw [if_pos hq]
  · intro q hq
    have h1 := h (nN d l + q + 1) (by rw [nN_f]; omega)
    rw [show p + (nN d l + q + 1) = p + 1 + nN d l + q by omega] at h1
    rw [h1]
    show E4 (if nN d l + q < nN d l then _ else rowT d (D + 1) r (nN d l + q - nN d l)) = _
    rw [if_neg (by omega), show nN d l + q - nN d l = q by omega]
theorem Blk_mk0 {G : Nat → Q4} {p D s m : Nat} (h : G p = (-1, nI s, nI m, nI D)) : Blk G p 0 D (s, m) := by
  intro q hq
  have hq2 : q < 1 := hq
  obtain rfl : q = 0 := by omega
  exact h
theorem Blk_mkl {G : Nat → Q4} {p d D s m : Nat} (h : G p = (-1, nI s, nI m, nI D)) : Blk G p (d + 1) D ((s, m), none) := by
  intro q hq
  have hq2 : q < 1 := hq
  obtain rfl : q = 0 := by omega
  exact h
theorem Blk_mkf {G : Nat → Q4} {p d D s m c : Nat} {l r : TR d} (h0 : G p = (nI c, nI s, nI m, nI D)) (h1 : Blk G (p + 1) d (D + 1) l) (h2 : Blk G (p + 1 + nN d l) d (D + 1) r) : Blk G p (d + 1) D ((s, m), some (c, l, r)) := by
  intro q hq
  have hq2 : q < 1 + nN d l + nN d r := hq
  cases q with
  | zero => exact h0
  | succ q =>
    show _ = E4 (if q < nN d l then _ else _)
    rw [show p + (q + 1) = p + 1 + q by omega]
    split
    · exact h1 q (by assumption)
    · rw [show p + 1 + q = p + 1 + nN d l + (q - nN d l) by omega]
      exact h2 (q - nN d l) (by omega)
theorem Blk_congr {G G' : Nat → Q4} {p d D : Nat} {t : TR d} (h : Blk G p d D t) (e : ∀ q, q < nN d t → G' (p + q) = G (p + q)) : Blk G' p d D t := fun q hq => (e q hq).trans (h q hq)
/-- the object at t and its rows behind it -/
def TO (h : MH) (t : Nat) (n pa le : Int32) (cf sf gf df mf rf : Nat → Int32) : Prop :=
  h.2 t = some (oB 1 [.ref (t + 1), .ref (t + 2), .ref (t + 3), .ref (t + 4), .ref (t + 5), .ref (t + 6), .int n, .int pa, .int le]) ∧ h.2 (t + 1) = some (aI 39 cf) ∧ h.2 (t + 2) = some (aI 39 sf) ∧ h.2 (t + 3) = some (aI 39 gf) ∧ h.2 (t + 4) = some (aI 39 df) ∧ h.2 (t + 5) = some (aI 39 mf) ∧ h.2 (t + 6) = some (aI 39 rf)
theorem TO_fr {h h' : MH} {t a b : Nat} {n pa le : Int32} {cf sf gf df mf rf : Nat → Int32} (k : Fr a b h h') (hx : b < t ∨ t + 6 < a) (hT : TO h t n pa le cf sf gf df mf rf) : TO h' t n pa le cf sf gf df mf rf := by
  obtain ⟨k0, k1, k2, k3, k4, k5, k6⟩ := hT
  exact ⟨(k.2 _ (by omega)).trans k0, (k.2 _ (by omega)).trans k1, (k.2 _ (by omega)).trans k2, (k.2 _ (by omega)).trans k3, (k.2 _ (by omega)).trans k4, (k.2 _ (by omega)).trans k5, (k.2 _ (by omega)).trans k6⟩
theorem nI_nge {n : Nat} (h : n < 2 ^ 31) : ¬¬ nI n ≥ 0 := by
  intro q
  apply q
  show 0 ≤ nI n
  rw [Int32.le_iff_toInt_le, nI_toInt h, z32]
  omega
def mkC (β : BT) (c : Nat) : Nat := mkL β (c / 51) (c % 51)

theorem BH_2 {h : MH} {β : BT} (hB : BH h β) : h.2 2 = some (oB 0 [.ref 3, .ref 7, .ref 8, .ref 9, .int (nI β.1), .int (nI β.2.1)]) := by
  obtain ⟨_, _, _, _, _, q, _⟩ := hB
  exact q

set_option maxHeartbeats 2000000 in
set_option maxRecDepth 20000 in
theorem c_putLeaf {g : GT} {dd : Nat} {h : MH} {β : BT} (hB : BH h β) {t : Nat} {pa le : Int32} {cf sf gf df mf rf : Nat → Int32} {n : Int32} {p s D : Nat} (hT : TO h t n pa le cf sf gf df mf rf) (ht : 9 < t) (hp : p < 39) (hs : s < 2 ^ 20) :
    J g (dd + 3) 0 0 mX1_putLeaf 0 (lv_args 0 [.ref t, .ref 2, .int (nI p), .int (nI s), .int (nI D)]) [] h (RV (fun h' => Fr (t + 1) (t + 5) h h' ∧ TO h' t n pa le (upd cf p (-1)) (upd sf p (nI (mostS β s))) (upd gf p (nI (cnt s))) (upd df p (nI D)) (upd mf p (nI s)) rf)) := by
  obtain ⟨k0, k1, k2, k3, k4, k5, k6⟩ := id hT
  have b2 := BH_2 hB
  refine J_aload_n (i := 0) (pc := 0) dX1_putLeaf_0 rfl rfl ?_
  refine J_getf (k := 0) (pc := 1) dX1_putLeaf_1 flX1_9 k0 rfl ?_
  refine J_iload_n (i := 2) (pc := 4) dX1_putLeaf_4 rfl rfl ?_
  refine J_iconst (v := (-1)) (pc := 5) dX1_putLeaf_5 rfl ?_
  refine J_iast (j := p) (pc := 6) dX1_putLeaf_6 k1 rfl (by omega) (by omega) ?_
  obtain ⟨h_1, eh_1⟩ : ∃ z : MH, z = (h.1, hset h.2 (t + 1) (aI (39) (upd cf (p) ((-1))))) := ⟨_, rfl⟩
  refine J_heq (h2 := h_1) eh_1 ?_
  have H_2 : h_1.2 (t) = some (oB 1 [.ref (t + 1), .ref (t + 2), .ref (t + 3), .ref (t + 4), .ref (t + 5), .ref (t + 6), .int (n), .int (pa), .int (le)]) := (hs_n eh_1 (by omega)).trans k0
  have H_3 : h_1.2 (t + 1) = some (aI (39) (upd cf (p) ((-1)))) := hs_s eh_1
  have H_4 : h_1.2 (t + 2) = some (aI (39) (sf)) := (hs_n eh_1 (by omega)).trans k2
  have H_5 : h_1.2 (t + 3) = some (aI (39) (gf)) := (hs_n eh_1 (by omega)).trans k3
  have H_6 : h_1.2 (t + 4) = some (aI (39) (df)) := (hs_n eh_1 (by omega)).trans k4
  have H_7 : h_1.2 (t + 5) = some (aI (39) (mf)) := (hs_n eh_1 (by omega)).trans k5
  have H_8 : h_1.2 (t + 6) = some (aI (39) (rf)) := (hs_n eh_1 (by omega)).trans k6
  have H_9 : h_1.2 (2) = some (oB 0 [.ref (3), .ref (7), .ref (8), .ref (9), .int (nI (β.1)), .int (nI (β.2.1))]) := (hs_n eh_1 (by omega)).trans b2
  have H_10 : BH h_1 β := by rw [eh_1]; exact BH_set (by omega) hB
  have H_11 : Fr (t + 1) (t + 5) h h_1 := by rw [eh_1]; exact Fr_st Fr_rfl (by omega) (by omega)
  refine J_aload_n (i := 0) (pc := 7) dX1_putLeaf_7 rfl rfl ?_
  refine J_getf (k := 1) (pc := 8) dX1_putLeaf_8 flX1_15 H_2 rfl ?_
  refine J_iload_n (i := 2) (pc := 11) dX1_putLeaf_11 rfl rfl ?_
  refine J_aload_n (i := 1) (pc := 12) dX1_putLeaf_12 rfl rfl ?_
  refine J_iload_n (i := 3) (pc := 13) dX1_putLeaf_13 rfl rfl ?_
  refine J_cVi (st := [.int (nI (p)), .ref (t + 2)]) (As := [.int (nI (s))]) (pc := 14) dX1_putLeaf_14 okX0_mostOf q1_177 q1_178 q1_179 (rfl : vwCl[0]? = some _) H_9 rfl (Nat.le_of_ble_eq_true rfl) (Nat.le_of_ble_eq_true rfl) (c_mostOf H_10 (by omega)) ?_
  refine J_iast (j := p) (pc := 17) dX1_putLeaf_17 H_4 rfl (by omega) (by omega) ?_
  obtain ⟨h_12, eh_12⟩ : ∃ z : MH, z = (h_1.1, hset h_1.2 (t + 2) (aI (39) (upd sf (p) (nI (mostS β s))))) := ⟨_, rfl⟩
  refine J_heq (h2 := h_12) eh_12 ?_
  have H_13 : h_12.2 (t) = some (oB 1 [.ref (t + 1), .ref (t + 2), .ref (t + 3), .ref (t + 4), .ref (t + 5), .ref (t + 6), .int (n), .int (pa), .int (le)]) := (hs_n eh_12 (by omega)).trans H_2
  have H_14 : h_12.2 (t + 1) = some (aI (39) (upd cf (p) ((-1)))) := (hs_n eh_12 (by omega)).trans H_3
  have H_15 : h_12.2 (t + 2) = some (aI (39) (upd sf (p) (nI (mostS β s)))) := hs_s eh_12
  have H_16 : h_12.2 (t + 3) = some (aI (39) (gf)) := (hs_n eh_12 (by omega)).trans H_5
  have H_17 : h_12.2 (t + 4) = some (aI (39) (df)) := (hs_n eh_12 (by omega)).trans H_6
  have H_18 : h_12.2 (t + 5) = some (aI (39) (mf)) := (hs_n eh_12 (by omega)).trans H_7
  have H_19 : h_12.2 (t + 6) = some (aI (39) (rf)) := (hs_n eh_12 (by omega)).trans H_8
  have H_20 : h_12.2 (2) = some (oB 0 [.ref (3), .ref (7), .ref (8), .ref (9), .int (nI (β.1)), .int (nI (β.2.1))]) := (hs_n eh_12 (by omega)).trans H_9
  have H_21 : BH h_12 β := by rw [eh_12]; exact BH_set (by omega) H_10
  have H_22 : Fr (t + 1) (t + 5) h h_12 := by rw [eh_12]; exact Fr_st H_11 (by omega) (by omega)
  refine J_aload_n (i := 0) (pc := 18) dX1_putLeaf_18 rfl rfl ?_
  refine J_getf (k := 2) (pc := 19) dX1_putLeaf_19 flX1_18 H_13 rfl ?_
  refine J_iload_n (i := 2) (pc := 22) dX1_putLeaf_22 rfl rfl ?_
  refine J_iload_n (i := 3) (pc := 23) dX1_putLeaf_23 rfl rfl ?_
  refine J_cSi (st := [.int (nI (p)), .ref (t + 3)]) (As := [.int (nI (s))]) (pc := 24) dX1_putLeaf_24 okJ6_bitCount_0f7a4 q1_191 q1_186 rfl (Nat.le_of_ble_eq_true rfl) (Nat.le_of_ble_eq_true rfl) (c_bitCount (by omega)) ?_
  refine J_iast (j := p) (pc := 27) dX1_putLeaf_27 H_16 rfl (by omega) (by omega) ?_
  obtain ⟨h_23, eh_23⟩ : ∃ z : MH, z = (h_12.1, hset h_12.2 (t + 3) (aI (39) (upd gf (p) (nI (cnt (s)))))) := ⟨_, rfl⟩
  refine J_heq (h2 := h_23) eh_23 ?_
  have H_24 : h_23.2 (t) = some (oB 1 [.ref (t + 1), .ref (t + 2), .ref (t + 3), .ref (t + 4), .ref (t + 5), .ref (t + 6), .int (n), .int (pa), .int (le)]) := (hs_n eh_23 (by omega)).trans H_13
  have H_25 : h_23.2 (t + 1) = some (aI (39) (upd cf (p) ((-1)))) := (hs_n eh_23 (by omega)).trans H_14
  have H_26 : h_23.2 (t + 2) = some (aI (39) (upd sf (p) (nI (mostS β s)))) := (hs_n eh_23 (by omega)).trans H_15
  have H_27 : h_23.2 (t + 3) = some (aI (39) (upd gf (p) (nI (cnt (s))))) := hs_s eh_23
  have H_28 : h_23.2 (t + 4) = some (aI (39) (df)) := (hs_n eh_23 (by omega)).trans H_17
  have H_29 : h_23.2 (t + 5) = some (aI (39) (mf)) := (hs_n eh_23 (by omega)).trans H_18
  have H_30 : h_23.2 (t + 6) = some (aI (39) (rf)) := (hs_n eh_23 (by omega)).trans H_19
  have H_31 : h_23.2 (2) = some (oB 0 [.ref (3), .ref (7), .ref (8), .ref (9), .int (nI (β.1)), .int (nI (β.2.1))]) := (hs_n eh_23 (by omega)).trans H_20
  have H_32 : BH h_23 β := by rw [eh_23]; exact BH_set (by omega) H_21
  have H_33 : Fr (t + 1) (t + 5) h h_23 := by rw [eh_23]; exact Fr_st H_22 (by omega) (by omega)
  refine J_aload_n (i := 0) (pc := 28) dX1_putLeaf_28 rfl rfl ?_
  refine J_getf (k := 3) (pc := 29) dX1_putLeaf_29 flX1_21 H_24 rfl ?_
  refine J_iload_n (i := 2) (pc := 32) dX1_putLeaf_32 rfl rfl ?_
  refine J_iload (i := 4) (pc := 33) dX1_putLeaf_33 rfl ?_
  refine J_iast (j := p) (pc := 35) dX1_putLeaf_35 H_28 rfl (by omega) (by omega) ?_
  obtain ⟨h_34, eh_34⟩ : ∃ z : MH, z = (h_23.1, hset h_23.2 (t + 4) (aI (39) (upd df (p) (nI (D))))) := ⟨_, rfl⟩
  refine J_heq (h2 := h_34) eh_34 ?_
  have H_35 : h_34.2 (t) = some (oB 1 [.ref (t + 1), .ref (t + 2), .ref (t + 3), .ref (t + 4), .ref (t + 5), .ref (t + 6), .int (n), .int (pa), .int (le)]) := (hs_n eh_34 (by omega)).trans H_24
  have H_36 : h_34.2 (t + 1) = some (aI (39) (upd cf (p) ((-1)))) := (hs_n eh_34 (by omega)).trans H_25
  have H_37 : h_34.2 (t + 2) = some (aI (39) (upd sf (p) (nI (mostS β s)))) := (hs_n eh_34 (by omega)).trans H_26
  have H_38 : h_34.2 (t + 3) = some (aI (39) (upd gf (p) (nI (cnt (s))))) := (hs_n eh_34 (by omega)).trans H_27
  have H_39 : h_34.2 (t + 4) = some (aI (39) (upd df (p) (nI (D)))) := hs_s eh_34
  have H_40 : h_34.2 (t + 5) = some (aI (39) (mf)) := (hs_n eh_34 (by omega)).trans H_29
  have H_41 : h_34.2 (t + 6) = some (aI (39) (rf)) := (hs_n eh_34 (by omega)).trans H_30
  have H_42 : h_34.2 (2) = some (oB 0 [.ref (3), .ref (7), .ref (8), .ref (9), .int (nI (β.1)), .int (nI (β.2.1))]) := (hs_n eh_34 (by omega)).trans H_31
  have H_43 : BH h_34 β := by rw [eh_34]; exact BH_set (by omega) H_32
  have H_44 : Fr (t + 1) (t + 5) h h_34 := by rw [eh_34]; exact Fr_st H_33 (by omega) (by omega)
  refine J_aload_n (i := 0) (pc := 36) dX1_putLeaf_36 rfl rfl ?_
  refine J_getf (k := 4) (pc := 37) dX1_putLeaf_37 flX1_24 H_35 rfl ?_
  refine J_iload_n (i := 2) (pc := 40) dX1_putLeaf_40 rfl rfl ?_
  refine J_iload_n (i := 3) (pc := 41) dX1_putLeaf_41 rfl rfl ?_
  refine J_iast (j := p) (pc := 42) dX1_putLeaf_42 H_40 rfl (by omega) (by omega) ?_
  obtain ⟨h_45, eh_45⟩ : ∃ z : MH, z = (h_34.1, hset h_34.2 (t + 5) (aI (39) (upd mf (p) (nI (s))))) := ⟨_, rfl⟩
  refine J_heq (h2 := h_45) eh_45 ?_
  have H_46 : h_45.2 (t) = some (oB 1 [.ref (t + 1), .ref (t + 2), .ref (t + 3), .ref (t + 4), .ref (t + 5), .ref (t + 6), .int (n), .int (pa), .int (le)]) := (hs_n eh_45 (by omega)).trans H_35
  have H_47 : h_45.2 (t + 1) = some (aI (39) (upd cf (p) ((-1)))) := (hs_n eh_45 (by omega)).trans H_36
  have H_48 : h_45.2 (t + 2) = some (aI (39) (upd sf (p) (nI (mostS β s)))) := (hs_n eh_45 (by omega)).trans H_37
  have H_49 : h_45.2 (t + 3) = some (aI (39) (upd gf (p) (nI (cnt (s))))) := (hs_n eh_45 (by omega)).trans H_38
  have H_50 : h_45.2 (t + 4) = some (aI (39) (upd df (p) (nI (D)))) := (hs_n eh_45 (by omega)).trans H_39
  have H_51 : h_45.2 (t + 5) = some (aI (39) (upd mf (p) (nI (s)))) := hs_s eh_45
  have H_52 : h_45.2 (t + 6) = some (aI (39) (rf)) := (hs_n eh_45 (by omega)).trans H_41
  have H_53 : h_45.2 (2) = some (oB 0 [.ref (3), .ref (7), .ref (8), .ref (9), .int (nI (β.1)), .int (nI (β.2.1))]) := (hs_n eh_45 (by omega)).trans H_42
  have H_54 : BH h_45 β := by rw [eh_45]; exact BH_set (by omega) H_43
  have H_55 : Fr (t + 1) (t + 5) h h_45 := by rw [eh_45]; exact Fr_st H_44 (by omega) (by omega)
  refine J_vret (pc := 43) dX1_putLeaf_43 rfl ?_
  exact ⟨rfl, H_55, ⟨H_46, H_47, H_48, H_49, H_50, H_51, H_52⟩⟩
theorem c_copyNode {g : GT} {dd : Nat} {h : MH} {t : Nat} {pa le : Int32} {cf sf gf df mf rf : Nat → Int32} {n : Int32} {p q : Nat} (hT : TO h t n pa le cf sf gf df mf rf) (hp : p < 39) (hq : q < 39) :
    J g dd 0 0 mX1_copyNode 0 (lv_args 0 [.ref t, .int (nI p), .int (nI q)]) [] h (RV (fun h' => Fr (t + 1) (t + 5) h h' ∧ TO h' t n pa le (upd cf q (cf p)) (upd sf q (sf p)) (upd gf q (gf p)) (upd df q (df p)) (upd mf q (mf p)) rf)) := by
  obtain ⟨k0, k1, k2, k3, k4, k5, k6⟩ := id hT
  refine J_aload_n (i := 0) (pc := 0) dX1_copyNode_0 rfl rfl ?_
  refine J_getf (k := 0) (pc := 1) dX1_copyNode_1 flX1_9 k0 rfl ?_
  refine J_iload_n (i := 2) (pc := 4) dX1_copyNode_4 rfl rfl ?_
  refine J_aload_n (i := 0) (pc := 5) dX1_copyNode_5 rfl rfl ?_
  refine J_getf (k := 0) (pc := 6) dX1_copyNode_6 flX1_9 k0 rfl ?_
  refine J_iload_n (i := 1) (pc := 9) dX1_copyNode_9 rfl rfl ?_
  refine J_iald (j := p) (pc := 10) dX1_copyNode_10 k1 rfl (by omega) (by omega) ?_
  refine J_iast (j := q) (pc := 11) dX1_copyNode_11 k1 rfl (by omega) (by omega) ?_
  obtain ⟨h_1, eh_1⟩ : ∃ z : MH, z = (h.1, hset h.2 (t + 1) (aI (39) (upd cf (q) ((cf p))))) := ⟨_, rfl⟩
  refine J_heq (h2 := h_1) eh_1 ?_
  have H_2 : h_1.2 (t) = some (oB 1 [.ref (t + 1), .ref (t + 2), .ref (t + 3), .ref (t + 4), .ref (t + 5), .ref (t + 6), .int (n), .int (pa), .int (le)]) := (hs_n eh_1 (by omega)).trans k0
  have H_3 : h_1.2 (t + 1) = some (aI (39) (upd cf (q) ((cf p)))) := hs_s eh_1
  have H_4 : h_1.2 (t + 2) = some (aI (39) (sf)) := (hs_n eh_1 (by omega)).trans k2
  have H_5 : h_1.2 (t + 3) = some (aI (39) (gf)) := (hs_n eh_1 (by omega)).trans k3
  have H_6 : h_1.2 (t + 4) = some (aI (39) (df)) := (hs_n eh_1 (by omega)).trans k4
  have H_7 : h_1.2 (t + 5) = some (aI (39) (mf)) := (hs_n eh_1 (by omega)).trans k5
  have H_8 : h_1.2 (t + 6) = some (aI (39) (rf)) := (hs_n eh_1 (by omega)).trans k6
  have H_9 : Fr (t + 1) (t + 5) h h_1 := by rw [eh_1]; exact Fr_st Fr_rfl (by omega) (by omega)
  refine J_aload_n (i := 0) (pc := 12) dX1_copyNode_12 rfl rfl ?_
  refine J_getf (k := 1) (pc := 13) dX1_copyNode_13 flX1_15 H_2 rfl ?_
  refine J_iload_n (i := 2) (pc := 16) dX1_copyNode_16 rfl rfl ?_
  refine J_aload_n (i := 0) (pc := 17) dX1_copyNode_17 rfl rfl ?_
  refine J_getf (k := 1) (pc := 18) dX1_copyNode_18 flX1_15 H_2 rfl ?_
  refine J_iload_n (i := 1) (pc := 21) dX1_copyNode_21 rfl rfl ?_
  refine J_iald (j := p) (pc := 22) dX1_copyNode_22 H_4 rfl (by omega) (by omega) ?_
  refine J_iast (j := q) (pc := 23) dX1_copyNode_23 H_4 rfl (by omega) (by omega) ?_
  obtain ⟨h_10, eh_10⟩ : ∃ z : MH, z = (h_1.1, hset h_1.2 (t + 2) (aI (39) (upd sf (q) ((sf p))))) := ⟨_, rfl⟩
  refine J_heq (h2 := h_10) eh_10 ?_
  have H_11 : h_10.2 (t) = some (oB 1 [.ref (t + 1), .ref (t + 2), .ref (t + 3), .ref (t + 4), .ref (t + 5), .ref (t + 6), .int (n), .int (pa), .int (le)]) := (hs_n eh_10 (by omega)).trans H_2
  have H_12 : h_10.2 (t + 1) = some (aI (39) (upd cf (q) ((cf p)))) := (hs_n eh_10 (by omega)).trans H_3
  have H_13 : h_10.2 (t + 2) = some (aI (39) (upd sf (q) ((sf p)))) := hs_s eh_10
  have H_14 : h_10.2 (t + 3) = some (aI (39) (gf)) := (hs_n eh_10 (by omega)).trans H_5
  have H_15 : h_10.2 (t + 4) = some (aI (39) (df)) := (hs_n eh_10 (by omega)).trans H_6
  have H_16 : h_10.2 (t + 5) = some (aI (39) (mf)) := (hs_n eh_10 (by omega)).trans H_7
  have H_17 : h_10.2 (t + 6) = some (aI (39) (rf)) := (hs_n eh_10 (by omega)).trans H_8
  have H_18 : Fr (t + 1) (t + 5) h h_10 := by rw [eh_10]; exact Fr_st H_9 (by omega) (by omega)
  refine J_aload_n (i := 0) (pc := 24) dX1_copyNode_24 rfl rfl ?_
  refine J_getf (k := 2) (pc := 25) dX1_copyNode_25 flX1_18 H_11 rfl ?_
  refine J_iload_n (i := 2) (pc := 28) dX1_copyNode_28 rfl rfl ?_
  refine J_aload_n (i := 0) (pc := 29) dX1_copyNode_29 rfl rfl ?_
  refine J_getf (k := 2) (pc := 30) dX1_copyNode_30 flX1_18 H_11 rfl ?_
  refine J_iload_n (i := 1) (pc := 33) dX1_copyNode_33 rfl rfl ?_
  refine J_iald (j := p) (pc := 34) dX1_copyNode_34 H_14 rfl (by omega) (by omega) ?_
  refine J_iast (j := q) (pc := 35) dX1_copyNode_35 H_14 rfl (by omega) (by omega) ?_
  obtain ⟨h_19, eh_19⟩ : ∃ z : MH, z = (h_10.1, hset h_10.2 (t + 3) (aI (39) (upd gf (q) ((gf p))))) := ⟨_, rfl⟩
  refine J_heq (h2 := h_19) eh_19 ?_
  have H_20 : h_19.2 (t) = some (oB 1 [.ref (t + 1), .ref (t + 2), .ref (t + 3), .ref (t + 4), .ref (t + 5), .ref (t + 6), .int (n), .int (pa), .int (le)]) := (hs_n eh_19 (by omega)).trans H_11
  have H_21 : h_19.2 (t + 1) = some (aI (39) (upd cf (q) ((cf p)))) := (hs_n eh_19 (by omega)).trans H_12
  have H_22 : h_19.2 (t + 2) = some (aI (39) (upd sf (q) ((sf p)))) := (hs_n eh_19 (by omega)).trans H_13
  have H_23 : h_19.2 (t + 3) = some (aI (39) (upd gf (q) ((gf p)))) := hs_s eh_19
  have H_24 : h_19.2 (t + 4) = some (aI (39) (df)) := (hs_n eh_19 (by omega)).trans H_15
  have H_25 : h_19.2 (t + 5) = some (aI (39) (mf)) := (hs_n eh_19 (by omega)).trans H_16
  have H_26 : h_19.2 (t + 6) = some (aI (39) (rf)) := (hs_n eh_19 (by omega)).trans H_17
  have H_27 : Fr (t + 1) (t + 5) h h_19 := by rw [eh_19]; exact Fr_st H_18 (by omega) (by omega)
  refine J_aload_n (i := 0) (pc := 36) dX1_copyNode_36 rfl rfl ?_
  refine J_getf (k := 3) (pc := 37) dX1_copyNode_37 flX1_21 H_20 rfl ?_
  refine J_iload_n (i := 2) (pc := 40) dX1_copyNode_40 rfl rfl ?_
  refine J_aload_n (i := 0) (pc := 41) dX1_copyNode_41 rfl rfl ?_
  refine J_getf (k := 3) (pc := 42) dX1_copyNode_42 flX1_21 H_20 rfl ?_
  refine J_iload_n (i := 1) (pc := 45) dX1_copyNode_45 rfl rfl ?_
  refine J_iald (j := p) (pc := 46) dX1_copyNode_46 H_24 rfl (by omega) (by omega) ?_
  refine J_iast (j := q) (pc := 47) dX1_copyNode_47 H_24 rfl (by omega) (by omega) ?_
  obtain ⟨h_28, eh_28⟩ : ∃ z : MH, z = (h_19.1, hset h_19.2 (t + 4) (aI (39) (upd df (q) ((df p))))) := ⟨_, rfl⟩
  refine J_heq (h2 := h_28) eh_28 ?_
  have H_29 : h_28.2 (t) = some (oB 1 [.ref (t + 1), .ref (t + 2), .ref (t + 3), .ref (t + 4), .ref (t + 5), .ref (t + 6), .int (n), .int (pa), .int (le)]) := (hs_n eh_28 (by omega)).trans H_20
  have H_30 : h_28.2 (t + 1) = some (aI (39) (upd cf (q) ((cf p)))) := (hs_n eh_28 (by omega)).trans H_21
  have H_31 : h_28.2 (t + 2) = some (aI (39) (upd sf (q) ((sf p)))) := (hs_n eh_28 (by omega)).trans H_22
  have H_32 : h_28.2 (t + 3) = some (aI (39) (upd gf (q) ((gf p)))) := (hs_n eh_28 (by omega)).trans H_23
  have H_33 : h_28.2 (t + 4) = some (aI (39) (upd df (q) ((df p)))) := hs_s eh_28
  have H_34 : h_28.2 (t + 5) = some (aI (39) (mf)) := (hs_n eh_28 (by omega)).trans H_25
  have H_35 : h_28.2 (t + 6) = some (aI (39) (rf)) := (hs_n eh_28 (by omega)).trans H_26
  have H_36 : Fr (t + 1) (t + 5) h h_28 := by rw [eh_28]; exact Fr_st H_27 (by omega) (by omega)
  refine J_aload_n (i := 0) (pc := 48) dX1_copyNode_48 rfl rfl ?_
  refine J_getf (k := 4) (pc := 49) dX1_copyNode_49 flX1_24 H_29 rfl ?_
  refine J_iload_n (i := 2) (pc := 52) dX1_copyNode_52 rfl rfl ?_
  refine J_aload_n (i := 0) (pc := 53) dX1_copyNode_53 rfl rfl ?_
  refine J_getf (k := 4) (pc := 54) dX1_copyNode_54 flX1_24 H_29 rfl ?_
  refine J_iload_n (i := 1) (pc := 57) dX1_copyNode_57 rfl rfl ?_
  refine J_iald (j := p) (pc := 58) dX1_copyNode_58 H_34 rfl (by omega) (by omega) ?_
  refine J_iast (j := q) (pc := 59) dX1_copyNode_59 H_34 rfl (by omega) (by omega) ?_
  obtain ⟨h_37, eh_37⟩ : ∃ z : MH, z = (h_28.1, hset h_28.2 (t + 5) (aI (39) (upd mf (q) ((mf p))))) := ⟨_, rfl⟩
  refine J_heq (h2 := h_37) eh_37 ?_
  have H_38 : h_37.2 (t) = some (oB 1 [.ref (t + 1), .ref (t + 2), .ref (t + 3), .ref (t + 4), .ref (t + 5), .ref (t + 6), .int (n), .int (pa), .int (le)]) := (hs_n eh_37 (by omega)).trans H_29
  have H_39 : h_37.2 (t + 1) = some (aI (39) (upd cf (q) ((cf p)))) := (hs_n eh_37 (by omega)).trans H_30
  have H_40 : h_37.2 (t + 2) = some (aI (39) (upd sf (q) ((sf p)))) := (hs_n eh_37 (by omega)).trans H_31
  have H_41 : h_37.2 (t + 3) = some (aI (39) (upd gf (q) ((gf p)))) := (hs_n eh_37 (by omega)).trans H_32
  have H_42 : h_37.2 (t + 4) = some (aI (39) (upd df (q) ((df p)))) := (hs_n eh_37 (by omega)).trans H_33
  have H_43 : h_37.2 (t + 5) = some (aI (39) (upd mf (q) ((mf p)))) := hs_s eh_37
  have H_44 : h_37.2 (t + 6) = some (aI (39) (rf)) := (hs_n eh_37 (by omega)).trans H_35
  have H_45 : Fr (t + 1) (t + 5) h h_37 := by rw [eh_37]; exact Fr_st H_36 (by omega) (by omega)
  refine J_vret (pc := 60) dX1_copyNode_60 rfl ?_
  exact ⟨rfl, H_45, ⟨H_38, H_39, H_40, H_41, H_42, H_43, H_44⟩⟩
theorem c_remember {g : GT} {dd : Nat} {h : MH} {t : Nat} {pa le : Int32} {cf sf gf df mf rf : Nat → Int32} {n pa' le' : Int32} (hT : TO h t n pa le cf sf gf df mf rf) :
    J g dd 0 0 mX1_remember 0 (lv_args 0 [.ref t, .int pa', .int le']) [] h (RV (fun h' => Fr t t h h' ∧ TO h' t n pa' le' cf sf gf df mf rf)) := by
  obtain ⟨k0, k1, k2, k3, k4, k5, k6⟩ := id hT
  refine J_aload_n (i := 0) (pc := 0) dX1_remember_0 rfl rfl ?_
  refine J_iload_n (i := 1) (pc := 1) dX1_remember_1 rfl rfl ?_
  refine J_putf (k := 7) (pc := 2) dX1_remember_2 fpX1_remember_34 (fun g => ⟨rfl, rfl⟩) k0 (Nat.le_of_ble_eq_true rfl) ?_
  obtain ⟨h_1, eh_1⟩ : ∃ z : MH, z = (h.1, hset h.2 (t) (oB 1 [.ref (t + 1), .ref (t + 2), .ref (t + 3), .ref (t + 4), .ref (t + 5), .ref (t + 6), .int (n), .int (pa'), .int (le)])) := ⟨_, rfl⟩
  refine J_heq (h2 := h_1) eh_1 ?_
  have H_2 : h_1.2 (t) = some (oB 1 [.ref (t + 1), .ref (t + 2), .ref (t + 3), .ref (t + 4), .ref (t + 5), .ref (t + 6), .int (n), .int (pa'), .int (le)]) := hs_s eh_1
  have H_3 : h_1.2 (t + 1) = some (aI (39) (cf)) := (hs_n eh_1 (by omega)).trans k1
  have H_4 : h_1.2 (t + 2) = some (aI (39) (sf)) := (hs_n eh_1 (by omega)).trans k2
  have H_5 : h_1.2 (t + 3) = some (aI (39) (gf)) := (hs_n eh_1 (by omega)).trans k3
  have H_6 : h_1.2 (t + 4) = some (aI (39) (df)) := (hs_n eh_1 (by omega)).trans k4
  have H_7 : h_1.2 (t + 5) = some (aI (39) (mf)) := (hs_n eh_1 (by omega)).trans k5
  have H_8 : h_1.2 (t + 6) = some (aI (39) (rf)) := (hs_n eh_1 (by omega)).trans k6
  have H_9 : Fr (t) (t) h h_1 := by rw [eh_1]; exact Fr_st Fr_rfl (by omega) (by omega)
  refine J_aload_n (i := 0) (pc := 5) dX1_remember_5 rfl rfl ?_
  refine J_iload_n (i := 2) (pc := 6) dX1_remember_6 rfl rfl ?_
  refine J_putf (k := 8) (pc := 7) dX1_remember_7 fpX1_remember_37 (fun g => ⟨rfl, rfl⟩) H_2 (Nat.le_of_ble_eq_true rfl) ?_
  obtain ⟨h_10, eh_10⟩ : ∃ z : MH, z = (h_1.1, hset h_1.2 (t) (oB 1 [.ref (t + 1), .ref (t + 2), .ref (t + 3), .ref (t + 4), .ref (t + 5), .ref (t + 6), .int (n), .int (pa'), .int (le')])) := ⟨_, rfl⟩
  refine J_heq (h2 := h_10) eh_10 ?_
  have H_11 : h_10.2 (t) = some (oB 1 [.ref (t + 1), .ref (t + 2), .ref (t + 3), .ref (t + 4), .ref (t + 5), .ref (t + 6), .int (n), .int (pa'), .int (le')]) := hs_s eh_10
  have H_12 : h_10.2 (t + 1) = some (aI (39) (cf)) := (hs_n eh_10 (by omega)).trans H_3
  have H_13 : h_10.2 (t + 2) = some (aI (39) (sf)) := (hs_n eh_10 (by omega)).trans H_4
  have H_14 : h_10.2 (t + 3) = some (aI (39) (gf)) := (hs_n eh_10 (by omega)).trans H_5
  have H_15 : h_10.2 (t + 4) = some (aI (39) (df)) := (hs_n eh_10 (by omega)).trans H_6
  have H_16 : h_10.2 (t + 5) = some (aI (39) (mf)) := (hs_n eh_10 (by omega)).trans H_7
  have H_17 : h_10.2 (t + 6) = some (aI (39) (rf)) := (hs_n eh_10 (by omega)).trans H_8
  have H_18 : Fr (t) (t) h h_10 := by rw [eh_10]; exact Fr_st H_9 (by omega) (by omega)
  refine J_vret (pc := 10) dX1_remember_10 rfl ?_
  exact ⟨rfl, H_18, ⟨H_11, H_12, H_13, H_14, H_15, H_16, H_17⟩⟩

set_option maxHeartbeats 2000000 in
set_option maxRecDepth 20000 in
theorem c_partsTold {g : GT} {dd : Nat} {h : MH} {t : Nat} {pa le : Int32} {cf sf gf df mf rf : Nat → Int32} {n : Nat} {p : Nat} (hT : TO h t (nI n) pa le cf sf gf df mf rf) (hn : n ≤ 39) : J g (dd) 0 0 mX1_partsTold 0 (lv_args 0 [.ref t]) [] h (RI (pa) h) := by
  obtain ⟨k0, k1, k2, k3, k4, k5, k6⟩ := id hT
  refine J_aload_n (i := 0) (pc := 0) dX1_partsTold_0 rfl rfl ?_
  refine J_getf (k := 7) (pc := 1) dX1_partsTold_1 flX1_34 k0 rfl ?_
  refine J_iret (ty := .int) (pc := 4) dX1_partsTold_4 rfl rfl ?_
  exact ⟨rfl, rfl⟩

set_option maxHeartbeats 2000000 in
set_option maxRecDepth 20000 in
theorem c_leftTold {g : GT} {dd : Nat} {h : MH} {t : Nat} {pa le : Int32} {cf sf gf df mf rf : Nat → Int32} {n : Nat} {p : Nat} (hT : TO h t (nI n) pa le cf sf gf df mf rf) (hn : n ≤ 39) : J g (dd) 0 0 mX1_leftTold 0 (lv_args 0 [.ref t]) [] h (RI (le) h) := by
  obtain ⟨k0, k1, k2, k3, k4, k5, k6⟩ := id hT
  refine J_aload_n (i := 0) (pc := 0) dX1_leftTold_0 rfl rfl ?_
  refine J_getf (k := 8) (pc := 1) dX1_leftTold_1 flX1_37 k0 rfl ?_
  refine J_iret (ty := .int) (pc := 4) dX1_leftTold_4 rfl rfl ?_
  exact ⟨rfl, rfl⟩

set_option maxHeartbeats 2000000 in
set_option maxRecDepth 20000 in
theorem c_howManyNodes {g : GT} {dd : Nat} {h : MH} {t : Nat} {pa le : Int32} {cf sf gf df mf rf : Nat → Int32} {n : Nat} {p : Nat} (hT : TO h t (nI n) pa le cf sf gf df mf rf) (hn : n ≤ 39) : J g (dd) 0 0 mX1_howManyNodes 0 (lv_args 0 [.ref t]) [] h (RI (nI n) h) := by
  obtain ⟨k0, k1, k2, k3, k4, k5, k6⟩ := id hT
  refine J_aload_n (i := 0) (pc := 0) dX1_howManyNodes_0 rfl rfl ?_
  refine J_getf (k := 6) (pc := 1) dX1_howManyNodes_1 flX1_30 k0 rfl ?_
  refine J_iret (ty := .int) (pc := 4) dX1_howManyNodes_4 rfl rfl ?_
  exact ⟨rfl, rfl⟩

set_option maxHeartbeats 2000000 in
set_option maxRecDepth 20000 in
theorem c_sortAt {g : GT} {dd : Nat} {h : MH} {t : Nat} {pa le : Int32} {cf sf gf df mf rf : Nat → Int32} {n : Nat} {p : Nat} (hT : TO h t (nI n) pa le cf sf gf df mf rf) (hn : n ≤ 39) (hp : p < n) : J g (dd) 0 0 mX1_sortAt 0 (lv_args 0 [.ref t, .int (nI (p))]) [] h (RI (sf p) h) := by
  obtain ⟨k0, k1, k2, k3, k4, k5, k6⟩ := id hT
  refine J_aload_n (i := 0) (pc := 0) dX1_sortAt_0 rfl rfl ?_
  refine J_getf (k := 1) (pc := 1) dX1_sortAt_1 flX1_15 k0 rfl ?_
  refine J_iload_n (i := 1) (pc := 4) dX1_sortAt_4 rfl rfl ?_
  refine J_iald (j := p) (pc := 5) dX1_sortAt_5 k2 rfl (by omega) (by omega) ?_
  refine J_iret (ty := .int) (pc := 6) dX1_sortAt_6 rfl rfl ?_
  exact ⟨rfl, rfl⟩

set_option maxHeartbeats 2000000 in
set_option maxRecDepth 20000 in
theorem c_grownAt {g : GT} {dd : Nat} {h : MH} {t : Nat} {pa le : Int32} {cf sf gf df mf rf : Nat → Int32} {n : Nat} {p : Nat} (hT : TO h t (nI n) pa le cf sf gf df mf rf) (hn : n ≤ 39) (hp : p < n) : J g (dd) 0 0 mX1_grownAt 0 (lv_args 0 [.ref t, .int (nI (p))]) [] h (RI (gf p) h) := by
  obtain ⟨k0, k1, k2, k3, k4, k5, k6⟩ := id hT
  refine J_aload_n (i := 0) (pc := 0) dX1_grownAt_0 rfl rfl ?_
  refine J_getf (k := 2) (pc := 1) dX1_grownAt_1 flX1_18 k0 rfl ?_
  refine J_iload_n (i := 1) (pc := 4) dX1_grownAt_4 rfl rfl ?_
  refine J_iald (j := p) (pc := 5) dX1_grownAt_5 k3 rfl (by omega) (by omega) ?_
  refine J_iret (ty := .int) (pc := 6) dX1_grownAt_6 rfl rfl ?_
  exact ⟨rfl, rfl⟩

set_option maxHeartbeats 2000000 in
set_option maxRecDepth 20000 in
theorem c_depthAt {g : GT} {dd : Nat} {h : MH} {t : Nat} {pa le : Int32} {cf sf gf df mf rf : Nat → Int32} {n : Nat} {p : Nat} (hT : TO h t (nI n) pa le cf sf gf df mf rf) (hn : n ≤ 39) (hp : p < n) : J g (dd) 0 0 mX1_depthAt 0 (lv_args 0 [.ref t, .int (nI (p))]) [] h (RI (df p) h) := by
  obtain ⟨k0, k1, k2, k3, k4, k5, k6⟩ := id hT
  refine J_aload_n (i := 0) (pc := 0) dX1_depthAt_0 rfl rfl ?_
  refine J_getf (k := 3) (pc := 1) dX1_depthAt_1 flX1_21 k0 rfl ?_
  refine J_iload_n (i := 1) (pc := 4) dX1_depthAt_4 rfl rfl ?_
  refine J_iald (j := p) (pc := 5) dX1_depthAt_5 k4 rfl (by omega) (by omega) ?_
  refine J_iret (ty := .int) (pc := 6) dX1_depthAt_6 rfl rfl ?_
  exact ⟨rfl, rfl⟩
