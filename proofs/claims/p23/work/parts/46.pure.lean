-- of trees alone: nodes and leaves, beans of forks, depths, pruning, being right
theorem nN_lv : ∀ (d : Nat) (t : TR d), nN d t + 1 = 2 * lvT d t
  | 0, _ => rfl
  | d + 1, t => by
    rcases TR_c t with ⟨s, m, rfl⟩ | ⟨s, m, c, l, r, rfl⟩
    · rfl
    · have h1 := nN_lv d l
      have h2 := nN_lv d r
      show 1 + nN d l + nN d r + 1 = 2 * (lvT d l + lvT d r)
      omega
def rtM : (d : Nat) → TR d → Nat
  | 0, t => t.2
  | _ + 1, t => t.1.2
def smT : (d : Nat) → TR d → Prop
  | 0, _ => True
  | _ + 1, (_, none) => True
  | d + 1, ((_, m), some (_, l, r)) => rtM d l + rtM d r = m ∧ smT d l ∧ smT d r
theorem row_m : ∀ (d D : Nat) (t : TR d), (rowT d D t 0).2.2.1 = rtM d t
  | 0, D, (s, m) => rfl
  | d + 1, D, t => by
    rcases TR_c t with ⟨s, m, rfl⟩ | ⟨s, m, c, l, r, rfl⟩ <;> rfl
theorem rtM_gr (β : BT) (le : Nat) : ∀ (d m X : Nat), rtM d (grT β le d m X) = cnt X
  | 0, _, _ => rfl
  | _ + 1, _, _ => rfl
theorem smT_gr (β : BT) (le : Nat) : ∀ (d m X : Nat), smT d (grT β le d m X)
  | 0, m, X => trivial
  | d + 1, m, X => by
    cases m with
    | zero => exact trivial
    | succ m =>
      cases e : bestS β X le with
      | none =>
        rw [gr_n e]
        exact trivial
      | some c =>
        rw [gr_s e]
        refine ⟨?_, smT_gr β le d m _, smT_gr β le d m _⟩
        rw [rtM_gr, rtM_gr]
        exact (cnt_two β X c).symm
theorem rtM_pr (β : BT) : ∀ (d : Nat) (t : TR d) (X : Nat), rtM d (prT β d t X) = rtM d t
  | 0, t, X => rfl
  | d + 1, t, X => by
    rcases TR_c t with ⟨s, m, rfl⟩ | ⟨s, m, c, l, r, rfl⟩ <;> rfl
theorem smT_pr (β : BT) : ∀ (d : Nat) (t : TR d) (X : Nat), smT d t → smT d (prT β d t X)
  | 0, t, X, h => h
  | d + 1, t, X, h => by
    rcases TR_c t with ⟨s, m, rfl⟩ | ⟨s, m, c, l, r, rfl⟩
    · exact h
    · rw [prT]
      split
      · refine ⟨?_, smT_pr β d l _ h.2.1, smT_pr β d r _ h.2.2⟩
        rw [rtM_pr, rtM_pr]
        exact h.1
      · exact trivial
theorem dp_gr (β : BT) (le : Nat) : ∀ (d m X : Nat), dpT d (grT β le d m X) ≤ m
  | 0, m, X => Nat.zero_le _
  | d + 1, m, X => by
    cases m with
    | zero => exact Nat.le_refl _
    | succ m =>
      cases e : bestS β X le with
      | none =>
        rw [gr_n e]
        exact Nat.zero_le _
      | some c =>
        rw [gr_s e]
        have h1 := dp_gr β le d m (X &&& mkC β c)
        have h2 := dp_gr β le d m (sdf X (X &&& mkC β c))
        show 1 + max (dpT d _) (dpT d _) ≤ m + 1
        omega
/-- rows of a fork's parts -/
theorem row_l {d D q : Nat} {a : Nat × Nat} {c : Nat} {l r : TR d} (h : q < nN d l) : rowT (d + 1) D (a, some (c, l, r)) (q + 1) = rowT d (D + 1) l q := by
  show (if q < nN d l then rowT d (D + 1) l q else rowT d (D + 1) r (q - nN d l)) = _
  rw [if_pos h]
theorem row_r {d D q z : Nat} {a : Nat × Nat} {c : Nat} {l r : TR d} (h : z = nN d l + q) : rowT (d + 1) D (a, some (c, l, r)) (z + 1) = rowT d (D + 1) r q := by
  subst h
  show (if nN d l + q < nN d l then rowT d (D + 1) l (nN d l + q) else rowT d (D + 1) r (nN d l + q - nN d l)) = _
  rw [if_neg (by omega), show nN d l + q - nN d l = q by omega]
/-- what holds of the node at a place -/
def NF (d D : Nat) (t : TR d) (q : Nat) : Prop :=
  ((rowT d D t q).1 = none ∧ hiT d t q = none) ∨
  ∃ c z, (rowT d D t q).1 = some c ∧ hiT d t q = some z ∧ q + 1 < nN d t ∧ z < nN d t ∧ (rowT d D t (q + 1)).2.2.1 + (rowT d D t z).2.2.1 = (rowT d D t q).2.2.1 ∧ (rowT d D t (q + 1)).2.2.2 = (rowT d D t q).2.2.2 + 1 ∧ (rowT d D t z).2.2.2 = (rowT d D t (q + 1)).2.2.2
theorem NF_all : ∀ (d D : Nat) (t : TR d) (q : Nat), smT d t → q < nN d t → NF d D t q
  | 0, D, (s, m), q, _, hq => Or.inl ⟨rfl, rfl⟩
  | d + 1, D, t, q, hs, hq => by
    rcases TR_c t with ⟨s, m, rfl⟩ | ⟨s, m, c, l, r, rfl⟩
    · exact Or.inl ⟨rfl, rfl⟩
    · have n1 := nN_pos d l
      have n2 := nN_pos d r
      rw [nN_f] at hq
      cases q with
      | zero =>
        refine Or.inr ⟨c, 1 + nN d l, rfl, rfl, by rw [nN_f]; omega, by rw [nN_f]; omega, ?_, ?_, ?_⟩
        · rw [row_l n1, show 1 + nN d l = nN d l + 1 by omega, row_r (z := nN d l) (q := 0) rfl, row_m, row_m]
          exact hs.1
        · rw [row_l n1, row_root]
          rfl
        · rw [row_l n1, show 1 + nN d l = nN d l + 1 by omega, row_r (z := nN d l) (q := 0) rfl, row_root, row_root]
      | succ q =>
        by_cases h : q < nN d l
        · have hh : hiT (d + 1) ((s, m), some (c, l, r)) (q + 1) = (hiT d l q).map (fun z => z + 1) := by
            show (if q < nN d l then _ else _) = _
            rw [if_pos h]
          rcases NF_all d (D + 1) l q hs.2.1 h with ⟨e1, e2⟩ | ⟨c', z, e1, e2, e3, e4, e5, e6, e7⟩
          · refine Or.inl ⟨by rw [row_l h]; exact e1, by rw [hh, e2]; rfl⟩
          · refine Or.inr ⟨c', z + 1, by rw [row_l h]; exact e1, by rw [hh, e2]; rfl, by rw [nN_f]; omega, by rw [nN_f]; omega, ?_, ?_, ?_⟩
            · rw [row_l h, row_l e3, row_l e4]
              exact e5
            · rw [row_l h, row_l e3]
              exact e6
            · rw [row_l e3, row_l e4]
              exact e7
        · have hh : hiT (d + 1) ((s, m), some (c, l, r)) (q + 1) = (hiT d r (q - nN d l)).map (fun z => z + (1 + nN d l)) := by
            show (if q < nN d l then _ else _) = _
            rw [if_neg h]
          rcases NF_all d (D + 1) r (q - nN d l) hs.2.2 (by omega) with ⟨e1, e2⟩ | ⟨c', z, e1, e2, e3, e4, e5, e6, e7⟩
          · refine Or.inl ⟨by rw [row_r (z := q) (q := q - nN d l) (by omega)]; exact e1, by rw [hh, e2]; rfl⟩
          · refine Or.inr ⟨c', z + (1 + nN d l), by rw [row_r (z := q) (q := q - nN d l) (by omega)]; exact e1, by rw [hh, e2]; rfl, by rw [nN_f]; omega, by rw [nN_f]; omega, ?_, ?_, ?_⟩
            · rw [row_r (z := q) (q := q - nN d l) (by omega), row_r (z := q + 1) (q := q - nN d l + 1) (by omega), show z + (1 + nN d l) = nN d l + z + 1 by omega, row_r (z := nN d l + z) (q := z) rfl]
              exact e5
            · rw [row_r (z := q) (q := q - nN d l) (by omega), row_r (z := q + 1) (q := q - nN d l + 1) (by omega)]
              exact e6
            · rw [row_r (z := q + 1) (q := q - nN d l + 1) (by omega), show z + (1 + nN d l) = nN d l + z + 1 by omega, row_r (z := nN d l + z) (q := z) rfl]
              exact e7
/-- pruning -/
theorem rg_pr (β : BT) : ∀ (d : Nat) (t : TR d) (X : Nat), rgT β d t X ≤ rgT β d (prT β d t X) X
  | 0, t, X => Nat.le_refl _
  | d + 1, t, X => by
    rcases TR_c t with ⟨s, m, rfl⟩ | ⟨s, m, c, l, r, rfl⟩
    · exact Nat.le_refl _
    · have h1 := rg_pr β d l (X &&& mkC β c)
      have h2 := rg_pr β d r (sdf X (X &&& mkC β c))
      rw [prT]
      split
      · show rgT β d l _ + rgT β d r _ ≤ rgT β d _ _ + rgT β d _ _
        omega
      · rename_i h
        show rgT β d l _ + rgT β d r _ ≤ ofS β X s
        have h3 : ¬ ofS β X s < rgT β d (prT β d l (X &&& mkC β c)) (X &&& mkC β c) + rgT β d (prT β d r (sdf X (X &&& mkC β c))) (sdf X (X &&& mkC β c)) := h
        omega
theorem nN_tu (β : BT) : ∀ (d : Nat) (t : TR d) (X : Nat), (tuP β d t X = 0 → nN d (prT β d t X) = nN d t) ∧ (1 ≤ tuP β d t X → nN d (prT β d t X) + 2 ≤ nN d t)
  | 0, t, X => ⟨fun _ => rfl, fun h => absurd h (by show ¬ 1 ≤ 0; omega)⟩
  | d + 1, t, X => by
    rcases TR_c t with ⟨s, m, rfl⟩ | ⟨s, m, c, l, r, rfl⟩
    · exact ⟨fun _ => rfl, fun h => absurd h (by show ¬ 1 ≤ 0; omega)⟩
    · have h1 := nN_tu β d l (X &&& mkC β c)
      have h2 := nN_tu β d r (sdf X (X &&& mkC β c))
      have n1 := nN_pos d l
      have n2 := nN_pos d r
      have l1 := nN_pr β d l (X &&& mkC β c)
      have l2 := nN_pr β d r (sdf X (X &&& mkC β c))
      rw [prT, tuP]
      split
      · rw [nN_f, nN_f]
        refine ⟨fun h => ?_, fun h => ?_⟩
        · rw [h1.1 (by omega), h2.1 (by omega)]
        · rcases Nat.eq_zero_or_pos (tuP β d l (X &&& mkC β c)) with e | e
          · have := h2.2 (by omega)
            omega
          · have := h1.2 e
            omega
      · rw [nN_f]
        refine ⟨fun h => absurd h (by omega), fun h => ?_⟩
        show 1 + 2 ≤ _
        omega
theorem tu_le (β : BT) : ∀ (d : Nat) (t : TR d) (X : Nat), tuP β d t X ≤ nN d t
  | 0, t, X => Nat.zero_le _
  | d + 1, t, X => by
    rcases TR_c t with ⟨s, m, rfl⟩ | ⟨s, m, c, l, r, rfl⟩
    · exact Nat.zero_le _
    · have h1 := tu_le β d l (X &&& mkC β c)
      have h2 := tu_le β d r (sdf X (X &&& mkC β c))
      rw [tuP, nN_f]
      split <;> omega
/-- a tree as it was grown is right about as many as are of one sort -/
theorem of_split (β : BT) (X c s : Nat) : ofS β (X &&& mkC β c) s + ofS β (sdf X (X &&& mkC β c)) s = ofS β X s := by
  unfold ofS cnt
  apply pcn_add
  intro k _
  simp only [Nat.testBit_and, sdf_bit]
  cases X.testBit k <;> cases (mkC β c).testBit k <;> cases (mkS β s).testBit k <;> rfl
theorem most_max (β : BT) (X : Nat) : ∀ s, s ≤ 2 → ofS β X s ≤ ofS β X (mostS β X) := by
  intro s hs
  have h : s = 0 ∨ s = 1 ∨ s = 2 := by omega
  unfold mostS mostA
  by_cases a : ofS β X 0 < ofS β X 1
  · simp only [if_pos a]
    by_cases b : ofS β X 1 < ofS β X 2
    · rw [if_pos b]
      rcases h with rfl | rfl | rfl <;> omega
    · rw [if_neg b]
      rcases h with rfl | rfl | rfl <;> omega
  · simp only [if_neg a]
    by_cases b : ofS β X 0 < ofS β X 2
    · rw [if_pos b]
      rcases h with rfl | rfl | rfl <;> omega
    · rw [if_neg b]
      rcases h with rfl | rfl | rfl <;> omega
theorem rg_gr (β : BT) (le s : Nat) (hs : s ≤ 2) : ∀ (d m X : Nat), ofS β X s ≤ rgT β d (grT β le d m X) X
  | 0, m, X => most_max β X s hs
  | d + 1, m, X => by
    cases m with
    | zero => exact most_max β X s hs
    | succ m =>
      cases e : bestS β X le with
      | none =>
        rw [gr_n e]
        exact most_max β X s hs
      | some c =>
        rw [gr_s e]
        have h1 := rg_gr β le s hs d m (X &&& mkC β c)
        have h2 := rg_gr β le s hs d m (sdf X (X &&& mkC β c))
        have h3 := of_split β X c s
        show _ ≤ rgT β d _ _ + rgT β d _ _
        omega
theorem row_gr (β : BT) (le D : Nat) : ∀ (d m X : Nat), (rowT d D (grT β le d m X) 0).2.1 = mostS β X ∧ (rowT d D (grT β le d m X) 0).2.2.1 = cnt X
  | 0, m, X => ⟨rfl, rfl⟩
  | d + 1, m, X => by
    cases m with
    | zero => exact ⟨rfl, rfl⟩
    | succ m =>
      cases e : bestS β X le with
      | none =>
        rw [gr_n e]
        exact ⟨rfl, rfl⟩
      | some c =>
        rw [gr_s e]
        exact ⟨rfl, rfl⟩
/-- how many beans are for growing -/
theorem cnt_full : ∀ n, n ≤ 20 → cnt (2 ^ n - 1) = n := by
  have key : ∀ n, n < 21 → cnt (2 ^ n - 1) = n := by decide +kernel
  intro n hn
  exact key n (by omega)
theorem gro_cnt {β : BT} (hW : WF β) : cnt (gro β) + cnt β.2.1 = β.1 := by
  have h1 := cnt_split (2 ^ β.1 - 1) β.2.1
  have h2 : (2 ^ β.1 - 1) &&& β.2.1 = β.2.1 := by
    apply Nat.eq_of_testBit_eq
    intro k
    rw [Nat.testBit_and, Nat.testBit_two_pow_sub_one]
    by_cases hk : k < β.1
    · simp [hk]
    · have : β.2.1 < 2 ^ k := Nat.lt_of_lt_of_le hW.2.1 (Nat.pow_le_pow_right (by decide) (by omega))
      rw [Nat.testBit_lt_two_pow this, Bool.and_false]
  rw [h2, cnt_full β.1 hW.1] at h1
  unfold gro
  omega
theorem gb_all : ∀ (k b s : Nat), gbF 1 (-1) k b s = s
  | 0, _, _ => rfl
  | k + 1, b, s => by
    rw [gbF, Nat.mod_one, if_neg (by decide)]
    exact gb_all k (b + 1) s
theorem gbS_all (β : BT) : gbS β 1 (-1) = gro β := gb_all β.1 0 (gro β)
/-- beans for growing of a sort, counted one by one -/
def owF (β : BT) (s k : Nat) : Nat := pcn (gro β &&& mkS β s) k
theorem owF_s {β : BT} {s k : Nat} (hk : k < β.1) : owF β s (k + 1) = owF β s k + (if β.2.1.testBit k = false ∧ β.2.2.2 k = s then 1 else 0) := by
  unfold owF
  rw [pcn, Nat.testBit_and, gro_bit, mkS, msk_bit]
  simp only [hk, decide_true, Bool.true_and]
  congr 1
  cases β.2.1.testBit k <;> by_cases e : β.2.2.2 k = s <;> simp [e]
theorem owF_all {β : BT} (hW : WF β) (s : Nat) : owF β s β.1 = ofS β (gro β) s := by
  unfold owF ofS cnt
  have h : gro β &&& mkS β s < 2 ^ β.1 := Nat.lt_of_le_of_lt Nat.and_le_right (msk_lt _ _)
  have := pcn_up h (20 - β.1)
  have hn := hW.1
  rw [show β.1 + (20 - β.1) = 20 by omega] at this
  exact this.symm
theorem owF_le (β : BT) (s k : Nat) : owF β s k ≤ k := pcn_le _ _
