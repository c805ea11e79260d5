-- dropping the nodes below new leaves; pruning as a whole
set_option maxHeartbeats 2000000 in
set_option maxRecDepth 20000 in
theorem dr_skip {g : GT} {dd : Nat} {h : MH} {t : Nat} {pa le : Int32} {cf sf gf df mf rf : Nat → Int32} {n k K : Nat} {Q : RT → MH → Prop} (hT : TO h t (nI n) pa le cf sf gf df mf rf) (hn : n ≤ 39) (hK : K < 1000) : ∀ (m p : Nat), (∀ q, q < m → ∃ x, df (p + q) = nI x ∧ K < x ∧ x < 1000) → p + m ≤ n → J g dd 0 0 mX1_dropNodesBelowLeaves 6 [(3, .int (nI (p + m))), (1, .int (nI (k))), (2, .int (nI (K))), (0, .ref (t))] [] h Q → J g dd 0 0 mX1_dropNodesBelowLeaves 6 [(3, .int (nI (p))), (1, .int (nI (k))), (2, .int (nI (K))), (0, .ref (t))] [] h Q := by
  obtain ⟨k0, k1, k2, k3, k4, k5, k6⟩ := id hT
  intro m
  induction m with
  | zero =>
    intro p hx hp hk
    exact hk
  | succ m ih =>
    intro p hx hp hk
    obtain ⟨x, x1, x2, x3⟩ := hx 0 (by omega)
    refine J_iload_n (i := 3) (pc := 6) dX1_dropNodesBelowLeaves_6 rfl rfl ?_
    refine J_aload_n (i := 0) (pc := 7) dX1_dropNodesBelowLeaves_7 rfl rfl ?_
    refine J_getf (k := 6) (pc := 8) dX1_dropNodesBelowLeaves_8 flX1_30 k0 rfl ?_
    refine J_icmp_geN (tgt := 59) (pc := 11) dX1_dropNodesBelowLeaves_11 (by decide) (by omega) (by omega) (fun c11 => by exfalso; first | omega | simp_all) (fun c11 => ?_)
    refine J_aload_n (i := 0) (pc := 14) dX1_dropNodesBelowLeaves_14 rfl rfl ?_
    refine J_getf (k := 3) (pc := 15) dX1_dropNodesBelowLeaves_15 flX1_21 k0 rfl ?_
    refine J_iload_n (i := 3) (pc := 18) dX1_dropNodesBelowLeaves_18 rfl rfl ?_
    refine J_iald (j := p) (pc := 19) dX1_dropNodesBelowLeaves_19 k4 rfl (by omega) (by omega) ?_
    rw [show df p = nI (x) from x1]
    refine J_iload_n (i := 2) (pc := 20) dX1_dropNodesBelowLeaves_20 rfl rfl ?_
    refine J_icmp_gtN (tgt := 53) (pc := 21) dX1_dropNodesBelowLeaves_21 (by decide) (by omega) (by omega) (fun c21 => ?_) (fun c21 => by exfalso; first | omega | simp_all)
    refine J_iinc (i := 3) (v := nI (p + 1)) (lv' := [(3, .int (nI (p + 1))), (1, .int (nI (k))), (2, .int (nI (K))), (0, .ref (t))]) (pc := 53) dX1_dropNodesBelowLeaves_53 rfl (nI_add (p) 1) (by decide) rfl ?_
    refine J_goto (tgt := 6) (pc := 56) dX1_dropNodesBelowLeaves_56 (by decide) ?_
    refine J_sub (lv' := [(3, .int (nI (p + 1))), (1, .int (nI (k))), (2, .int (nI (K))), (0, .ref (t))]) [0, 1, 2, 3] rfl ?_
    refine ih (p + 1) ?_ (by omega) ?_
    · intro q hq
      have r9 := hx (q + 1) (by omega)
      rw [show p + (q + 1) = p + 1 + q by omega] at r9
      exact r9
    · rw [show p + 1 + m = p + (m + 1) by omega]
      exact hk

def MB (β : BT) (G : Nat → Q4) (p d D : Nat) (t : TR d) (X : Nat) : Prop := ∀ q, q < nN d t → G (p + q) = E4 (cuP β d t X q, (rowT d D t q).2)
theorem MB_l {β : BT} {G : Nat → Q4} {p d D s m c X : Nat} {l r : TR d} (h : MB β G p (d + 1) D ((s, m), some (c, l, r)) X) : MB β G (p + 1) d (D + 1) l (X &&& mkC β c) ∧ MB β G (p + 1 + nN d l) d (D + 1) r (sdf X (X &&& mkC β c)) := by
  refine ⟨?_, ?_⟩
  · intro q hq
    have h1 := h (q + 1) (by rw [nN_f]; omega)
    rw [show p + (q + 1) = p + 1 + q by omega, cuP, rowT, if_pos hq, if_pos hq] at h1
    exact h1
  · intro q hq
    have h1 := h (nN d l + q + 1) (by rw [nN_f]; omega)
    rw [show p + (nN d l + q + 1) = p + 1 + nN d l + q by omega, cuP, rowT, if_neg (by omega), if_neg (by omega), show nN d l + q - nN d l = q by omega] at h1
    exact h1
theorem MB_congr {β : BT} {G G' : Nat → Q4} {p d D X : Nat} {t : TR d} (h : MB β G p d D t X) (e : ∀ q, q < nN d t → G' (p + q) = G (p + q)) : MB β G' p d D t X := fun q hq => (e q hq).trans (h q hq)
theorem up4 {cf sf gf df : Nat → Int32} {k : Nat} {a b c d : Int32} : G4 (upd cf k a) (upd sf k b) (upd gf k c) (upd df k d) k = (a, b, c, d) := by
  show (_, _, _, _) = _
  rw [pk_us, pk_us, pk_us, pk_us]
theorem up4n {cf sf gf df : Nat → Int32} {k q : Nat} {a b c d : Int32} (h : q ≠ k) : G4 (upd cf k a) (upd sf k b) (upd gf k c) (upd df k d) q = G4 cf sf gf df q := by
  show (_, _, _, _) = (_, _, _, _)
  rw [pk_un h, pk_un h, pk_un h, pk_un h]

set_option maxHeartbeats 2000000 in
set_option maxRecDepth 20000 in
theorem dr_keep {g : GT} {dd : Nat} {β : BT} {t n : Nat} {pa le : Int32} {rf : Nat → Int32} {Q : RT → MH → Prop} (hn : n ≤ 39) : ∀ (d D : Nat) (tr : TR d) (p k K X : Nat) (h : MH) (cf sf gf df mf : Nat → Int32), TO h t (nI n) pa le cf sf gf df mf rf → MB β (G4 cf sf gf df) p d D tr X → okT d tr → D + d ≤ 5 → D ≤ K → K ≤ 5 → k ≤ p → p + nN d tr ≤ n →
    (∀ h' cf' sf' gf' df' mf' K', Fr (t + 1) (t + 5) h h' → TO h' t (nI n) pa le cf' sf' gf' df' mf' rf → Blk (G4 cf' sf' gf' df') k d D (prT β d tr X) → (∀ q, q < k ∨ p + nN d tr ≤ q → G4 cf' sf' gf' df' q = G4 cf sf gf df q) → D ≤ K' → K' ≤ 5 → J g (dd + 1) 0 0 mX1_dropNodesBelowLeaves 6 [(3, .int (nI (p + nN d tr))), (1, .int (nI (k + nN d (prT β d tr X)))), (2, .int (nI (K'))), (0, .ref (t))] [] h' Q) → J g (dd + 1) 0 0 mX1_dropNodesBelowLeaves 6 [(3, .int (nI (p))), (1, .int (nI (k))), (2, .int (nI (K))), (0, .ref (t))] [] h Q := by
  intro d
  induction d with
  | zero =>
    intro D tr p k K X h cf sf gf df mf hT hM ok hD hK hK5 hkp hp hk
    obtain ⟨s, m⟩ := tr
    · skip
      obtain ⟨k0, k1, k2, k3, k4, k5, k6⟩ := id hT
      have hp2 : p + 1 ≤ n := hp
      have b0 : G4 cf sf gf df p = (-1, nI s, nI m, nI D) := hM 0 Nat.one_pos
      have e1 : cf p = -1 := congrArg (fun q : Q4 => q.1) b0
      have e4 : df p = nI D := congrArg (fun q : Q4 => q.2.2.2) b0
      refine J_iload_n (i := 3) (pc := 6) dX1_dropNodesBelowLeaves_6 rfl rfl ?_
      refine J_aload_n (i := 0) (pc := 7) dX1_dropNodesBelowLeaves_7 rfl rfl ?_
      refine J_getf (k := 6) (pc := 8) dX1_dropNodesBelowLeaves_8 flX1_30 k0 rfl ?_
      refine J_icmp_geN (tgt := 59) (pc := 11) dX1_dropNodesBelowLeaves_11 (by decide) (by omega) (by omega) (fun c11 => by exfalso; first | omega | simp_all) (fun c11 => ?_)
      refine J_aload_n (i := 0) (pc := 14) dX1_dropNodesBelowLeaves_14 rfl rfl ?_
      refine J_getf (k := 3) (pc := 15) dX1_dropNodesBelowLeaves_15 flX1_21 k0 rfl ?_
      refine J_iload_n (i := 3) (pc := 18) dX1_dropNodesBelowLeaves_18 rfl rfl ?_
      refine J_iald (j := p) (pc := 19) dX1_dropNodesBelowLeaves_19 k4 rfl (by omega) (by omega) ?_
      rw [show df p = nI (D) from e4]
      refine J_iload_n (i := 2) (pc := 20) dX1_dropNodesBelowLeaves_20 rfl rfl ?_
      refine J_icmp_gtN (tgt := 53) (pc := 21) dX1_dropNodesBelowLeaves_21 (by decide) (by omega) (by omega) (fun c21 => by exfalso; first | omega | simp_all) (fun c21 => ?_)
      refine J_aload_n (i := 0) (pc := 24) dX1_dropNodesBelowLeaves_24 rfl rfl ?_
      refine J_getf (k := 0) (pc := 25) dX1_dropNodesBelowLeaves_25 flX1_9 k0 rfl ?_
      refine J_iload_n (i := 3) (pc := 28) dX1_dropNodesBelowLeaves_28 rfl rfl ?_
      refine J_iald (j := p) (pc := 29) dX1_dropNodesBelowLeaves_29 k1 rfl (by omega) (by omega) ?_
      rw [show cf p = (-1) from e1]
      refine J_if_ge (tgt := 42) (pc := 30) dX1_dropNodesBelowLeaves_30 (by decide) (fun c30 => absurd c30 (by decide)) (fun c30 => ?_)
      refine J_aload_n (i := 0) (pc := 33) dX1_dropNodesBelowLeaves_33 rfl rfl ?_
      refine J_getf (k := 3) (pc := 34) dX1_dropNodesBelowLeaves_34 flX1_21 k0 rfl ?_
      refine J_iload_n (i := 3) (pc := 37) dX1_dropNodesBelowLeaves_37 rfl rfl ?_
      refine J_iald (j := p) (pc := 38) dX1_dropNodesBelowLeaves_38 k4 rfl (by omega) (by omega) ?_
      rw [show df p = nI (D) from e4]
      refine J_goto (tgt := 43) (pc := 39) dX1_dropNodesBelowLeaves_39 (by decide) ?_
      refine J_istore_n (i := 2) (lv' := [(2, .int (nI (D))), (3, .int (nI (p))), (1, .int (nI (k))), (0, .ref (t))]) (pc := 43) dX1_dropNodesBelowLeaves_43 rfl (by decide) rfl ?_
      refine J_aload_n (i := 0) (pc := 44) dX1_dropNodesBelowLeaves_44 rfl rfl ?_
      refine J_iload_n (i := 3) (pc := 45) dX1_dropNodesBelowLeaves_45 rfl rfl ?_
      refine J_iload_n (i := 1) (pc := 46) dX1_dropNodesBelowLeaves_46 rfl rfl ?_
      refine J_cVv (st := []) (As := [.int (nI (p)), .int (nI (k))]) (pc := 47) dX1_dropNodesBelowLeaves_47 okX1_copyNode q1_220 q1_222 qs1_5 (rfl : vwCl[1]? = some _) k0 rfl (Nat.le_of_ble_eq_true rfl) (Nat.le_of_ble_eq_true rfl) (c_copyNode ⟨k0, k1, k2, k3, k4, k5, k6⟩ (by omega) (by omega)) (fun h_1 q_2 => ?_)
      obtain ⟨x_10, y_3, y_4, y_5, y_6, y_7, y_8, y_9⟩ := q_2
      have H_11 : Fr (t + 1) (t + 5) h h_1 := Fr_tr Fr_rfl (Fr_up x_10 (by omega) (by omega))
      refine J_iinc (i := 1) (v := nI (k + 1)) (lv' := [(1, .int (nI (k + 1))), (2, .int (nI (D))), (3, .int (nI (p))), (0, .ref (t))]) (pc := 50) dX1_dropNodesBelowLeaves_50 rfl (nI_add (k) 1) (by decide) rfl ?_
      refine J_iinc (i := 3) (v := nI (p + 1)) (lv' := [(3, .int (nI (p + 1))), (1, .int (nI (k + 1))), (2, .int (nI (D))), (0, .ref (t))]) (pc := 53) dX1_dropNodesBelowLeaves_53 rfl (nI_add (p) 1) (by decide) rfl ?_
      refine J_goto (tgt := 6) (pc := 56) dX1_dropNodesBelowLeaves_56 (by decide) ?_
      refine J_sub (lv' := [(3, .int (nI (p + 1))), (1, .int (nI (k + 1))), (2, .int (nI (D))), (0, .ref (t))]) [0, 1, 2, 3] rfl ?_
      refine hk h_1 _ _ _ _ _ D H_11 ⟨y_3, y_4, y_5, y_6, y_7, y_8, y_9⟩ (Blk_mk0 (by rw [up4]; exact b0)) ?_ (Nat.le_refl D) (by omega)
      intro q hq
      have hq2 : q < k ∨ p + 1 ≤ q := hq
      exact up4n (by omega)
  | succ d ih =>
    intro D tr p k K X h cf sf gf df mf hT hM ok hD hK hK5 hkp hp hk
    rcases TR_c tr with ⟨s, m, rfl⟩ | ⟨s, m, c, l, r, rfl⟩
    · skip
      obtain ⟨k0, k1, k2, k3, k4, k5, k6⟩ := id hT
      have hp2 : p + 1 ≤ n := hp
      have b0 : G4 cf sf gf df p = (-1, nI s, nI m, nI D) := hM 0 Nat.one_pos
      have e1 : cf p = -1 := congrArg (fun q : Q4 => q.1) b0
      have e4 : df p = nI D := congrArg (fun q : Q4 => q.2.2.2) b0
      refine J_iload_n (i := 3) (pc := 6) dX1_dropNodesBelowLeaves_6 rfl rfl ?_
      refine J_aload_n (i := 0) (pc := 7) dX1_dropNodesBelowLeaves_7 rfl rfl ?_
      refine J_getf (k := 6) (pc := 8) dX1_dropNodesBelowLeaves_8 flX1_30 k0 rfl ?_
      refine J_icmp_geN (tgt := 59) (pc := 11) dX1_dropNodesBelowLeaves_11 (by decide) (by omega) (by omega) (fun c11 => by exfalso; first | omega | simp_all) (fun c11 => ?_)
      refine J_aload_n (i := 0) (pc := 14) dX1_dropNodesBelowLeaves_14 rfl rfl ?_
      refine J_getf (k := 3) (pc := 15) dX1_dropNodesBelowLeaves_15 flX1_21 k0 rfl ?_
      refine J_iload_n (i := 3) (pc := 18) dX1_dropNodesBelowLeaves_18 rfl rfl ?_
      refine J_iald (j := p) (pc := 19) dX1_dropNodesBelowLeaves_19 k4 rfl (by omega) (by omega) ?_
      rw [show df p = nI (D) from e4]
      refine J_iload_n (i := 2) (pc := 20) dX1_dropNodesBelowLeaves_20 rfl rfl ?_
      refine J_icmp_gtN (tgt := 53) (pc := 21) dX1_dropNodesBelowLeaves_21 (by decide) (by omega) (by omega) (fun c21 => by exfalso; first | omega | simp_all) (fun c21 => ?_)
      refine J_aload_n (i := 0) (pc := 24) dX1_dropNodesBelowLeaves_24 rfl rfl ?_
      refine J_getf (k := 0) (pc := 25) dX1_dropNodesBelowLeaves_25 flX1_9 k0 rfl ?_
      refine J_iload_n (i := 3) (pc := 28) dX1_dropNodesBelowLeaves_28 rfl rfl ?_
      refine J_iald (j := p) (pc := 29) dX1_dropNodesBelowLeaves_29 k1 rfl (by omega) (by omega) ?_
      rw [show cf p = (-1) from e1]
      refine J_if_ge (tgt := 42) (pc := 30) dX1_dropNodesBelowLeaves_30 (by decide) (fun c30 => absurd c30 (by decide)) (fun c30 => ?_)
      refine J_aload_n (i := 0) (pc := 33) dX1_dropNodesBelowLeaves_33 rfl rfl ?_
      refine J_getf (k := 3) (pc := 34) dX1_dropNodesBelowLeaves_34 flX1_21 k0 rfl ?_
      refine J_iload_n (i := 3) (pc := 37) dX1_dropNodesBelowLeaves_37 rfl rfl ?_
      refine J_iald (j := p) (pc := 38) dX1_dropNodesBelowLeaves_38 k4 rfl (by omega) (by omega) ?_
      rw [show df p = nI (D) from e4]
      refine J_goto (tgt := 43) (pc := 39) dX1_dropNodesBelowLeaves_39 (by decide) ?_
      refine J_istore_n (i := 2) (lv' := [(2, .int (nI (D))), (3, .int (nI (p))), (1, .int (nI (k))), (0, .ref (t))]) (pc := 43) dX1_dropNodesBelowLeaves_43 rfl (by decide) rfl ?_
      refine J_aload_n (i := 0) (pc := 44) dX1_dropNodesBelowLeaves_44 rfl rfl ?_
      refine J_iload_n (i := 3) (pc := 45) dX1_dropNodesBelowLeaves_45 rfl rfl ?_
      refine J_iload_n (i := 1) (pc := 46) dX1_dropNodesBelowLeaves_46 rfl rfl ?_
      refine J_cVv (st := []) (As := [.int (nI (p)), .int (nI (k))]) (pc := 47) dX1_dropNodesBelowLeaves_47 okX1_copyNode q1_220 q1_222 qs1_5 (rfl : vwCl[1]? = some _) k0 rfl (Nat.le_of_ble_eq_true rfl) (Nat.le_of_ble_eq_true rfl) (c_copyNode ⟨k0, k1, k2, k3, k4, k5, k6⟩ (by omega) (by omega)) (fun h_1 q_2 => ?_)
      obtain ⟨x_10, y_3, y_4, y_5, y_6, y_7, y_8, y_9⟩ := q_2
      have H_11 : Fr (t + 1) (t + 5) h h_1 := Fr_tr Fr_rfl (Fr_up x_10 (by omega) (by omega))
      refine J_iinc (i := 1) (v := nI (k + 1)) (lv' := [(1, .int (nI (k + 1))), (2, .int (nI (D))), (3, .int (nI (p))), (0, .ref (t))]) (pc := 50) dX1_dropNodesBelowLeaves_50 rfl (nI_add (k) 1) (by decide) rfl ?_
      refine J_iinc (i := 3) (v := nI (p + 1)) (lv' := [(3, .int (nI (p + 1))), (1, .int (nI (k + 1))), (2, .int (nI (D))), (0, .ref (t))]) (pc := 53) dX1_dropNodesBelowLeaves_53 rfl (nI_add (p) 1) (by decide) rfl ?_
      refine J_goto (tgt := 6) (pc := 56) dX1_dropNodesBelowLeaves_56 (by decide) ?_
      refine J_sub (lv' := [(3, .int (nI (p + 1))), (1, .int (nI (k + 1))), (2, .int (nI (D))), (0, .ref (t))]) [0, 1, 2, 3] rfl ?_
      refine hk h_1 _ _ _ _ _ D H_11 ⟨y_3, y_4, y_5, y_6, y_7, y_8, y_9⟩ (Blk_mkl (by rw [up4]; exact b0)) ?_ (Nat.le_refl D) (by omega)
      intro q hq
      have hq2 : q < k ∨ p + 1 ≤ q := hq
      exact up4n (by omega)
    · obtain ⟨k0, k1, k2, k3, k4, k5, k6⟩ := id hT
      have n1 := nN_pos d l
      have n2 := nN_pos d r
      have hp2 : p + (1 + nN d l + nN d r) ≤ n := hp
      obtain ⟨mb1, mb2⟩ := MB_l hM
      have hl3 := nN_pr β d l (X &&& mkC β c)
      have hl4 := nN_pr β d r (sdf X (X &&& mkC β c))
      have b00 := hM 0 (by rw [nN_f]; omega)
      by_cases ce : ofS β X s < rgT β d (prT β d l (X &&& mkC β c)) (X &&& mkC β c) + rgT β d (prT β d r (sdf X (X &&& mkC β c))) (sdf X (X &&& mkC β c))
      · have b0 : G4 cf sf gf df p = (nI c, nI s, nI m, nI D) := by
          rw [cuP, if_pos ce] at b00
          exact b00
        have e1 : cf p = enc (some c) := congrArg (fun q : Q4 => q.1) b0
        have hc : c < 2 ^ 31 := by have := ok.2.1; omega
        have e4 : df p = nI D := congrArg (fun q : Q4 => q.2.2.2) b0
        refine J_iload_n (i := 3) (pc := 6) dX1_dropNodesBelowLeaves_6 rfl rfl ?_
        refine J_aload_n (i := 0) (pc := 7) dX1_dropNodesBelowLeaves_7 rfl rfl ?_
        refine J_getf (k := 6) (pc := 8) dX1_dropNodesBelowLeaves_8 flX1_30 k0 rfl ?_
        refine J_icmp_geN (tgt := 59) (pc := 11) dX1_dropNodesBelowLeaves_11 (by decide) (by omega) (by omega) (fun c11 => by exfalso; first | omega | simp_all) (fun c11 => ?_)
        refine J_aload_n (i := 0) (pc := 14) dX1_dropNodesBelowLeaves_14 rfl rfl ?_
        refine J_getf (k := 3) (pc := 15) dX1_dropNodesBelowLeaves_15 flX1_21 k0 rfl ?_
        refine J_iload_n (i := 3) (pc := 18) dX1_dropNodesBelowLeaves_18 rfl rfl ?_
        refine J_iald (j := p) (pc := 19) dX1_dropNodesBelowLeaves_19 k4 rfl (by omega) (by omega) ?_
        rw [show df p = nI (D) from e4]
        refine J_iload_n (i := 2) (pc := 20) dX1_dropNodesBelowLeaves_20 rfl rfl ?_
        refine J_icmp_gtN (tgt := 53) (pc := 21) dX1_dropNodesBelowLeaves_21 (by decide) (by omega) (by omega) (fun c21 => by exfalso; first | omega | simp_all) (fun c21 => ?_)
        refine J_aload_n (i := 0) (pc := 24) dX1_dropNodesBelowLeaves_24 rfl rfl ?_
        refine J_getf (k := 0) (pc := 25) dX1_dropNodesBelowLeaves_25 flX1_9 k0 rfl ?_
        refine J_iload_n (i := 3) (pc := 28) dX1_dropNodesBelowLeaves_28 rfl rfl ?_
        refine J_iald (j := p) (pc := 29) dX1_dropNodesBelowLeaves_29 k1 rfl (by omega) (by omega) ?_
        rw [show cf p = nI (c) from e1]
        refine J_if_ge (tgt := 42) (pc := 30) dX1_dropNodesBelowLeaves_30 (by decide) (fun c30 => ?_) (fun c30 => absurd c30 (nI_nge hc))
        refine J_iconst (v := nI (5)) (pc := 42) dX1_dropNodesBelowLeaves_42 rfl ?_
        refine J_istore_n (i := 2) (lv' := [(2, .int (nI (5))), (3, .int (nI (p))), (1, .int (nI (k))), (0, .ref (t))]) (pc := 43) dX1_dropNodesBelowLeaves_43 rfl (by decide) rfl ?_
        refine J_aload_n (i := 0) (pc := 44) dX1_dropNodesBelowLeaves_44 rfl rfl ?_
        refine J_iload_n (i := 3) (pc := 45) dX1_dropNodesBelowLeaves_45 rfl rfl ?_
        refine J_iload_n (i := 1) (pc := 46) dX1_dropNodesBelowLeaves_46 rfl rfl ?_
        refine J_cVv (st := []) (As := [.int (nI (p)), .int (nI (k))]) (pc := 47) dX1_dropNodesBelowLeaves_47 okX1_copyNode q1_220 q1_222 qs1_5 (rfl : vwCl[1]? = some _) k0 rfl (Nat.le_of_ble_eq_true rfl) (Nat.le_of_ble_eq_true rfl) (c_copyNode ⟨k0, k1, k2, k3, k4, k5, k6⟩ (by omega) (by omega)) (fun h_1 q_2 => ?_)
        obtain ⟨x_10, y_3, y_4, y_5, y_6, y_7, y_8, y_9⟩ := q_2
        have H_11 : Fr (t + 1) (t + 5) h h_1 := Fr_tr Fr_rfl (Fr_up x_10 (by omega) (by omega))
        refine J_iinc (i := 1) (v := nI (k + 1)) (lv' := [(1, .int (nI (k + 1))), (2, .int (nI (5))), (3, .int (nI (p))), (0, .ref (t))]) (pc := 50) dX1_dropNodesBelowLeaves_50 rfl (nI_add (k) 1) (by decide) rfl ?_
        refine J_iinc (i := 3) (v := nI (p + 1)) (lv' := [(3, .int (nI (p + 1))), (1, .int (nI (k + 1))), (2, .int (nI (5))), (0, .ref (t))]) (pc := 53) dX1_dropNodesBelowLeaves_53 rfl (nI_add (p) 1) (by decide) rfl ?_
        refine J_goto (tgt := 6) (pc := 56) dX1_dropNodesBelowLeaves_56 (by decide) ?_
        refine J_sub (lv' := [(3, .int (nI (p + 1))), (1, .int (nI (k + 1))), (2, .int (nI (5))), (0, .ref (t))]) [0, 1, 2, 3] rfl ?_
        have eG : ∀ q, q ≠ k → G4 (upd cf (k) (cf (p))) (upd sf (k) (sf (p))) (upd gf (k) (gf (p))) (upd df (k) (df (p))) q = G4 cf sf gf df q := fun q hq => up4n hq
        have hfr : Fr (t + 1) (t + 5) h h_1 := H_11
        refine ih (D + 1) l (p + 1) (k + 1) 5 (X &&& mkC β c) h_1 _ _ _ _ _ ⟨y_3, y_4, y_5, y_6, y_7, y_8, y_9⟩ (MB_congr mb1 (fun q hq => eG _ (by omega))) ok.2.2.1 (by omega) (by omega) (by omega) (by omega) (by omega) ?_
        intro h2 cf2 sf2 gf2 df2 mf2 K2 fr2 hT2 bl2 o2 d2 u2
        refine ih (D + 1) r (p + 1 + nN d l) (k + 1 + nN d (prT β d l (X &&& mkC β c))) K2 (sdf X (X &&& mkC β c)) h2 cf2 sf2 gf2 df2 mf2 hT2 (MB_congr mb2 (fun q hq => by rw [o2 _ (by omega)]; exact eG _ (by omega))) ok.2.2.2 (by omega) (by omega) (by omega) (by omega) (by omega) ?_
        intro h3 cf3 sf3 gf3 df3 mf3 K3 fr3 hT3 bl3 o3 d3 u3
        have r9 := hk h3 cf3 sf3 gf3 df3 mf3 K3 (Fr_tr hfr (Fr_tr fr2 fr3)) hT3 ?_ ?_ (by omega) u3
        · rw [show nN (d + 1) (prT β (d + 1) ((s, m), some (c, l, r)) X) = 1 + nN d (prT β d l (X &&& mkC β c)) + nN d (prT β d r (sdf X (X &&& mkC β c))) from by rw [prT, if_pos ce]; rfl, nN_f, show p + (1 + nN d l + nN d r) = p + 1 + nN d l + nN d r by omega, show k + (1 + nN d (prT β d l (X &&& mkC β c)) + nN d (prT β d r (sdf X (X &&& mkC β c)))) = k + 1 + nN d (prT β d l (X &&& mkC β c)) + nN d (prT β d r (sdf X (X &&& mkC β c))) by omega] at r9
          exact r9
        · rw [prT, if_pos ce]
          refine Blk_mkf ?_ (Blk_congr bl2 (fun q hq => o3 _ (by omega))) bl3
          rw [o3 k (by omega), o2 k (by omega), up4]
          exact b0
        · intro q hq
          have hq2 : q < k ∨ p + (1 + nN d l + nN d r) ≤ q := hq
          rw [o3 q (by omega), o2 q (by omega)]
          exact eG q (by omega)
      · have b0 : G4 cf sf gf df p = (-1, nI s, nI m, nI D) := by
          rw [cuP, if_neg ce] at b00
          exact b00
        have e1 : cf p = -1 := congrArg (fun q : Q4 => q.1) b0
        have e4 : df p = nI D := congrArg (fun q : Q4 => q.2.2.2) b0
        refine J_iload_n (i := 3) (pc := 6) dX1_dropNodesBelowLeaves_6 rfl rfl ?_
        refine J_aload_n (i := 0) (pc := 7) dX1_dropNodesBelowLeaves_7 rfl rfl ?_
        refine J_getf (k := 6) (pc := 8) dX1_dropNodesBelowLeaves_8 flX1_30 k0 rfl ?_
        refine J_icmp_geN (tgt := 59) (pc := 11) dX1_dropNodesBelowLeaves_11 (by decide) (by omega) (by omega) (fun c11 => by exfalso; first | omega | simp_all) (fun c11 => ?_)
        refine J_aload_n (i := 0) (pc := 14) dX1_dropNodesBelowLeaves_14 rfl rfl ?_
        refine J_getf (k := 3) (pc := 15) dX1_dropNodesBelowLeaves_15 flX1_21 k0 rfl ?_
        refine J_iload_n (i := 3) (pc := 18) dX1_dropNodesBelowLeaves_18 rfl rfl ?_
        refine J_iald (j := p) (pc := 19) dX1_dropNodesBelowLeaves_19 k4 rfl (by omega) (by omega) ?_
        rw [show df p = nI (D) from e4]
        refine J_iload_n (i := 2) (pc := 20) dX1_dropNodesBelowLeaves_20 rfl rfl ?_
        refine J_icmp_gtN (tgt := 53) (pc := 21) dX1_dropNodesBelowLeaves_21 (by decide) (by omega) (by omega) (fun c21 => by exfalso; first | omega | simp_all) (fun c21 => ?_)
        refine J_aload_n (i := 0) (pc := 24) dX1_dropNodesBelowLeaves_24 rfl rfl ?_
        refine J_getf (k := 0) (pc := 25) dX1_dropNodesBelowLeaves_25 flX1_9 k0 rfl ?_
        refine J_iload_n (i := 3) (pc := 28) dX1_dropNodesBelowLeaves_28 rfl rfl ?_
        refine J_iald (j := p) (pc := 29) dX1_dropNodesBelowLeaves_29 k1 rfl (by omega) (by omega) ?_
        rw [show cf p = (-1) from e1]
        refine J_if_ge (tgt := 42) (pc := 30) dX1_dropNodesBelowLeaves_30 (by decide) (fun c30 => absurd c30 (by decide)) (fun c30 => ?_)
        refine J_aload_n (i := 0) (pc := 33) dX1_dropNodesBelowLeaves_33 rfl rfl ?_
        refine J_getf (k := 3) (pc := 34) dX1_dropNodesBelowLeaves_34 flX1_21 k0 rfl ?_
        refine J_iload_n (i := 3) (pc := 37) dX1_dropNodesBelowLeaves_37 rfl rfl ?_
        refine J_iald (j := p) (pc := 38) dX1_dropNodesBelowLeaves_38 k4 rfl (by omega) (by omega) ?_
        rw [show df p = nI (D) from e4]
        refine J_goto (tgt := 43) (pc := 39) dX1_dropNodesBelowLeaves_39 (by decide) ?_
        refine J_istore_n (i := 2) (lv' := [(2, .int (nI (D))), (3, .int (nI (p))), (1, .int (nI (k))), (0, .ref (t))]) (pc := 43) dX1_dropNodesBelowLeaves_43 rfl (by decide) rfl ?_
        refine J_aload_n (i := 0) (pc := 44) dX1_dropNodesBelowLeaves_44 rfl rfl ?_
        refine J_iload_n (i := 3) (pc := 45) dX1_dropNodesBelowLeaves_45 rfl rfl ?_
        refine J_iload_n (i := 1) (pc := 46) dX1_dropNodesBelowLeaves_46 rfl rfl ?_
        refine J_cVv (st := []) (As := [.int (nI (p)), .int (nI (k))]) (pc := 47) dX1_dropNodesBelowLeaves_47 okX1_copyNode q1_220 q1_222 qs1_5 (rfl : vwCl[1]? = some _) k0 rfl (Nat.le_of_ble_eq_true rfl) (Nat.le_of_ble_eq_true rfl) (c_copyNode ⟨k0, k1, k2, k3, k4, k5, k6⟩ (by omega) (by omega)) (fun h_1 q_2 => ?_)
        obtain ⟨x_10, y_3, y_4, y_5, y_6, y_7, y_8, y_9⟩ := q_2
        have H_11 : Fr (t + 1) (t + 5) h h_1 := Fr_tr Fr_rfl (Fr_up x_10 (by omega) (by omega))
        refine J_iinc (i := 1) (v := nI (k + 1)) (lv' := [(1, .int (nI (k + 1))), (2, .int (nI (D))), (3, .int (nI (p))), (0, .ref (t))]) (pc := 50) dX1_dropNodesBelowLeaves_50 rfl (nI_add (k) 1) (by decide) rfl ?_
        refine J_iinc (i := 3) (v := nI (p + 1)) (lv' := [(3, .int (nI (p + 1))), (1, .int (nI (k + 1))), (2, .int (nI (D))), (0, .ref (t))]) (pc := 53) dX1_dropNodesBelowLeaves_53 rfl (nI_add (p) 1) (by decide) rfl ?_
        refine J_goto (tgt := 6) (pc := 56) dX1_dropNodesBelowLeaves_56 (by decide) ?_
        refine J_sub (lv' := [(3, .int (nI (p + 1))), (1, .int (nI (k + 1))), (2, .int (nI (D))), (0, .ref (t))]) [0, 1, 2, 3] rfl ?_
        have eG : ∀ q, q ≠ k → G4 (upd cf (k) (cf (p))) (upd sf (k) (sf (p))) (upd gf (k) (gf (p))) (upd df (k) (df (p))) q = G4 cf sf gf df q := fun q hq => up4n hq
        refine dr_skip ⟨y_3, y_4, y_5, y_6, y_7, y_8, y_9⟩ hn (by omega) (nN d l + nN d r) (p + 1) ?_ (by omega) ?_
        · intro q hq
          have hg := congrArg (fun q : Q4 => q.2.2.2) ((eG (p + 1 + q) (by omega)).trans ((show p + 1 + q = p + (q + 1) by omega) ▸ hM (q + 1) (by rw [nN_f]; omega)))
          have hd9 := row_dep (d + 1) D ((s, m), some (c, l, r)) (q + 1) (by rw [nN_f]; omega)
          exact ⟨(rowT (d + 1) D ((s, m), some (c, l, r)) (q + 1)).2.2.2, hg, hd9.2.2 (by omega), by omega⟩
        · have e9 : prT β (d + 1) ((s, m), some (c, l, r)) X = ((s, m), none) := by rw [prT, if_neg ce]
          rw [e9] at hk
          have r9 := hk h_1 _ _ _ _ _ D H_11 ⟨y_3, y_4, y_5, y_6, y_7, y_8, y_9⟩ (Blk_mkl (by rw [up4]; exact b0)) ?_ (Nat.le_refl D) (by omega)
          · rw [nN_f, show p + (1 + nN d l + nN d r) = p + 1 + (nN d l + nN d r) by omega] at r9
            exact r9
          · intro q hq
            have hq2 : q < k ∨ p + (1 + nN d l + nN d r) ≤ q := hq
            exact eG q (by omega)

set_option maxHeartbeats 2000000 in
set_option maxRecDepth 20000 in
theorem c_drop {g : GT} {dd : Nat} {h : MH} {β : BT} {t : Nat} {pa le : Int32} {cf sf gf df mf rf : Nat → Int32} {n d X : Nat} {tr : TR d} (hT : TO h t (nI n) pa le cf sf gf df mf rf) (hn : n ≤ 39) (hM : MB β (G4 cf sf gf df) 0 d 0 tr X) (ok : okT d tr) (hd : d ≤ 5) (hN : nN d tr = n) :
    J g (dd + 1) 0 0 mX1_dropNodesBelowLeaves 0 (lv_args 0 [.ref t]) [] h (RV (fun h' => ∃ cf' sf' gf' df' mf', Fr t (t + 5) h h' ∧ TO h' t (nI (nN d (prT β d tr X))) pa le cf' sf' gf' df' mf' rf ∧ Blk (G4 cf' sf' gf' df') 0 d 0 (prT β d tr X))) := by
  obtain ⟨k0, k1, k2, k3, k4, k5, k6⟩ := id hT
  refine J_iconst (v := nI (0)) (pc := 0) dX1_dropNodesBelowLeaves_0 rfl ?_
  refine J_istore_n (i := 1) (lv' := [(1, .int (nI (0))), (0, .ref (t))]) (pc := 1) dX1_dropNodesBelowLeaves_1 rfl (by decide) rfl ?_
  refine J_iconst (v := nI (5)) (pc := 2) dX1_dropNodesBelowLeaves_2 rfl ?_
  refine J_istore_n (i := 2) (lv' := [(2, .int (nI (5))), (1, .int (nI (0))), (0, .ref (t))]) (pc := 3) dX1_dropNodesBelowLeaves_3 rfl (by decide) rfl ?_
  refine J_iconst (v := nI (0)) (pc := 4) dX1_dropNodesBelowLeaves_4 rfl ?_
  refine J_istore_n (i := 3) (lv' := [(3, .int (nI (0))), (2, .int (nI (5))), (1, .int (nI (0))), (0, .ref (t))]) (pc := 5) dX1_dropNodesBelowLeaves_5 rfl (by decide) rfl ?_
  refine J_sub (lv' := [(3, .int (nI (0))), (1, .int (nI (0))), (2, .int (nI (5))), (0, .ref (t))]) [0, 2, 1, 3] rfl ?_
  refine dr_keep hn d 0 tr 0 0 5 X h cf sf gf df mf hT hM ok (by omega) (by omega) (by omega) (by omega) (by omega) ?_
  intro h2 cf2 sf2 gf2 df2 mf2 K2 fr2 hT2 bl2 o2 d2 u2
  obtain ⟨k0, k1, k2, k3, k4, k5, k6⟩ := id hT2
  rw [show 0 + nN d tr = n by omega, Nat.zero_add]
  refine J_iload_n (i := 3) (pc := 6) dX1_dropNodesBelowLeaves_6 rfl rfl ?_
  refine J_aload_n (i := 0) (pc := 7) dX1_dropNodesBelowLeaves_7 rfl rfl ?_
  refine J_getf (k := 6) (pc := 8) dX1_dropNodesBelowLeaves_8 flX1_30 k0 rfl ?_
  refine J_icmp_geN (tgt := 59) (pc := 11) dX1_dropNodesBelowLeaves_11 (by decide) (by omega) (by omega) (fun c11 => ?_) (fun c11 => by exfalso; first | omega | simp_all)
  refine J_aload_n (i := 0) (pc := 59) dX1_dropNodesBelowLeaves_59 rfl rfl ?_
  refine J_iload_n (i := 1) (pc := 60) dX1_dropNodesBelowLeaves_60 rfl rfl ?_
  refine J_putf (k := 6) (pc := 61) dX1_dropNodesBelowLeaves_61 fpX1_dropNodesBelowLeaves_30 (fun g => ⟨rfl, rfl⟩) k0 (Nat.le_of_ble_eq_true rfl) ?_
  obtain ⟨h_1, eh_1⟩ : ∃ z : MH, z = (h2.1, hset h2.2 (t) (oB 1 [.ref (t + 1), .ref (t + 2), .ref (t + 3), .ref (t + 4), .ref (t + 5), .ref (t + 6), .int (nI (nN d (prT β d tr X))), .int (pa), .int (le)])) := ⟨_, rfl⟩
  refine J_heq (h2 := h_1) eh_1 ?_
  have H_2 : h_1.2 (t) = some (oB 1 [.ref (t + 1), .ref (t + 2), .ref (t + 3), .ref (t + 4), .ref (t + 5), .ref (t + 6), .int (nI (nN d (prT β d tr X))), .int (pa), .int (le)]) := hs_s eh_1
  have H_3 : h_1.2 (t + 1) = some (aI (39) (cf2)) := (hs_n eh_1 (by omega)).trans k1
  have H_4 : h_1.2 (t + 2) = some (aI (39) (sf2)) := (hs_n eh_1 (by omega)).trans k2
  have H_5 : h_1.2 (t + 3) = some (aI (39) (gf2)) := (hs_n eh_1 (by omega)).trans k3
  have H_6 : h_1.2 (t + 4) = some (aI (39) (df2)) := (hs_n eh_1 (by omega)).trans k4
  have H_7 : h_1.2 (t + 5) = some (aI (39) (mf2)) := (hs_n eh_1 (by omega)).trans k5
  have H_8 : h_1.2 (t + 6) = some (aI (39) (rf)) := (hs_n eh_1 (by omega)).trans k6
  have H_9 : Fr (t) (t + 5) h h_1 := by rw [eh_1]; exact Fr_st (Fr_up fr2 (by omega) (by omega)) (by omega) (by omega)
  refine J_vret (pc := 64) dX1_dropNodesBelowLeaves_64 rfl ?_
  exact ⟨rfl, _, _, _, _, _, H_9, ⟨H_2, H_3, H_4, H_5, H_6, H_7, H_8⟩, bl2⟩
theorem c_pruneBy {g : GT} {dd : Nat} {h : MH} {β : BT} (hB : BH h β) {t : Nat} {pa le : Int32} {cf sf gf df mf rf : Nat → Int32} {n d S : Nat} {tr : TR d} (hT : TO h t (nI n) pa le cf sf gf df mf rf) (ht : 9 < t) (hn : n ≤ 39) (hK : Blk (G4 cf sf gf df) 0 d 0 tr) (ok : okT d tr) (hd : d ≤ 5) (hN : nN d tr = n) (hS : S < 2 ^ 20) :
    J g (dd + 2) 0 0 mX1_pruneBy 0 (lv_args 0 [.ref t, .ref 2, .int (nI S)]) [] h (RH (nI (tuP β d tr S)) (fun h' => ∃ cf' sf' gf' df' mf' rf', Fr t (t + 6) h h' ∧ TO h' t (nI (nN d (prT β d tr S))) pa le cf' sf' gf' df' mf' rf' ∧ Blk (G4 cf' sf' gf' df') 0 d 0 (prT β d tr S))) := by
  obtain ⟨k0, k1, k2, k3, k4, k5, k6⟩ := id hT
  have b9 := BH_2 hB
  have hn1 := nN_pos d tr
  refine J_aload_n (i := 0) (pc := 0) dX1_pruneBy_0 rfl rfl ?_
  refine J_aload_n (i := 1) (pc := 1) dX1_pruneBy_1 rfl rfl ?_
  refine J_iload_n (i := 2) (pc := 2) dX1_pruneBy_2 rfl rfl ?_
  refine J_cVv (st := []) (As := [.ref (2), .int (nI (S))]) (pc := 3) dX1_pruneBy_3 okX1_send q2_10 q2_12 qs1_7 (rfl : vwCl[1]? = some _) k0 rfl (Nat.le_of_ble_eq_true rfl) (Nat.le_of_ble_eq_true rfl) (c_send hB hT ht hn hK ok (by omega) hN hS) (fun h_1 q_2 => ?_)
  obtain ⟨mf2, fr2, hT2, m2⟩ := q_2
  obtain ⟨k0, k1, k2, k3, k4, k5, k6⟩ := id hT2
  refine J_iconst (v := nI (0)) (pc := 6) dX1_pruneBy_6 rfl ?_
  refine J_istore_n (i := 3) (lv' := [(3, .int (nI (0))), (0, .ref (t)), (1, .ref (2)), (2, .int (nI (S)))]) (pc := 7) dX1_pruneBy_7 rfl (by decide) rfl ?_
  refine J_aload_n (i := 0) (pc := 8) dX1_pruneBy_8 rfl rfl ?_
  refine J_getf (k := 6) (pc := 9) dX1_pruneBy_9 flX1_30 k0 rfl ?_
  refine J_iconst (v := nI (1)) (pc := 12) dX1_pruneBy_12 rfl ?_
  refine J_isubN (pc := 13) dX1_pruneBy_13 (by omega) ?_
  refine J_istore (i := 4) (lv' := [(4, .int (nI ((n) - (1)))), (3, .int (nI (0))), (0, .ref (t)), (1, .ref (2)), (2, .int (nI (S)))]) (pc := 14) dX1_pruneBy_14 (by decide) rfl ?_
  refine J_sub (lv' := [(4, .int (nI ((n) - (1)))), (3, .int (nI (0))), (0, .ref (t)), (1, .ref (2)), (2, .int (nI (S)))]) [0, 1, 2, 3, 4] rfl ?_
  have hB2 := BH_fr fr2 (by omega) hB
  rw [show nI (n - 1) = pm (0 + nN d tr) from by rw [Nat.zero_add, hN]; exact (m1_sub (by omega)).symm]
  refine pr_blk ht hn d 0 tr 0 S 0 h_1 cf rf hT2 hB2 hK ok (by omega) (by omega) hS (fun q hq => by rw [Nat.zero_add]; exact m2 q (by omega)) ?_
  intro h3 cf3 rf3 fr3 hT3 cu3 ri3 co3 ro3
  obtain ⟨k0, k1, k2, k3, k4, k5, k6⟩ := id hT3
  rw [Nat.zero_add]
  have hM3 : MB β (G4 cf3 sf gf df) 0 d 0 tr S := by
    intro q hq
    have a1 := cu3 q hq
    have a2 := hK q hq
    show (_, _, _, _) = _
    rw [a1]
    exact congrArg (fun z : Q4 => (enc (cuP β d tr S q), z.2)) a2
  refine J_iload (i := 4) (pc := 16) dX1_pruneBy_16 rfl ?_
  refine J_if_lt (tgt := 119) (pc := 18) dX1_pruneBy_18 (by decide) (fun c18 => ?_) (fun c18 => absurd c18 (fun q => q pm_0))
  refine J_aload_n (i := 0) (pc := 119) dX1_pruneBy_119 rfl rfl ?_
  refine J_cVv (st := []) (As := []) (pc := 120) dX1_pruneBy_120 okX1_dropNodesBelowLeaves q2_19 q2_21 qs1_8 (rfl : vwCl[1]? = some _) k0 rfl (Nat.le_of_ble_eq_true rfl) (Nat.le_of_ble_eq_true rfl) (c_drop hT3 hn hM3 ok hd hN) (fun h_1 q_2 => ?_)
  obtain ⟨cf4, sf4, gf4, df4, mf4, fr4, hT4, bl4⟩ := q_2
  refine J_iload_n (i := 3) (pc := 123) dX1_pruneBy_123 rfl rfl ?_
  refine J_iret (ty := .int) (pc := 124) dX1_pruneBy_124 rfl rfl ?_
  exact ⟨rfl, _, _, _, _, _, _, Fr_tr (Fr_up fr2 (by omega) (by omega)) (Fr_tr (Fr_up fr3 (by omega) (by omega)) (Fr_up fr4 (by omega) (by omega))), hT4, bl4⟩
