-- pruning
def prT (β : BT) : (d : Nat) → TR d → Nat → TR d
  | 0, t, _ => t
  | _ + 1, (a, none), _ => (a, none)
  | d + 1, (a, some (c, l, r)), X => (a, if ofS β X a.1 < rgT β d (prT β d l (X &&& mkC β c)) (X &&& mkC β c) + rgT β d (prT β d r (sdf X (X &&& mkC β c))) (sdf X (X &&& mkC β c)) then some (c, prT β d l (X &&& mkC β c), prT β d r (sdf X (X &&& mkC β c))) else none)
def tuP (β : BT) : (d : Nat) → TR d → Nat → Nat
  | 0, _, _ => 0
  | _ + 1, (_, none), _ => 0
  | d + 1, (a, some (c, l, r)), X => tuP β d l (X &&& mkC β c) + tuP β d r (sdf X (X &&& mkC β c)) + (if ofS β X a.1 < rgT β d (prT β d l (X &&& mkC β c)) (X &&& mkC β c) + rgT β d (prT β d r (sdf X (X &&& mkC β c))) (sdf X (X &&& mkC β c)) then 0 else 1)
def cuP (β : BT) : (d : Nat) → TR d → Nat → Nat → Option Nat
  | 0, _, _, _ => none
  | _ + 1, (_, none), _, _ => none
  | d + 1, (a, some (c, l, r)), X, 0 => if ofS β X a.1 < rgT β d (prT β d l (X &&& mkC β c)) (X &&& mkC β c) + rgT β d (prT β d r (sdf X (X &&& mkC β c))) (sdf X (X &&& mkC β c)) then some c else none
  | d + 1, (_, some (c, l, r)), X, q + 1 => if q < nN d l then cuP β d l (X &&& mkC β c) q else cuP β d r (sdf X (X &&& mkC β c)) (q - nN d l)
theorem nN_pr (β : BT) : ∀ (d : Nat) (t : TR d) (X : Nat), nN d (prT β d t X) ≤ nN d t
  | 0, t, X => Nat.le_refl _
  | d + 1, t, X => by
    rcases TR_c t with ⟨s, m, rfl⟩ | ⟨s, m, c, l, r, rfl⟩
    · exact Nat.le_refl _
    · have h1 := nN_pr β d l (X &&& mkC β c)
      have h2 := nN_pr β d r (sdf X (X &&& mkC β c))
      rw [nN_f, prT]
      split
      · rw [nN_f]
        omega
      · show 1 ≤ _
        omega
theorem ok_pr (β : BT) : ∀ (d : Nat) (t : TR d) (X : Nat), okT d t → okT d (prT β d t X)
  | 0, t, X, ok => ok
  | d + 1, t, X, ok => by
    rcases TR_c t with ⟨s, m, rfl⟩ | ⟨s, m, c, l, r, rfl⟩
    · exact ok
    · rw [prT]
      split
      · exact ⟨ok.1, ok.2.1, ok_pr β d l _ ok.2.2.1, ok_pr β d r _ ok.2.2.2⟩
      · exact ok.1
def pm (p : Nat) : Int32 := nI p + Int32.ofInt (-1)
theorem pm_s (p : Nat) : pm (p + 1) = nI p := pk_m1 p
theorem pm_0 : pm 0 < 0 := by decide

set_option maxHeartbeats 2000000 in
set_option maxRecDepth 20000 in
theorem c_high2 {g : GT} {dd : Nat} {h : MH} {t : Nat} {pa le : Int32} {cf sf gf df mf rf : Nat → Int32} {cf0 : Nat → Int32} {n p d D s m c : Nat} {l r : TR d} (hT : TO h t (nI n) pa le cf sf gf df mf rf) (hn : n ≤ 39) (hB : Blk (G4 cf0 sf gf df) p (d + 1) D ((s, m), some (c, l, r))) (e1 : cf p = nI c) (hc : c < 153) (hD : D + d < 1000) (hp : p + nN (d + 1) ((s, m), some (c, l, r)) ≤ n) : J g dd 0 0 mX1_highPartAt 0 (lv_args 0 [.ref t, .int (nI p)]) [] h (RI (nI (p + 1 + nN d l)) h) := by
  obtain ⟨h0, h1, h2⟩ := Blk_f hB
  have n1 := nN_pos d l
  have n2 := nN_pos d r
  rw [nN_f] at hp
  have e2 : df p = nI D := congrArg (fun q : Q4 => q.2.2.2) h0
  have e3 : df (p + 1 + nN d l) = nI (D + 1) := by
    have e := congrArg (fun q : Q4 => q.2.2.2) (h2 0 (by omega))
    exact e.trans (congrArg nI (row_root d (D + 1) r))
  refine c_highF hT hn (by omega) (by omega) e1 e2 (by omega) (by omega) e3 ?_
  intro j j1 j2 q
  have e := congrArg (fun q : Q4 => q.2.2.2) (h1 (j - (p + 1)) (by omega))
  have e4 : df j = nI ((rowT d (D + 1) l (j - (p + 1))).2.2.2) := by
    rw [show p + 1 + (j - (p + 1)) = j by omega] at e
    exact e
  have e5 := row_dep d (D + 1) l (j - (p + 1)) (by omega)
  rw [e4] at q
  have e6 := nI_inj (by omega) (by omega) q
  omega

set_option maxHeartbeats 2000000 in
set_option maxRecDepth 20000 in
theorem pr_blk {g : GT} {dd : Nat} {β : BT} {t n S : Nat} {pa le : Int32} {sf gf df mf : Nat → Int32} {Q : RT → MH → Prop} (ht : 9 < t) (hn : n ≤ 39) : ∀ (d D : Nat) (tr : TR d) (p X T : Nat) (h : MH) (cf rf : Nat → Int32), TO h t (nI n) pa le cf sf gf df mf rf → BH h β → Blk (G4 cf sf gf df) p d D tr → okT d tr → D + d < 1000 → p + nN d tr ≤ n → X < 2 ^ 20 → (∀ q, q < nN d tr → mf (p + q) = nI (cmT β d tr X q)) →
    (∀ h' cf' rf', Fr (t + 1) (t + 6) h h' → TO h' t (nI n) pa le cf' sf gf df mf rf' → (∀ q, q < nN d tr → cf' (p + q) = enc (cuP β d tr X q)) → rf' p = nI (rgT β d (prT β d tr X) X) → (∀ q, q < p ∨ p + nN d tr ≤ q → cf' q = cf q) → (∀ q, q < p ∨ p + nN d tr ≤ q → rf' q = rf q) → J g (dd + 2) 0 0 mX1_pruneBy 16 [(4, .int (pm p)), (3, .int (nI (T + tuP β d tr X))), (0, .ref (t)), (1, .ref (2)), (2, .int (nI (S)))] [] h' Q) →
    J g (dd + 2) 0 0 mX1_pruneBy 16 [(4, .int (pm (p + nN d tr))), (3, .int (nI (T))), (0, .ref (t)), (1, .ref (2)), (2, .int (nI (S)))] [] h Q := by
  intro d
  induction d with
  | zero =>
    intro D tr p X T h cf rf hT hB hK ok hD hp hX hm hk
    obtain ⟨s, m⟩ := tr
    · show J g (dd + 2) 0 0 mX1_pruneBy 16 [(4, .int (pm (p + 1))), (3, .int (nI (T))), (0, .ref (t)), (1, .ref (2)), (2, .int (nI (S)))] [] h Q
      obtain ⟨k0, k1, k2, k3, k4, k5, k6⟩ := id hT
      have b9 := BH_2 hB
      have hp2 : p + 1 ≤ n := hp
      have e1 : cf p = -1 := congrArg (fun q : Q4 => q.1) (Blk_0 hK)
      have e2 : sf p = nI s := congrArg (fun q : Q4 => q.2.1) (Blk_0 hK)
      have hm0 : mf p = nI X := hm 0 Nat.one_pos
      have hs := ok.1
      rw [show pm (p + 1) = nI p from pm_s p]
      refine J_iload (i := 4) (pc := 16) dX1_pruneBy_16 rfl ?_
      refine J_if_lt (tgt := 119) (pc := 18) dX1_pruneBy_18 (by decide) (fun c18 => absurd c18 (nI_pos (by omega))) (fun c18 => ?_)
      refine J_aload_n (i := 0) (pc := 21) dX1_pruneBy_21 rfl rfl ?_
      refine J_getf (k := 5) (pc := 22) dX1_pruneBy_22 flX1_27 k0 rfl ?_
      refine J_iload (i := 4) (pc := 25) dX1_pruneBy_25 rfl ?_
      refine J_aload_n (i := 1) (pc := 27) dX1_pruneBy_27 rfl rfl ?_
      refine J_aload_n (i := 0) (pc := 28) dX1_pruneBy_28 rfl rfl ?_
      refine J_getf (k := 4) (pc := 29) dX1_pruneBy_29 flX1_24 k0 rfl ?_
      refine J_iload (i := 4) (pc := 32) dX1_pruneBy_32 rfl ?_
      refine J_iald (j := p) (pc := 34) dX1_pruneBy_34 k5 rfl (by omega) (by omega) ?_
      rw [show mf p = nI (X) from hm0]
      refine J_aload_n (i := 0) (pc := 35) dX1_pruneBy_35 rfl rfl ?_
      refine J_getf (k := 1) (pc := 36) dX1_pruneBy_36 flX1_15 k0 rfl ?_
      refine J_iload (i := 4) (pc := 39) dX1_pruneBy_39 rfl ?_
      refine J_iald (j := p) (pc := 41) dX1_pruneBy_41 k2 rfl (by omega) (by omega) ?_
      rw [show sf p = nI (s) from e2]
      refine J_cVi (st := [.int (nI (p)), .ref (t + 6)]) (As := [.int (nI (X)), .int (nI (s))]) (pc := 42) dX1_pruneBy_42 okX0_howManyOfSort q2_18 q1_182 q1_183 (rfl : vwCl[0]? = some _) b9 rfl (Nat.le_of_ble_eq_true rfl) (Nat.le_of_ble_eq_true rfl) (c_howManyOfSort hB (by omega) (by omega)) ?_
      refine J_iast (j := p) (pc := 45) dX1_pruneBy_45 k6 rfl (by omega) (by omega) ?_
      obtain ⟨h_1, eh_1⟩ : ∃ z : MH, z = (h.1, hset h.2 (t + 6) (aI (39) (upd rf (p) (nI (ofS β X s))))) := ⟨_, rfl⟩
      refine J_heq (h2 := h_1) eh_1 ?_
      have H_2 : h_1.2 (t) = some (oB 1 [.ref (t + 1), .ref (t + 2), .ref (t + 3), .ref (t + 4), .ref (t + 5), .ref (t + 6), .int (nI (n)), .int (pa), .int (le)]) := (hs_n eh_1 (by omega)).trans k0
      have H_3 : h_1.2 (t + 1) = some (aI (39) (cf)) := (hs_n eh_1 (by omega)).trans k1
      have H_4 : h_1.2 (t + 2) = some (aI (39) (sf)) := (hs_n eh_1 (by omega)).trans k2
      have H_5 : h_1.2 (t + 3) = some (aI (39) (gf)) := (hs_n eh_1 (by omega)).trans k3
      have H_6 : h_1.2 (t + 4) = some (aI (39) (df)) := (hs_n eh_1 (by omega)).trans k4
      have H_7 : h_1.2 (t + 5) = some (aI (39) (mf)) := (hs_n eh_1 (by omega)).trans k5
      have H_8 : h_1.2 (t + 6) = some (aI (39) (upd rf (p) (nI (ofS β X s)))) := hs_s eh_1
      have H_9 : h_1.2 (2) = some (oB 0 [.ref (3), .ref (7), .ref (8), .ref (9), .int (nI (β.1)), .int (nI (β.2.1))]) := (hs_n eh_1 (by omega)).trans b9
      have H_10 : BH h_1 β := by rw [eh_1]; exact BH_set (by omega) hB
      have H_11 : Fr (t + 1) (t + 6) h h_1 := by rw [eh_1]; exact Fr_st Fr_rfl (by omega) (by omega)
      refine J_aload_n (i := 0) (pc := 46) dX1_pruneBy_46 rfl rfl ?_
      refine J_iload (i := 4) (pc := 47) dX1_pruneBy_47 rfl ?_
      refine J_cVi (st := []) (As := [.int (nI (p))]) (pc := 49) dX1_pruneBy_49 okX1_highPartAt q2_14 q2_15 q2_16 (rfl : vwCl[1]? = some _) H_2 rfl (Nat.le_of_ble_eq_true rfl) (Nat.le_of_ble_eq_true rfl) (c_highL ⟨H_2, H_3, H_4, H_5, H_6, H_7, H_8⟩ hn e1 (by omega)) ?_
      refine J_istore (i := 5) (lv' := [(5, .int (-1)), (4, .int (nI (p))), (3, .int (nI (T))), (0, .ref (t)), (1, .ref (2)), (2, .int (nI (S)))]) (pc := 52) dX1_pruneBy_52 (by decide) rfl ?_
      refine J_iload (i := 5) (pc := 54) dX1_pruneBy_54 rfl ?_
      refine J_if_lt (tgt := 113) (pc := 56) dX1_pruneBy_56 (by decide) (fun c56 => ?_) (fun c56 => absurd c56 (by decide))
      refine J_iinc (i := 4) (v := (pm p)) (lv' := [(4, .int (pm p)), (5, .int (-1)), (3, .int (nI (T))), (0, .ref (t)), (1, .ref (2)), (2, .int (nI (S)))]) (pc := 113) dX1_pruneBy_113 rfl rfl (by decide) rfl ?_
      refine J_goto (tgt := 16) (pc := 116) dX1_pruneBy_116 (by decide) ?_
      refine J_sub (lv' := [(4, .int (pm p)), (3, .int (nI (T))), (0, .ref (t)), (1, .ref (2)), (2, .int (nI (S)))]) [0, 2, 3, 4, 5] rfl ?_
      refine hk h_1 (cf) (upd rf (p) (nI (ofS β X s))) H_11 ⟨H_2, H_3, H_4, H_5, H_6, H_7, H_8⟩ ?_ pk_us (fun q _ => rfl) (fun q hq => pk_un (by have hq2 : q < p ∨ p + 1 ≤ q := hq; omega))
      intro q hq
      obtain rfl : q = 0 := by (have hq2 : q < 1 := hq; omega)
      exact e1
  | succ d ih =>
    intro D tr p X T h cf rf hT hB hK ok hD hp hX hm hk
    rcases TR_c tr with ⟨s, m, rfl⟩ | ⟨s, m, c, l, r, rfl⟩
    · show J g (dd + 2) 0 0 mX1_pruneBy 16 [(4, .int (pm (p + 1))), (3, .int (nI (T))), (0, .ref (t)), (1, .ref (2)), (2, .int (nI (S)))] [] h Q
      obtain ⟨k0, k1, k2, k3, k4, k5, k6⟩ := id hT
      have b9 := BH_2 hB
      have hp2 : p + 1 ≤ n := hp
      have e1 : cf p = -1 := congrArg (fun q : Q4 => q.1) (Blk_l hK)
      have e2 : sf p = nI s := congrArg (fun q : Q4 => q.2.1) (Blk_l hK)
      have hm0 : mf p = nI X := hm 0 Nat.one_pos
      have hs := ok.1
      rw [show pm (p + 1) = nI p from pm_s p]
      refine J_iload (i := 4) (pc := 16) dX1_pruneBy_16 rfl ?_
      refine J_if_lt (tgt := 119) (pc := 18) dX1_pruneBy_18 (by decide) (fun c18 => absurd c18 (nI_pos (by omega))) (fun c18 => ?_)
      refine J_aload_n (i := 0) (pc := 21) dX1_pruneBy_21 rfl rfl ?_
      refine J_getf (k := 5) (pc := 22) dX1_pruneBy_22 flX1_27 k0 rfl ?_
      refine J_iload (i := 4) (pc := 25) dX1_pruneBy_25 rfl ?_
      refine J_aload_n (i := 1) (pc := 27) dX1_pruneBy_27 rfl rfl ?_
      refine J_aload_n (i := 0) (pc := 28) dX1_pruneBy_28 rfl rfl ?_
      refine J_getf (k := 4) (pc := 29) dX1_pruneBy_29 flX1_24 k0 rfl ?_
      refine J_iload (i := 4) (pc := 32) dX1_pruneBy_32 rfl ?_
      refine J_iald (j := p) (pc := 34) dX1_pruneBy_34 k5 rfl (by omega) (by omega) ?_
      rw [show mf p = nI (X) from hm0]
      refine J_aload_n (i := 0) (pc := 35) dX1_pruneBy_35 rfl rfl ?_
      refine J_getf (k := 1) (pc := 36) dX1_pruneBy_36 flX1_15 k0 rfl ?_
      refine J_iload (i := 4) (pc := 39) dX1_pruneBy_39 rfl ?_
      refine J_iald (j := p) (pc := 41) dX1_pruneBy_41 k2 rfl (by omega) (by omega) ?_
      rw [show sf p = nI (s) from e2]
      refine J_cVi (st := [.int (nI (p)), .ref (t + 6)]) (As := [.int (nI (X)), .int (nI (s))]) (pc := 42) dX1_pruneBy_42 okX0_howManyOfSort q2_18 q1_182 q1_183 (rfl : vwCl[0]? = some _) b9 rfl (Nat.le_of_ble_eq_true rfl) (Nat.le_of_ble_eq_true rfl) (c_howManyOfSort hB (by omega) (by omega)) ?_
      refine J_iast (j := p) (pc := 45) dX1_pruneBy_45 k6 rfl (by omega) (by omega) ?_
      obtain ⟨h_1, eh_1⟩ : ∃ z : MH, z = (h.1, hset h.2 (t + 6) (aI (39) (upd rf (p) (nI (ofS β X s))))) := ⟨_, rfl⟩
      refine J_heq (h2 := h_1) eh_1 ?_
      have H_2 : h_1.2 (t) = some (oB 1 [.ref (t + 1), .ref (t + 2), .ref (t + 3), .ref (t + 4), .ref (t + 5), .ref (t + 6), .int (nI (n)), .int (pa), .int (le)]) := (hs_n eh_1 (by omega)).trans k0
      have H_3 : h_1.2 (t + 1) = some (aI (39) (cf)) := (hs_n eh_1 (by omega)).trans k1
      have H_4 : h_1.2 (t + 2) = some (aI (39) (sf)) := (hs_n eh_1 (by omega)).trans k2
      have H_5 : h_1.2 (t + 3) = some (aI (39) (gf)) := (hs_n eh_1 (by omega)).trans k3
      have H_6 : h_1.2 (t + 4) = some (aI (39) (df)) := (hs_n eh_1 (by omega)).trans k4
      have H_7 : h_1.2 (t + 5) = some (aI (39) (mf)) := (hs_n eh_1 (by omega)).trans k5
      have H_8 : h_1.2 (t + 6) = some (aI (39) (upd rf (p) (nI (ofS β X s)))) := hs_s eh_1
      have H_9 : h_1.2 (2) = some (oB 0 [.ref (3), .ref (7), .ref (8), .ref (9), .int (nI (β.1)), .int (nI (β.2.1))]) := (hs_n eh_1 (by omega)).trans b9
      have H_10 : BH h_1 β := by rw [eh_1]; exact BH_set (by omega) hB
      have H_11 : Fr (t + 1) (t + 6) h h_1 := by rw [eh_1]; exact Fr_st Fr_rfl (by omega) (by omega)
      refine J_aload_n (i := 0) (pc := 46) dX1_pruneBy_46 rfl rfl ?_
      refine J_iload (i := 4) (pc := 47) dX1_pruneBy_47 rfl ?_
      refine J_cVi (st := []) (As := [.int (nI (p))]) (pc := 49) dX1_pruneBy_49 okX1_highPartAt q2_14 q2_15 q2_16 (rfl : vwCl[1]? = some _) H_2 rfl (Nat.le_of_ble_eq_true rfl) (Nat.le_of_ble_eq_true rfl) (c_highL ⟨H_2, H_3, H_4, H_5, H_6, H_7, H_8⟩ hn e1 (by omega)) ?_
      refine J_istore (i := 5) (lv' := [(5, .int (-1)), (4, .int (nI (p))), (3, .int (nI (T))), (0, .ref (t)), (1, .ref (2)), (2, .int (nI (S)))]) (pc := 52) dX1_pruneBy_52 (by decide) rfl ?_
      refine J_iload (i := 5) (pc := 54) dX1_pruneBy_54 rfl ?_
      refine J_if_lt (tgt := 113) (pc := 56) dX1_pruneBy_56 (by decide) (fun c56 => ?_) (fun c56 => absurd c56 (by decide))
      refine J_iinc (i := 4) (v := (pm p)) (lv' := [(4, .int (pm p)), (5, .int (-1)), (3, .int (nI (T))), (0, .ref (t)), (1, .ref (2)), (2, .int (nI (S)))]) (pc := 113) dX1_pruneBy_113 rfl rfl (by decide) rfl ?_
      refine J_goto (tgt := 16) (pc := 116) dX1_pruneBy_116 (by decide) ?_
      refine J_sub (lv' := [(4, .int (pm p)), (3, .int (nI (T))), (0, .ref (t)), (1, .ref (2)), (2, .int (nI (S)))]) [0, 2, 3, 4, 5] rfl ?_
      refine hk h_1 (cf) (upd rf (p) (nI (ofS β X s))) H_11 ⟨H_2, H_3, H_4, H_5, H_6, H_7, H_8⟩ ?_ pk_us (fun q _ => rfl) (fun q hq => pk_un (by have hq2 : q < p ∨ p + 1 ≤ q := hq; omega))
      intro q hq
      obtain rfl : q = 0 := by (have hq2 : q < 1 := hq; omega)
      exact e1
    · obtain ⟨b0, b1, b2⟩ := Blk_f hK
      have n1 := nN_pos d l
      have n2 := nN_pos d r
      have hp2 : p + (1 + nN d l + nN d r) ≤ n := hp
      have hc := ok.2.1
      have hs := ok.1.1
      have e1 : cf p = nI c := congrArg (fun q : Q4 => q.1) b0
      have e2 : sf p = nI s := congrArg (fun q : Q4 => q.2.1) b0
      have hm0 : mf p = nI X := hm 0 (by rw [nN_f]; omega)
      have hml : ∀ q, q < nN d l → mf (p + 1 + q) = nI (cmT β d l (X &&& mkC β c) q) := by
        intro q hq
        have r9 := hm (q + 1) (by rw [nN_f]; omega)
        rw [show p + (q + 1) = p + 1 + q by omega, cmT, if_pos hq] at r9
        exact r9
      have hmr : ∀ q, q < nN d r → mf (p + 1 + nN d l + q) = nI (cmT β d r (sdf X (X &&& mkC β c)) q) := by
        intro q hq
        have r9 := hm (nN d l + q + 1) (by rw [nN_f]; omega)
        rw [show p + (nN d l + q + 1) = p + 1 + nN d l + q by omega, cmT, if_neg (by omega), show nN d l + q - nN d l = q by omega] at r9
        exact r9
      have hlow : X &&& mkC β c ≤ X := Nat.and_le_left
      have hhigh := sdf_le X (X &&& mkC β c)
      rw [nN_f, show p + (1 + nN d l + nN d r) = p + 1 + nN d l + nN d r by omega]
      refine ih (D + 1) r (p + 1 + nN d l) (sdf X (X &&& mkC β c)) T h cf rf hT hB b2 ok.2.2.2 (by omega) (by omega) (by omega) hmr ?_
      intro h1 cf1 rf1 fr1 hT1 cu1 ri1 co1 ro1
      refine ih (D + 1) l (p + 1) (X &&& mkC β c) _ h1 cf1 rf1 hT1 (BH_fr fr1 (by omega) hB) (Blk_congr b1 (fun q hq => by unfold G4; rw [co1 _ (by omega)])) ok.2.2.1 (by omega) (by omega) (by omega) hml ?_
      intro h2 cf2 rf2 fr2 hT2 cu2 ri2 co2 ro2
      have cuq : ∀ q, q + 1 < 1 + nN d l + nN d r → cf2 (p + (q + 1)) = enc (cuP β (d + 1) ((s, m), some (c, l, r)) X (q + 1)) := by
        intro q hq
        rw [cuP]
        split
        · rename_i e
          rw [show p + (q + 1) = p + 1 + q by omega]
          exact cu2 q e
        · rename_i e
          rw [show p + (q + 1) = p + 1 + nN d l + (q - nN d l) by omega, co2 _ (by omega)]
          exact cu1 _ (by omega)
      have e12 : cf2 p = nI c := by rw [co2 p (by omega), co1 p (by omega)]; exact e1
      have eri : rf2 (p + 1 + nN d l) = nI (rgT β d (prT β d r (sdf X (X &&& mkC β c))) (sdf X (X &&& mkC β c))) := by rw [ro2 _ (by omega)]; exact ri1
      have hl1 := rgT_le β d (prT β d l (X &&& mkC β c)) (X &&& mkC β c)
      have hl2 := rgT_le β d (prT β d r (sdf X (X &&& mkC β c))) (sdf X (X &&& mkC β c))
      have hl3 := nN_pr β d l (X &&& mkC β c)
      have hl4 := nN_pr β d r (sdf X (X &&& mkC β c))
      have hl5 := ofS_le β X s
      have hB2 := BH_fr fr2 (by omega) (BH_fr fr1 (by omega) hB)
      have b9 := BH_2 hB2
      obtain ⟨k0, k1, k2, k3, k4, k5, k6⟩ := id hT2
      rw [pm_s p]
      refine J_iload (i := 4) (pc := 16) dX1_pruneBy_16 rfl ?_
      refine J_if_lt (tgt := 119) (pc := 18) dX1_pruneBy_18 (by decide) (fun c18 => absurd c18 (nI_pos (by omega))) (fun c18 => ?_)
      refine J_aload_n (i := 0) (pc := 21) dX1_pruneBy_21 rfl rfl ?_
      refine J_getf (k := 5) (pc := 22) dX1_pruneBy_22 flX1_27 k0 rfl ?_
      refine J_iload (i := 4) (pc := 25) dX1_pruneBy_25 rfl ?_
      refine J_aload_n (i := 1) (pc := 27) dX1_pruneBy_27 rfl rfl ?_
      refine J_aload_n (i := 0) (pc := 28) dX1_pruneBy_28 rfl rfl ?_
      refine J_getf (k := 4) (pc := 29) dX1_pruneBy_29 flX1_24 k0 rfl ?_
      refine J_iload (i := 4) (pc := 32) dX1_pruneBy_32 rfl ?_
      refine J_iald (j := p) (pc := 34) dX1_pruneBy_34 k5 rfl (by omega) (by omega) ?_
      rw [show mf p = nI (X) from hm0]
      refine J_aload_n (i := 0) (pc := 35) dX1_pruneBy_35 rfl rfl ?_
      refine J_getf (k := 1) (pc := 36) dX1_pruneBy_36 flX1_15 k0 rfl ?_
      refine J_iload (i := 4) (pc := 39) dX1_pruneBy_39 rfl ?_
      refine J_iald (j := p) (pc := 41) dX1_pruneBy_41 k2 rfl (by omega) (by omega) ?_
      rw [show sf p = nI (s) from e2]
      refine J_cVi (st := [.int (nI (p)), .ref (t + 6)]) (As := [.int (nI (X)), .int (nI (s))]) (pc := 42) dX1_pruneBy_42 okX0_howManyOfSort q2_18 q1_182 q1_183 (rfl : vwCl[0]? = some _) b9 rfl (Nat.le_of_ble_eq_true rfl) (Nat.le_of_ble_eq_true rfl) (c_howManyOfSort hB2 (by omega) (by omega)) ?_
      refine J_iast (j := p) (pc := 45) dX1_pruneBy_45 k6 rfl (by omega) (by omega) ?_
      obtain ⟨h_1, eh_1⟩ : ∃ z : MH, z = (h2.1, hset h2.2 (t + 6) (aI (39) (upd rf2 (p) (nI (ofS β X s))))) := ⟨_, rfl⟩
      refine J_heq (h2 := h_1) eh_1 ?_
      have H_2 : h_1.2 (t) = some (oB 1 [.ref (t + 1), .ref (t + 2), .ref (t + 3), .ref (t + 4), .ref (t + 5), .ref (t + 6), .int (nI (n)), .int (pa), .int (le)]) := (hs_n eh_1 (by omega)).trans k0
      have H_3 : h_1.2 (t + 1) = some (aI (39) (cf2)) := (hs_n eh_1 (by omega)).trans k1
      have H_4 : h_1.2 (t + 2) = some (aI (39) (sf)) := (hs_n eh_1 (by omega)).trans k2
      have H_5 : h_1.2 (t + 3) = some (aI (39) (gf)) := (hs_n eh_1 (by omega)).trans k3
      have H_6 : h_1.2 (t + 4) = some (aI (39) (df)) := (hs_n eh_1 (by omega)).trans k4
      have H_7 : h_1.2 (t + 5) = some (aI (39) (mf)) := (hs_n eh_1 (by omega)).trans k5
      have H_8 : h_1.2 (t + 6) = some (aI (39) (upd rf2 (p) (nI (ofS β X s)))) := hs_s eh_1
      have H_9 : h_1.2 (2) = some (oB 0 [.ref (3), .ref (7), .ref (8), .ref (9), .int (nI (β.1)), .int (nI (β.2.1))]) := (hs_n eh_1 (by omega)).trans b9
      have H_10 : BH h_1 β := by rw [eh_1]; exact BH_set (by omega) hB2
      have H_11 : Fr (t + 1) (t + 6) h2 h_1 := by rw [eh_1]; exact Fr_st Fr_rfl (by omega) (by omega)
      refine J_aload_n (i := 0) (pc := 46) dX1_pruneBy_46 rfl rfl ?_
      refine J_iload (i := 4) (pc := 47) dX1_pruneBy_47 rfl ?_
      refine J_cVi (st := []) (As := [.int (nI (p))]) (pc := 49) dX1_pruneBy_49 okX1_highPartAt q2_14 q2_15 q2_16 (rfl : vwCl[1]? = some _) H_2 rfl (Nat.le_of_ble_eq_true rfl) (Nat.le_of_ble_eq_true rfl) (c_high2 ⟨H_2, H_3, H_4, H_5, H_6, H_7, H_8⟩ hn hK e12 hc (by omega) hp) ?_
      refine J_istore (i := 5) (lv' := [(5, .int (nI (p + 1 + nN d l))), (4, .int (nI (p))), (3, .int (nI (T + tuP β d r (sdf X (X &&& mkC β c)) + tuP β d l (X &&& mkC β c)))), (0, .ref (t)), (1, .ref (2)), (2, .int (nI (S)))]) (pc := 52) dX1_pruneBy_52 (by decide) rfl ?_
      refine J_iload (i := 5) (pc := 54) dX1_pruneBy_54 rfl ?_
      refine J_if_lt (tgt := 113) (pc := 56) dX1_pruneBy_56 (by decide) (fun c56 => absurd c56 (nI_pos (by omega))) (fun c56 => ?_)
      refine J_aload_n (i := 0) (pc := 59) dX1_pruneBy_59 rfl rfl ?_
      refine J_getf (k := 5) (pc := 60) dX1_pruneBy_60 flX1_27 H_2 rfl ?_
      refine J_iload (i := 4) (pc := 63) dX1_pruneBy_63 rfl ?_
      refine J_iconst (v := nI (1)) (pc := 65) dX1_pruneBy_65 rfl ?_
      refine J_iaddN (pc := 66) dX1_pruneBy_66 ?_
      refine J_iald (j := p + 1) (pc := 67) dX1_pruneBy_67 H_8 rfl (by omega) (by omega) ?_
      rw [show upd rf2 (p) (nI (ofS β X s)) (p + 1) = nI (rgT β d (prT β d l (X &&& mkC β c)) (X &&& mkC β c)) from (pk_un (by omega)).trans ri2]
      refine J_aload_n (i := 0) (pc := 68) dX1_pruneBy_68 rfl rfl ?_
      refine J_getf (k := 5) (pc := 69) dX1_pruneBy_69 flX1_27 H_2 rfl ?_
      refine J_iload (i := 5) (pc := 72) dX1_pruneBy_72 rfl ?_
      refine J_iald (j := p + 1 + nN d l) (pc := 74) dX1_pruneBy_74 H_8 rfl (by omega) (by omega) ?_
      rw [show upd rf2 (p) (nI (ofS β X s)) (p + 1 + nN d l) = nI (rgT β d (prT β d r (sdf X (X &&& mkC β c))) (sdf X (X &&& mkC β c))) from (pk_un (by omega)).trans eri]
      refine J_iaddN (pc := 75) dX1_pruneBy_75 ?_
      refine J_istore (i := 6) (lv' := [(6, .int (nI ((rgT β d (prT β d l (X &&& mkC β c)) (X &&& mkC β c)) + (rgT β d (prT β d r (sdf X (X &&& mkC β c))) (sdf X (X &&& mkC β c)))))), (5, .int (nI (p + 1 + nN d l))), (4, .int (nI (p))), (3, .int (nI (T + tuP β d r (sdf X (X &&& mkC β c)) + tuP β d l (X &&& mkC β c)))), (0, .ref (t)), (1, .ref (2)), (2, .int (nI (S)))]) (pc := 76) dX1_pruneBy_76 (by decide) rfl ?_
      refine J_iload (i := 6) (pc := 78) dX1_pruneBy_78 rfl ?_
      refine J_aload_n (i := 0) (pc := 80) dX1_pruneBy_80 rfl rfl ?_
      refine J_getf (k := 5) (pc := 81) dX1_pruneBy_81 flX1_27 H_2 rfl ?_
      refine J_iload (i := 4) (pc := 84) dX1_pruneBy_84 rfl ?_
      refine J_iald (j := p) (pc := 86) dX1_pruneBy_86 H_8 rfl (by omega) (by omega) ?_
      rw [show upd rf2 (p) (nI (ofS β X s)) p = nI (ofS β X s) from pk_us]
      refine J_icmp_leN (tgt := 102) (pc := 87) dX1_pruneBy_87 (by decide) (by omega) (by omega) (fun c87 => ?_) (fun c87 => ?_)
      · skip
        have c87a : ¬ ofS β X s < rgT β d (prT β d l (X &&& mkC β c)) (X &&& mkC β c) + rgT β d (prT β d r (sdf X (X &&& mkC β c))) (sdf X (X &&& mkC β c)) := by omega
        refine J_aload_n (i := 0) (pc := 102) dX1_pruneBy_102 rfl rfl ?_
        refine J_getf (k := 0) (pc := 103) dX1_pruneBy_103 flX1_9 H_2 rfl ?_
        refine J_iload (i := 4) (pc := 106) dX1_pruneBy_106 rfl ?_
        refine J_iconst (v := (-1)) (pc := 108) dX1_pruneBy_108 rfl ?_
        refine J_iast (j := p) (pc := 109) dX1_pruneBy_109 H_3 rfl (by omega) (by omega) ?_
        obtain ⟨h_12, eh_12⟩ : ∃ z : MH, z = (h_1.1, hset h_1.2 (t + 1) (aI (39) (upd cf2 (p) ((-1))))) := ⟨_, rfl⟩
        refine J_heq (h2 := h_12) eh_12 ?_
        have H_13 : h_12.2 (t) = some (oB 1 [.ref (t + 1), .ref (t + 2), .ref (t + 3), .ref (t + 4), .ref (t + 5), .ref (t + 6), .int (nI (n)), .int (pa), .int (le)]) := (hs_n eh_12 (by omega)).trans H_2
        have H_14 : h_12.2 (t + 1) = some (aI (39) (upd cf2 (p) ((-1)))) := hs_s eh_12
        have H_15 : h_12.2 (t + 2) = some (aI (39) (sf)) := (hs_n eh_12 (by omega)).trans H_4
        have H_16 : h_12.2 (t + 3) = some (aI (39) (gf)) := (hs_n eh_12 (by omega)).trans H_5
        have H_17 : h_12.2 (t + 4) = some (aI (39) (df)) := (hs_n eh_12 (by omega)).trans H_6
        have H_18 : h_12.2 (t + 5) = some (aI (39) (mf)) := (hs_n eh_12 (by omega)).trans H_7
        have H_19 : h_12.2 (t + 6) = some (aI (39) (upd rf2 (p) (nI (ofS β X s)))) := (hs_n eh_12 (by omega)).trans H_8
        have H_20 : h_12.2 (2) = some (oB 0 [.ref (3), .ref (7), .ref (8), .ref (9), .int (nI (β.1)), .int (nI (β.2.1))]) := (hs_n eh_12 (by omega)).trans H_9
        have H_21 : BH h_12 β := by rw [eh_12]; exact BH_set (by omega) H_10
        have H_22 : Fr (t + 1) (t + 6) h2 h_12 := by rw [eh_12]; exact Fr_st H_11 (by omega) (by omega)
        refine J_iinc (i := 3) (v := nI ((T + tuP β d r (sdf X (X &&& mkC β c)) + tuP β d l (X &&& mkC β c)) + 1)) (lv' := [(3, .int (nI ((T + tuP β d r (sdf X (X &&& mkC β c)) + tuP β d l (X &&& mkC β c)) + 1))), (6, .int (nI ((rgT β d (prT β d l (X &&& mkC β c)) (X &&& mkC β c)) + (rgT β d (prT β d r (sdf X (X &&& mkC β c))) (sdf X (X &&& mkC β c)))))), (5, .int (nI (p + 1 + nN d l))), (4, .int (nI (p))), (0, .ref (t)), (1, .ref (2)), (2, .int (nI (S)))]) (pc := 110) dX1_pruneBy_110 rfl (nI_add (T + tuP β d r (sdf X (X &&& mkC β c)) + tuP β d l (X &&& mkC β c)) 1) (by decide) rfl ?_
        refine J_iinc (i := 4) (v := (pm p)) (lv' := [(4, .int (pm p)), (3, .int (nI ((T + tuP β d r (sdf X (X &&& mkC β c)) + tuP β d l (X &&& mkC β c)) + 1))), (6, .int (nI ((rgT β d (prT β d l (X &&& mkC β c)) (X &&& mkC β c)) + (rgT β d (prT β d r (sdf X (X &&& mkC β c))) (sdf X (X &&& mkC β c)))))), (5, .int (nI (p + 1 + nN d l))), (0, .ref (t)), (1, .ref (2)), (2, .int (nI (S)))]) (pc := 113) dX1_pruneBy_113 rfl rfl (by decide) rfl ?_
        refine J_goto (tgt := 16) (pc := 116) dX1_pruneBy_116 (by decide) ?_
        refine J_sub (lv' := [(4, .int (pm p)), (3, .int (nI ((T + tuP β d r (sdf X (X &&& mkC β c)) + tuP β d l (X &&& mkC β c)) + 1))), (0, .ref (t)), (1, .ref (2)), (2, .int (nI (S)))]) [0, 1, 4, 5, 6] rfl ?_
        have r9 := hk h_12 (upd cf2 (p) ((-1))) (upd rf2 (p) (nI (ofS β X s))) (Fr_tr fr1 (Fr_tr fr2 H_22)) ⟨H_13, H_14, H_15, H_16, H_17, H_18, H_19⟩ ?_ ?_ ?_ ?_
        · rw [show T + tuP β (d + 1) ((s, m), some (c, l, r)) X = T + tuP β d r (sdf X (X &&& mkC β c)) + tuP β d l (X &&& mkC β c) + 1 from by rw [tuP, if_neg c87a]; omega] at r9
          exact r9
        · intro q hq
          have hq2 : q < 1 + nN d l + nN d r := hq
          cases q with
          | zero =>
            show upd cf2 p (-1) p = _
            rw [cuP, if_neg c87a, pk_us]
            rfl
          | succ q =>
            rw [pk_un (by omega)]
            exact cuq q hq2
        · rw [pk_us, prT, if_neg c87a]
          rfl
        · intro q hq
          have hq2 : q < p ∨ p + (1 + nN d l + nN d r) ≤ q := hq
          rw [pk_un (by omega), co2 q (by omega), co1 q (by omega)]
        · intro q hq
          have hq2 : q < p ∨ p + (1 + nN d l + nN d r) ≤ q := hq
          rw [pk_un (by omega), ro2 q (by omega), ro1 q (by omega)]
      · skip
        have c87a : ofS β X s < rgT β d (prT β d l (X &&& mkC β c)) (X &&& mkC β c) + rgT β d (prT β d r (sdf X (X &&& mkC β c))) (sdf X (X &&& mkC β c)) := c87
        refine J_aload_n (i := 0) (pc := 90) dX1_pruneBy_90 rfl rfl ?_
        refine J_getf (k := 5) (pc := 91) dX1_pruneBy_91 flX1_27 H_2 rfl ?_
        refine J_iload (i := 4) (pc := 94) dX1_pruneBy_94 rfl ?_
        refine J_iload (i := 6) (pc := 96) dX1_pruneBy_96 rfl ?_
        refine J_iast (j := p) (pc := 98) dX1_pruneBy_98 H_8 rfl (by omega) (by omega) ?_
        obtain ⟨h_23, eh_23⟩ : ∃ z : MH, z = (h_1.1, hset h_1.2 (t + 6) (aI (39) (upd (upd rf2 (p) (nI (ofS β X s))) (p) (nI ((rgT β d (prT β d l (X &&& mkC β c)) (X &&& mkC β c)) + (rgT β d (prT β d r (sdf X (X &&& mkC β c))) (sdf X (X &&& mkC β c)))))))) := ⟨_, rfl⟩
        refine J_heq (h2 := h_23) eh_23 ?_
        have H_24 : h_23.2 (t) = some (oB 1 [.ref (t + 1), .ref (t + 2), .ref (t + 3), .ref (t + 4), .ref (t + 5), .ref (t + 6), .int (nI (n)), .int (pa), .int (le)]) := (hs_n eh_23 (by omega)).trans H_2
        have H_25 : h_23.2 (t + 1) = some (aI (39) (cf2)) := (hs_n eh_23 (by omega)).trans H_3
        have H_26 : h_23.2 (t + 2) = some (aI (39) (sf)) := (hs_n eh_23 (by omega)).trans H_4
        have H_27 : h_23.2 (t + 3) = some (aI (39) (gf)) := (hs_n eh_23 (by omega)).trans H_5
        have H_28 : h_23.2 (t + 4) = some (aI (39) (df)) := (hs_n eh_23 (by omega)).trans H_6
        have H_29 : h_23.2 (t + 5) = some (aI (39) (mf)) := (hs_n eh_23 (by omega)).trans H_7
        have H_30 : h_23.2 (t + 6) = some (aI (39) (upd (upd rf2 (p) (nI (ofS β X s))) (p) (nI ((rgT β d (prT β d l (X &&& mkC β c)) (X &&& mkC β c)) + (rgT β d (prT β d r (sdf X (X &&& mkC β c))) (sdf X (X &&& mkC β c))))))) := hs_s eh_23
        have H_31 : h_23.2 (2) = some (oB 0 [.ref (3), .ref (7), .ref (8), .ref (9), .int (nI (β.1)), .int (nI (β.2.1))]) := (hs_n eh_23 (by omega)).trans H_9
        have H_32 : BH h_23 β := by rw [eh_23]; exact BH_set (by omega) H_10
        have H_33 : Fr (t + 1) (t + 6) h2 h_23 := by rw [eh_23]; exact Fr_st H_11 (by omega) (by omega)
        refine J_goto (tgt := 113) (pc := 99) dX1_pruneBy_99 (by decide) ?_
        refine J_iinc (i := 4) (v := (pm p)) (lv' := [(4, .int (pm p)), (6, .int (nI ((rgT β d (prT β d l (X &&& mkC β c)) (X &&& mkC β c)) + (rgT β d (prT β d r (sdf X (X &&& mkC β c))) (sdf X (X &&& mkC β c)))))), (5, .int (nI (p + 1 + nN d l))), (3, .int (nI (T + tuP β d r (sdf X (X &&& mkC β c)) + tuP β d l (X &&& mkC β c)))), (0, .ref (t)), (1, .ref (2)), (2, .int (nI (S)))]) (pc := 113) dX1_pruneBy_113 rfl rfl (by decide) rfl ?_
        refine J_goto (tgt := 16) (pc := 116) dX1_pruneBy_116 (by decide) ?_
        refine J_sub (lv' := [(4, .int (pm p)), (3, .int (nI (T + tuP β d r (sdf X (X &&& mkC β c)) + tuP β d l (X &&& mkC β c)))), (0, .ref (t)), (1, .ref (2)), (2, .int (nI (S)))]) [0, 3, 4, 5, 6] rfl ?_
        have r9 := hk h_23 cf2 (upd (upd rf2 (p) (nI (ofS β X s))) (p) (nI ((rgT β d (prT β d l (X &&& mkC β c)) (X &&& mkC β c)) + (rgT β d (prT β d r (sdf X (X &&& mkC β c))) (sdf X (X &&& mkC β c)))))) (Fr_tr fr1 (Fr_tr fr2 H_33)) ⟨H_24, H_25, H_26, H_27, H_28, H_29, H_30⟩ ?_ ?_ ?_ ?_
        · rw [show T + tuP β (d + 1) ((s, m), some (c, l, r)) X = T + tuP β d r (sdf X (X &&& mkC β c)) + tuP β d l (X &&& mkC β c) from by rw [tuP, if_pos c87a]; omega] at r9
          exact r9
        · intro q hq
          have hq2 : q < 1 + nN d l + nN d r := hq
          cases q with
          | zero =>
            show cf2 p = _
            rw [cuP, if_pos c87a, co2 p (by omega), co1 p (by omega)]
            exact e1
          | succ q => exact cuq q hq2
        · rw [pk_us, prT, if_pos c87a]
          rfl
        · intro q hq
          have hq2 : q < p ∨ p + (1 + nN d l + nN d r) ≤ q := hq
          rw [co2 q (by omega), co1 q (by omega)]
        · intro q hq
          have hq2 : q < p ∨ p + (1 + nN d l + nN d r) ≤ q := hq
          rw [pk_un (by omega), pk_un (by omega), ro2 q (by omega), ro1 q (by omega)]
