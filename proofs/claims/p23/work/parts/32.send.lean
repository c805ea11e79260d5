-- beans are sent in; about how many a tree is right; what it says
def cmT (β : BT) : (d : Nat) → TR d → Nat → Nat → Nat
  | 0, _, X, _ => X
  | _ + 1, (_, none), X, _ => X
  | _ + 1, (_, some (_, _, _)), X, 0 => X
  | d + 1, (_, some (c, l, r)), X, q + 1 => if q < nN d l then cmT β d l (X &&& mkC β c) q else cmT β d r (sdf X (X &&& mkC β c)) (q - nN d l)
theorem cmT_le (β : BT) : ∀ (d : Nat) (t : TR d) (X q : Nat), cmT β d t X q ≤ X
  | 0, _, X, _ => Nat.le_refl X
  | d + 1, t, X, q => by
    rcases TR_c t with ⟨s, m, rfl⟩ | ⟨s, m, c, l, r, rfl⟩
    · exact Nat.le_refl X
    · cases q with
      | zero => exact Nat.le_refl X
      | succ q =>
        show (if q < nN d l then cmT β d l (X &&& mkC β c) q else cmT β d r (sdf X (X &&& mkC β c)) (q - nN d l)) ≤ X
        split
        · exact Nat.le_trans (cmT_le β d l _ _) Nat.and_le_left
        · exact Nat.le_trans (cmT_le β d r _ _) (sdf_le _ _)
theorem cmT_0 (β : BT) : ∀ (d : Nat) (t : TR d) (X : Nat), cmT β d t X 0 = X
  | 0, _, X => rfl
  | d + 1, t, X => by rcases TR_c t with ⟨s, m, rfl⟩ | ⟨s, m, c, l, r, rfl⟩ <;> rfl

set_option maxHeartbeats 2000000 in
set_option maxRecDepth 20000 in
theorem c_lowC {g : GT} {d : Nat} {h : MH} {β : BT} (hB : BH h β) {s c : Nat} (hc : c < 153) : J g d 0 0 mX0_lowOf 0 (lv_args 0 [.ref 2, .int (nI s), .int (nI c)]) [] h (RI (nI (s &&& mkC β c)) h) := by
  have r := c_lowOf (g := g) (d := d) hB (s := s) (m := c / 51) (x := c % 51) (by omega) (by omega)
  rw [show c / 51 * 51 + c % 51 = c by omega] at r
  exact r

set_option maxHeartbeats 2000000 in
set_option maxRecDepth 20000 in
theorem send_blk {g : GT} {dd : Nat} {β : BT} {t n S : Nat} {pa le : Int32} {cf sf gf df rf : Nat → Int32} {Q : RT → MH → Prop} (ht : 9 < t) (hn : n ≤ 39) : ∀ (d D : Nat) (tr : TR d) (p X : Nat) (h : MH) (mf : Nat → Int32), TO h t (nI n) pa le cf sf gf df mf rf → BH h β → Blk (G4 cf sf gf df) p d D tr → okT d tr → D + d < 1000 → p + nN d tr ≤ n → X < 2 ^ 20 → mf p = nI X →
    (∀ h' mf', Fr (t + 5) (t + 5) h h' → TO h' t (nI n) pa le cf sf gf df mf' rf → (∀ q, q < nN d tr → mf' (p + q) = nI (cmT β d tr X q)) → (∀ q, q < p ∨ p + nN d tr ≤ q → mf' q = mf q) → J g (dd + 1) 0 0 mX1_send 9 [(3, .int (nI (p + nN d tr))), (0, .ref (t)), (1, .ref (2)), (2, .int (nI (S)))] [] h' Q) →
    J g (dd + 1) 0 0 mX1_send 9 [(3, .int (nI (p))), (0, .ref (t)), (1, .ref (2)), (2, .int (nI (S)))] [] h Q := by
  intro d
  induction d with
  | zero =>
    intro D tr p X h mf hT hB hK ok hD hp hX hm hk
    obtain ⟨s, m⟩ := tr
    · skip
      obtain ⟨k0, k1, k2, k3, k4, k5, k6⟩ := id hT
      have b9 := BH_2 hB
      have hp2 : p + 1 ≤ n := hp
      have e1 : cf p = -1 := congrArg (fun q : Q4 => q.1) (Blk_0 hK)
      refine J_iload_n (i := 3) (pc := 9) dX1_send_9 rfl rfl ?_
      refine J_aload_n (i := 0) (pc := 10) dX1_send_10 rfl rfl ?_
      refine J_getf (k := 6) (pc := 11) dX1_send_11 flX1_30 k0 rfl ?_
      refine J_icmp_geN (tgt := 81) (pc := 14) dX1_send_14 (by decide) (by omega) (by omega) (fun c14 => by exfalso; first | omega | simp_all) (fun c14 => ?_)
      refine J_aload_n (i := 0) (pc := 17) dX1_send_17 rfl rfl ?_
      refine J_iload_n (i := 3) (pc := 18) dX1_send_18 rfl rfl ?_
      refine J_cVi (st := []) (As := [.int (nI (p))]) (pc := 19) dX1_send_19 okX1_highPartAt q2_14 q2_15 q2_16 (rfl : vwCl[1]? = some _) k0 rfl (Nat.le_of_ble_eq_true rfl) (Nat.le_of_ble_eq_true rfl) (c_highL hT hn e1 (by omega)) ?_
      refine J_istore (i := 4) (lv' := [(4, .int (-1)), (3, .int (nI (p))), (0, .ref (t)), (1, .ref (2)), (2, .int (nI (S)))]) (pc := 22) dX1_send_22 (by decide) rfl ?_
      refine J_iload (i := 4) (pc := 24) dX1_send_24 rfl ?_
      refine J_if_lt (tgt := 75) (pc := 26) dX1_send_26 (by decide) (fun c26 => ?_) (fun c26 => absurd c26 (by decide))
      refine J_iinc (i := 3) (v := nI (p + 1)) (lv' := [(3, .int (nI (p + 1))), (4, .int (-1)), (0, .ref (t)), (1, .ref (2)), (2, .int (nI (S)))]) (pc := 75) dX1_send_75 rfl (nI_add (p) 1) (by decide) rfl ?_
      refine J_goto (tgt := 9) (pc := 78) dX1_send_78 (by decide) ?_
      refine J_sub (lv' := [(3, .int (nI (p + 1))), (0, .ref (t)), (1, .ref (2)), (2, .int (nI (S)))]) [0, 2, 3, 4] rfl ?_
      exact hk h mf Fr_rfl hT (fun q hq => by obtain rfl : q = 0 := (by have hq2 : q < 1 := hq; omega); exact hm) (fun q _ => rfl)
  | succ d ih =>
    intro D tr p X h mf hT hB hK ok hD hp hX hm hk
    rcases TR_c tr with ⟨s, m, rfl⟩ | ⟨s, m, c, l, r, rfl⟩
    · skip
      obtain ⟨k0, k1, k2, k3, k4, k5, k6⟩ := id hT
      have b9 := BH_2 hB
      have hp2 : p + 1 ≤ n := hp
      have e1 : cf p = -1 := congrArg (fun q : Q4 => q.1) (Blk_l hK)
      refine J_iload_n (i := 3) (pc := 9) dX1_send_9 rfl rfl ?_
      refine J_aload_n (i := 0) (pc := 10) dX1_send_10 rfl rfl ?_
      refine J_getf (k := 6) (pc := 11) dX1_send_11 flX1_30 k0 rfl ?_
      refine J_icmp_geN (tgt := 81) (pc := 14) dX1_send_14 (by decide) (by omega) (by omega) (fun c14 => by exfalso; first | omega | simp_all) (fun c14 => ?_)
      refine J_aload_n (i := 0) (pc := 17) dX1_send_17 rfl rfl ?_
      refine J_iload_n (i := 3) (pc := 18) dX1_send_18 rfl rfl ?_
      refine J_cVi (st := []) (As := [.int (nI (p))]) (pc := 19) dX1_send_19 okX1_highPartAt q2_14 q2_15 q2_16 (rfl : vwCl[1]? = some _) k0 rfl (Nat.le_of_ble_eq_true rfl) (Nat.le_of_ble_eq_true rfl) (c_highL hT hn e1 (by omega)) ?_
      refine J_istore (i := 4) (lv' := [(4, .int (-1)), (3, .int (nI (p))), (0, .ref (t)), (1, .ref (2)), (2, .int (nI (S)))]) (pc := 22) dX1_send_22 (by decide) rfl ?_
      refine J_iload (i := 4) (pc := 24) dX1_send_24 rfl ?_
      refine J_if_lt (tgt := 75) (pc := 26) dX1_send_26 (by decide) (fun c26 => ?_) (fun c26 => absurd c26 (by decide))
      refine J_iinc (i := 3) (v := nI (p + 1)) (lv' := [(3, .int (nI (p + 1))), (4, .int (-1)), (0, .ref (t)), (1, .ref (2)), (2, .int (nI (S)))]) (pc := 75) dX1_send_75 rfl (nI_add (p) 1) (by decide) rfl ?_
      refine J_goto (tgt := 9) (pc := 78) dX1_send_78 (by decide) ?_
      refine J_sub (lv' := [(3, .int (nI (p + 1))), (0, .ref (t)), (1, .ref (2)), (2, .int (nI (S)))]) [0, 2, 3, 4] rfl ?_
      exact hk h mf Fr_rfl hT (fun q hq => by obtain rfl : q = 0 := (by have hq2 : q < 1 := hq; omega); exact hm) (fun q _ => rfl)
    · obtain ⟨k0, k1, k2, k3, k4, k5, k6⟩ := id hT
      have b9 := BH_2 hB
      obtain ⟨b0, b1, b2⟩ := Blk_f hK
      have n1 := nN_pos d l
      have n2 := nN_pos d r
      have hp2 : p + (1 + nN d l + nN d r) ≤ n := hp
      have hc := ok.2.1
      have e1 : cf p = nI c := congrArg (fun q : Q4 => q.1) b0
      refine J_iload_n (i := 3) (pc := 9) dX1_send_9 rfl rfl ?_
      refine J_aload_n (i := 0) (pc := 10) dX1_send_10 rfl rfl ?_
      refine J_getf (k := 6) (pc := 11) dX1_send_11 flX1_30 k0 rfl ?_
      refine J_icmp_geN (tgt := 81) (pc := 14) dX1_send_14 (by decide) (by omega) (by omega) (fun c14 => by exfalso; first | omega | simp_all) (fun c14 => ?_)
      refine J_aload_n (i := 0) (pc := 17) dX1_send_17 rfl rfl ?_
      refine J_iload_n (i := 3) (pc := 18) dX1_send_18 rfl rfl ?_
      refine J_cVi (st := []) (As := [.int (nI (p))]) (pc := 19) dX1_send_19 okX1_highPartAt q2_14 q2_15 q2_16 (rfl : vwCl[1]? = some _) k0 rfl (Nat.le_of_ble_eq_true rfl) (Nat.le_of_ble_eq_true rfl) (c_high hT hn hK ok.2.1 (by omega) hp) ?_
      refine J_istore (i := 4) (lv' := [(4, .int (nI (p + 1 + nN d l))), (3, .int (nI (p))), (0, .ref (t)), (1, .ref (2)), (2, .int (nI (S)))]) (pc := 22) dX1_send_22 (by decide) rfl ?_
      refine J_iload (i := 4) (pc := 24) dX1_send_24 rfl ?_
      refine J_if_lt (tgt := 75) (pc := 26) dX1_send_26 (by decide) (fun c26 => absurd c26 (nI_pos (by omega))) (fun c26 => ?_)
      refine J_aload_n (i := 1) (pc := 29) dX1_send_29 rfl rfl ?_
      refine J_aload_n (i := 0) (pc := 30) dX1_send_30 rfl rfl ?_
      refine J_getf (k := 4) (pc := 31) dX1_send_31 flX1_24 k0 rfl ?_
      refine J_iload_n (i := 3) (pc := 34) dX1_send_34 rfl rfl ?_
      refine J_iald (j := p) (pc := 35) dX1_send_35 k5 rfl (by omega) (by omega) ?_
      rw [show mf p = nI (X) from hm]
      refine J_aload_n (i := 0) (pc := 36) dX1_send_36 rfl rfl ?_
      refine J_getf (k := 0) (pc := 37) dX1_send_37 flX1_9 k0 rfl ?_
      refine J_iload_n (i := 3) (pc := 40) dX1_send_40 rfl rfl ?_
      refine J_iald (j := p) (pc := 41) dX1_send_41 k1 rfl (by omega) (by omega) ?_
      rw [show cf p = nI (c) from e1]
      refine J_cVi (st := []) (As := [.int (nI (X)), .int (nI (c))]) (pc := 42) dX1_send_42 okX0_lowOf q1_224 q1_197 q1_198 (rfl : vwCl[0]? = some _) b9 rfl (Nat.le_of_ble_eq_true rfl) (Nat.le_of_ble_eq_true rfl) (c_lowC hB (by omega)) ?_
      obtain ⟨low, elow⟩ : ∃ z : Nat, z = X &&& mkC β c := ⟨_, rfl⟩
      rw [← elow]
      have hlow : low ≤ X := by rw [elow]; exact Nat.and_le_left
      refine J_istore (i := 5) (lv' := [(5, .int (nI (low))), (4, .int (nI (p + 1 + nN d l))), (3, .int (nI (p))), (0, .ref (t)), (1, .ref (2)), (2, .int (nI (S)))]) (pc := 45) dX1_send_45 (by decide) rfl ?_
      refine J_aload_n (i := 0) (pc := 47) dX1_send_47 rfl rfl ?_
      refine J_getf (k := 4) (pc := 48) dX1_send_48 flX1_24 k0 rfl ?_
      refine J_iload_n (i := 3) (pc := 51) dX1_send_51 rfl rfl ?_
      refine J_iconst (v := nI (1)) (pc := 52) dX1_send_52 rfl ?_
      refine J_iaddN (pc := 53) dX1_send_53 ?_
      refine J_iload (i := 5) (pc := 54) dX1_send_54 rfl ?_
      refine J_iast (j := p + 1) (pc := 56) dX1_send_56 k5 rfl (by omega) (by omega) ?_
      obtain ⟨h_1, eh_1⟩ : ∃ z : MH, z = (h.1, hset h.2 (t + 5) (aI (39) (upd mf (p + 1) (nI (low))))) := ⟨_, rfl⟩
      refine J_heq (h2 := h_1) eh_1 ?_
      have H_2 : h_1.2 (t) = some (oB 1 [.ref (t + 1), .ref (t + 2), .ref (t + 3), .ref (t + 4), .ref (t + 5), .ref (t + 6), .int (nI (n)), .int (pa), .int (le)]) := (hs_n eh_1 (by omega)).trans k0
      have H_3 : h_1.2 (t + 1) = some (aI (39) (cf)) := (hs_n eh_1 (by omega)).trans k1
      have H_4 : h_1.2 (t + 2) = some (aI (39) (sf)) := (hs_n eh_1 (by omega)).trans k2
      have H_5 : h_1.2 (t + 3) = some (aI (39) (gf)) := (hs_n eh_1 (by omega)).trans k3
      have H_6 : h_1.2 (t + 4) = some (aI (39) (df)) := (hs_n eh_1 (by omega)).trans k4
      have H_7 : h_1.2 (t + 5) = some (aI (39) (upd mf (p + 1) (nI (low)))) := hs_s eh_1
      have H_8 : h_1.2 (t + 6) = some (aI (39) (rf)) := (hs_n eh_1 (by omega)).trans k6
      have H_9 : h_1.2 (2) = some (oB 0 [.ref (3), .ref (7), .ref (8), .ref (9), .int (nI (β.1)), .int (nI (β.2.1))]) := (hs_n eh_1 (by omega)).trans b9
      have H_10 : BH h_1 β := by rw [eh_1]; exact BH_set (by omega) hB
      have H_11 : Fr (t + 5) (t + 5) h h_1 := by rw [eh_1]; exact Fr_st Fr_rfl (by omega) (by omega)
      refine J_aload_n (i := 0) (pc := 57) dX1_send_57 rfl rfl ?_
      refine J_getf (k := 4) (pc := 58) dX1_send_58 flX1_24 H_2 rfl ?_
      refine J_iload (i := 4) (pc := 61) dX1_send_61 rfl ?_
      refine J_aload_n (i := 0) (pc := 63) dX1_send_63 rfl rfl ?_
      refine J_getf (k := 4) (pc := 64) dX1_send_64 flX1_24 H_2 rfl ?_
      refine J_iload_n (i := 3) (pc := 67) dX1_send_67 rfl rfl ?_
      refine J_iald (j := p) (pc := 68) dX1_send_68 H_7 rfl (by omega) (by omega) ?_
      rw [show upd mf (p + 1) (nI (low)) p = nI (X) from (pk_un (by omega)).trans hm]
      refine J_iload (i := 5) (pc := 69) dX1_send_69 rfl ?_
      refine J_iconst (v := (-1)) (pc := 71) dX1_send_71 rfl ?_
      refine J_ixor (pc := 72) dX1_send_72 ?_
      refine J_iandX (pc := 73) dX1_send_73 ?_
      refine J_iast (j := p + 1 + nN d l) (pc := 74) dX1_send_74 H_7 rfl (by omega) (by omega) ?_
      obtain ⟨h_12, eh_12⟩ : ∃ z : MH, z = (h_1.1, hset h_1.2 (t + 5) (aI (39) (upd (upd mf (p + 1) (nI (low))) (p + 1 + nN d l) (nI (sdf (X) (low)))))) := ⟨_, rfl⟩
      refine J_heq (h2 := h_12) eh_12 ?_
      have H_13 : h_12.2 (t) = some (oB 1 [.ref (t + 1), .ref (t + 2), .ref (t + 3), .ref (t + 4), .ref (t + 5), .ref (t + 6), .int (nI (n)), .int (pa), .int (le)]) := (hs_n eh_12 (by omega)).trans H_2
      have H_14 : h_12.2 (t + 1) = some (aI (39) (cf)) := (hs_n eh_12 (by omega)).trans H_3
      have H_15 : h_12.2 (t + 2) = some (aI (39) (sf)) := (hs_n eh_12 (by omega)).trans H_4
      have H_16 : h_12.2 (t + 3) = some (aI (39) (gf)) := (hs_n eh_12 (by omega)).trans H_5
      have H_17 : h_12.2 (t + 4) = some (aI (39) (df)) := (hs_n eh_12 (by omega)).trans H_6
      have H_18 : h_12.2 (t + 5) = some (aI (39) (upd (upd mf (p + 1) (nI (low))) (p + 1 + nN d l) (nI (sdf (X) (low))))) := hs_s eh_12
      have H_19 : h_12.2 (t + 6) = some (aI (39) (rf)) := (hs_n eh_12 (by omega)).trans H_8
      have H_20 : h_12.2 (2) = some (oB 0 [.ref (3), .ref (7), .ref (8), .ref (9), .int (nI (β.1)), .int (nI (β.2.1))]) := (hs_n eh_12 (by omega)).trans H_9
      have H_21 : BH h_12 β := by rw [eh_12]; exact BH_set (by omega) H_10
      have H_22 : Fr (t + 5) (t + 5) h h_12 := by rw [eh_12]; exact Fr_st H_11 (by omega) (by omega)
      refine J_iinc (i := 3) (v := nI (p + 1)) (lv' := [(3, .int (nI (p + 1))), (5, .int (nI (low))), (4, .int (nI (p + 1 + nN d l))), (0, .ref (t)), (1, .ref (2)), (2, .int (nI (S)))]) (pc := 75) dX1_send_75 rfl (nI_add (p) 1) (by decide) rfl ?_
      refine J_goto (tgt := 9) (pc := 78) dX1_send_78 (by decide) ?_
      refine J_sub (lv' := [(3, .int (nI (p + 1))), (0, .ref (t)), (1, .ref (2)), (2, .int (nI (S)))]) [0, 3, 4, 5] rfl ?_
      have hT1 : TO h_12 t (nI n) pa le cf sf gf df (upd (upd mf (p + 1) (nI (low))) (p + 1 + nN d l) (nI (sdf (X) (low)))) rf := ⟨H_13, H_14, H_15, H_16, H_17, H_18, H_19⟩
      have hF1 : Fr (t + 5) (t + 5) h h_12 := H_22
      refine ih (D + 1) l (p + 1) low h_12 _ hT1 H_21 b1 ok.2.2.1 (by omega) (by omega) (by omega) (by rw [pk_un (by omega), pk_us]) ?_
      intro h2 mf2 fr2 hT2 m2 o2
      have e9 : p + 1 + nN d l < p + 1 ∨ p + 1 + nN d l ≤ p + 1 + nN d l := Or.inr (Nat.le_refl _)
      refine ih (D + 1) r (p + 1 + nN d l) (sdf X low) h2 mf2 hT2 (BH_fr fr2 (by omega) H_21) b2 ok.2.2.2 (by omega) (by omega) (Nat.lt_of_le_of_lt (sdf_le _ _) hX) (by rw [o2 _ e9, pk_us]) ?_
      intro h3 mf3 fr3 hT3 m3 o3
      have r9 := hk h3 mf3 (Fr_tr hF1 (Fr_tr fr2 fr3)) hT3 ?_ ?_
      · rw [nN_f, show p + (1 + nN d l + nN d r) = p + 1 + nN d l + nN d r by omega] at r9
        exact r9
      · intro q hq
        have hq2 : q < 1 + nN d l + nN d r := hq
        cases q with
        | zero =>
          show mf3 p = nI X
          rw [o3 p (by omega), o2 p (by omega), pk_un (by omega), pk_un (by omega)]
          exact hm
        | succ q =>
          show mf3 (p + (q + 1)) = nI (if q < nN d l then cmT β d l (X &&& mkC β c) q else cmT β d r (sdf X (X &&& mkC β c)) (q - nN d l))
          rw [← elow]
          split
          · rename_i e
            rw [show p + (q + 1) = p + 1 + q by omega, o3 _ (by omega)]
            exact m2 q e
          · rename_i e
            rw [show p + (q + 1) = p + 1 + nN d l + (q - nN d l) by omega]
            exact m3 _ (by omega)
      · intro q hq
        have hq2 : q < p ∨ p + (1 + nN d l + nN d r) ≤ q := hq
        rw [o3 q (by omega), o2 q (by omega), pk_un (by omega), pk_un (by omega)]
theorem c_send {g : GT} {dd : Nat} {h : MH} {β : BT} (hB : BH h β) {t : Nat} {pa le : Int32} {cf sf gf df mf rf : Nat → Int32} {n d S : Nat} {tr : TR d} (hT : TO h t (nI n) pa le cf sf gf df mf rf) (ht : 9 < t) (hn : n ≤ 39) (hK : Blk (G4 cf sf gf df) 0 d 0 tr) (ok : okT d tr) (hd : d < 1000) (hN : nN d tr = n) (hS : S < 2 ^ 20) :
    J g (dd + 1) 0 0 mX1_send 0 (lv_args 0 [.ref t, .ref 2, .int (nI S)]) [] h (RV (fun h' => ∃ mf', Fr (t + 5) (t + 5) h h' ∧ TO h' t (nI n) pa le cf sf gf df mf' rf ∧ ∀ q, q < n → mf' q = nI (cmT β d tr S q))) := by
  obtain ⟨k0, k1, k2, k3, k4, k5, k6⟩ := id hT
  have b9 := BH_2 hB
  refine J_aload_n (i := 0) (pc := 0) dX1_send_0 rfl rfl ?_
  refine J_getf (k := 4) (pc := 1) dX1_send_1 flX1_24 k0 rfl ?_
  refine J_iconst (v := nI (0)) (pc := 4) dX1_send_4 rfl ?_
  refine J_iload_n (i := 2) (pc := 5) dX1_send_5 rfl rfl ?_
  refine J_iast (j := 0) (pc := 6) dX1_send_6 k5 rfl (by omega) (by omega) ?_
  obtain ⟨h_1, eh_1⟩ : ∃ z : MH, z = (h.1, hset h.2 (t + 5) (aI (39) (upd mf (0) (nI (S))))) := ⟨_, rfl⟩
  refine J_heq (h2 := h_1) eh_1 ?_
  have H_2 : h_1.2 (t) = some (oB 1 [.ref (t + 1), .ref (t + 2), .ref (t + 3), .ref (t + 4), .ref (t + 5), .ref (t + 6), .int (nI (n)), .int (pa), .int (le)]) := (hs_n eh_1 (by omega)).trans k0
  have H_3 : h_1.2 (t + 1) = some (aI (39) (cf)) := (hs_n eh_1 (by omega)).trans k1
  have H_4 : h_1.2 (t + 2) = some (aI (39) (sf)) := (hs_n eh_1 (by omega)).trans k2
  have H_5 : h_1.2 (t + 3) = some (aI (39) (gf)) := (hs_n eh_1 (by omega)).trans k3
  have H_6 : h_1.2 (t + 4) = some (aI (39) (df)) := (hs_n eh_1 (by omega)).trans k4
  have H_7 : h_1.2 (t + 5) = some (aI (39) (upd mf (0) (nI (S)))) := hs_s eh_1
  have H_8 : h_1.2 (t + 6) = some (aI (39) (rf)) := (hs_n eh_1 (by omega)).trans k6
  have H_9 : h_1.2 (2) = some (oB 0 [.ref (3), .ref (7), .ref (8), .ref (9), .int (nI (β.1)), .int (nI (β.2.1))]) := (hs_n eh_1 (by omega)).trans b9
  have H_10 : BH h_1 β := by rw [eh_1]; exact BH_set (by omega) hB
  have H_11 : Fr (t + 5) (t + 5) h h_1 := by rw [eh_1]; exact Fr_st Fr_rfl (by omega) (by omega)
  refine J_iconst (v := nI (0)) (pc := 7) dX1_send_7 rfl ?_
  refine J_istore_n (i := 3) (lv' := [(3, .int (nI (0))), (0, .ref (t)), (1, .ref (2)), (2, .int (nI (S)))]) (pc := 8) dX1_send_8 rfl (by decide) rfl ?_
  refine J_sub (lv' := [(3, .int (nI (0))), (0, .ref (t)), (1, .ref (2)), (2, .int (nI (S)))]) [0, 1, 2, 3] rfl ?_
  have hT1 : TO h_1 t (nI n) pa le cf sf gf df (upd mf (0) (nI (S))) rf := ⟨H_2, H_3, H_4, H_5, H_6, H_7, H_8⟩
  refine send_blk ht hn d 0 tr 0 S h_1 _ hT1 H_10 hK ok (by omega) (by omega) hS pk_us ?_
  intro h2 mf2 fr2 hT2 m2 o2
  obtain ⟨k0, k1, k2, k3, k4, k5, k6⟩ := id hT2
  rw [show 0 + nN d tr = n by omega]
  refine J_iload_n (i := 3) (pc := 9) dX1_send_9 rfl rfl ?_
  refine J_aload_n (i := 0) (pc := 10) dX1_send_10 rfl rfl ?_
  refine J_getf (k := 6) (pc := 11) dX1_send_11 flX1_30 k0 rfl ?_
  refine J_icmp_geN (tgt := 81) (pc := 14) dX1_send_14 (by decide) (by omega) (by omega) (fun c14 => ?_) (fun c14 => by exfalso; first | omega | simp_all)
  refine J_vret (pc := 81) dX1_send_81 rfl ?_
  exact ⟨rfl, _, Fr_tr H_11 fr2, hT2, fun q hq => by have r := m2 q (by omega); rw [Nat.zero_add] at r; exact r⟩
