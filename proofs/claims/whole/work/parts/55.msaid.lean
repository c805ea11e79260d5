-- the reference: what a row says, about how many it is right, pruning
set_option maxHeartbeats 2000000 in
set_option maxRecDepth 20000 in
theorem sd_loop {g : GT} {dd : Nat} {h : MH} {A B : Nat} {f tf : Nat → Int32} {x y z : Nat} (hA : h.2 A = some (aI 320 f)) (hBc : h.2 B = some (aI 3 tf)) (ht : ∀ k, k < 3 → tf k = nI (msr x y z k)) (hx : x ≤ 50) (hy : y ≤ 50) (hz : z ≤ 50) : ∀ (d s : Nat) (t : TR d), RW f d s t → okT d t → (s + 1) * 2 ^ d ≤ 64 → d ≤ 5 → J g (dd + 1) 0 0 mX3_said 2 [(3, .int (nI (s))), (0, .ref (A)), (2, .ref (B))] [] h (RI (nI (saT d t x y z)) h) := by
  intro d
  induction d with
  | zero =>
    intro s t hr ok hs hd
    obtain ⟨st, mn⟩ := t
    have hs64 := sp64 hs
    refine J_aload_n (i := 0) (pc := 2) dX3_said_2 rfl rfl ?_
    refine J_iload_n (i := 3) (pc := 3) dX3_said_3 rfl rfl ?_
    refine J_cSi (st := []) (As := [.ref (A), .int (nI (s))]) (pc := 4) dX3_said_4 okX3_isFork q4_20 q4_21 rfl (Nat.le_of_ble_eq_true rfl) (Nat.le_of_ble_eq_true rfl) (m_isForkF hA (by omega) (RW_0 hr)) ?_
    refine J_if_eqN (tgt := 42) (pc := 7) dX3_said_7 (by decide) (by omega) (fun c7 => ?_) (fun c7 => by exfalso; first | omega | simp_all)
    refine J_aload_n (i := 0) (pc := 42) dX3_said_42 rfl rfl ?_
    refine J_iconst (v := nI (5)) (pc := 43) dX3_said_43 rfl ?_
    refine J_iload_n (i := 3) (pc := 44) dX3_said_44 rfl rfl ?_
    refine J_imulN (pc := 45) dX3_said_45 ?_
    refine J_iconst (v := nI (3)) (pc := 46) dX3_said_46 rfl ?_
    refine J_iaddN (pc := 47) dX3_said_47 ?_
    refine J_iald (j := ((5) * (s)) + 3) (pc := 48) dX3_said_48 hA rfl (by omega) (by omega) ?_
    rw [show f (((5) * (s)) + 3) = nI (st) from hr.2.1]
    refine J_iret (ty := .int) (pc := 49) dX3_said_49 rfl rfl ?_
    exact ⟨rfl, rfl⟩
  | succ d ih =>
    intro s t hr ok hs hd
    obtain ⟨hs64, p1, p2⟩ := sp2 hs
    rcases TR_c t with ⟨st, mn, rfl⟩ | ⟨st, mn, c, l, r, rfl⟩
    · skip
      refine J_aload_n (i := 0) (pc := 2) dX3_said_2 rfl rfl ?_
      refine J_iload_n (i := 3) (pc := 3) dX3_said_3 rfl rfl ?_
      refine J_cSi (st := []) (As := [.ref (A), .int (nI (s))]) (pc := 4) dX3_said_4 okX3_isFork q4_20 q4_21 rfl (Nat.le_of_ble_eq_true rfl) (Nat.le_of_ble_eq_true rfl) (m_isForkF hA (by omega) (RW_l hr)) ?_
      refine J_if_eqN (tgt := 42) (pc := 7) dX3_said_7 (by decide) (by omega) (fun c7 => ?_) (fun c7 => by exfalso; first | omega | simp_all)
      refine J_aload_n (i := 0) (pc := 42) dX3_said_42 rfl rfl ?_
      refine J_iconst (v := nI (5)) (pc := 43) dX3_said_43 rfl ?_
      refine J_iload_n (i := 3) (pc := 44) dX3_said_44 rfl rfl ?_
      refine J_imulN (pc := 45) dX3_said_45 ?_
      refine J_iconst (v := nI (3)) (pc := 46) dX3_said_46 rfl ?_
      refine J_iaddN (pc := 47) dX3_said_47 ?_
      refine J_iald (j := ((5) * (s)) + 3) (pc := 48) dX3_said_48 hA rfl (by omega) (by omega) ?_
      rw [show f (((5) * (s)) + 3) = nI (st) from hr.2.1]
      refine J_iret (ty := .int) (pc := 49) dX3_said_49 rfl rfl ?_
      exact ⟨rfl, rfl⟩
    · have hc := ok.2.1
      have hmsr : msr x y z (c / 51) ≤ 50 := by unfold msr; (repeat' split) <;> omega
      have htc := ht (c / 51) (by omega)
      refine J_aload_n (i := 0) (pc := 2) dX3_said_2 rfl rfl ?_
      refine J_iload_n (i := 3) (pc := 3) dX3_said_3 rfl rfl ?_
      refine J_cSi (st := []) (As := [.ref (A), .int (nI (s))]) (pc := 4) dX3_said_4 okX3_isFork q4_20 q4_21 rfl (Nat.le_of_ble_eq_true rfl) (Nat.le_of_ble_eq_true rfl) (m_isForkT hA (by omega) hr.1.1) ?_
      refine J_if_eqN (tgt := 42) (pc := 7) dX3_said_7 (by decide) (by omega) (fun c7 => by exfalso; first | omega | simp_all) (fun c7 => ?_)
      refine J_iconst (v := nI (2)) (pc := 10) dX3_said_10 rfl ?_
      refine J_iload_n (i := 3) (pc := 11) dX3_said_11 rfl rfl ?_
      refine J_imulN (pc := 12) dX3_said_12 ?_
      refine J_aload_n (i := 2) (pc := 13) dX3_said_13 rfl rfl ?_
      refine J_aload_n (i := 0) (pc := 14) dX3_said_14 rfl rfl ?_
      refine J_iconst (v := nI (5)) (pc := 15) dX3_said_15 rfl ?_
      refine J_iload_n (i := 3) (pc := 16) dX3_said_16 rfl rfl ?_
      refine J_imulN (pc := 17) dX3_said_17 ?_
      refine J_iconst (v := nI (1)) (pc := 18) dX3_said_18 rfl ?_
      refine J_iaddN (pc := 19) dX3_said_19 ?_
      refine J_iald (j := ((5) * (s)) + 1) (pc := 20) dX3_said_20 hA rfl (by omega) (by omega) ?_
      rw [show f (((5) * (s)) + 1) = nI (c / 51) from hr.1.2.1]
      refine J_iald (j := c / 51) (pc := 21) dX3_said_21 hBc rfl (by omega) (by omega) ?_
      rw [show tf (c / 51) = nI (msr x y z (c / 51)) from htc]
      refine J_aload_n (i := 0) (pc := 22) dX3_said_22 rfl rfl ?_
      refine J_iconst (v := nI (5)) (pc := 23) dX3_said_23 rfl ?_
      refine J_iload_n (i := 3) (pc := 24) dX3_said_24 rfl rfl ?_
      refine J_imulN (pc := 25) dX3_said_25 ?_
      refine J_iconst (v := nI (2)) (pc := 26) dX3_said_26 rfl ?_
      refine J_iaddN (pc := 27) dX3_said_27 ?_
      refine J_iald (j := ((5) * (s)) + 2) (pc := 28) dX3_said_28 hA rfl (by omega) (by omega) ?_
      rw [show f (((5) * (s)) + 2) = nI (c % 51) from hr.1.2.2.1]
      refine J_icmp_leN (tgt := 36) (pc := 29) dX3_said_29 (by decide) (by omega) (by omega) (fun c29 => ?_) (fun c29 => ?_)
      · skip
        refine J_iconst (v := nI (0)) (pc := 36) dX3_said_36 rfl ?_
        refine J_iaddN (pc := 37) dX3_said_37 ?_
        refine J_istore_n (i := 3) (lv' := [(3, .int (nI ((2) * (s)))), (0, .ref (A)), (2, .ref (B))]) (pc := 38) dX3_said_38 rfl (by decide) rfl ?_
        refine J_goto (tgt := 2) (pc := 39) dX3_said_39 (by decide) ?_
        refine J_sub (lv' := [(3, .int (nI ((2) * (s)))), (0, .ref (A)), (2, .ref (B))]) [0, 1, 2] rfl ?_
        rw [show saT (d + 1) ((st, mn), some (c, l, r)) x y z = saT d l x y z from if_pos (by omega)]
        exact ih (2 * s) l hr.2.1 ok.2.2.1 p1 (by omega)
      · skip
        refine J_iconst (v := nI (1)) (pc := 32) dX3_said_32 rfl ?_
        refine J_goto (tgt := 37) (pc := 33) dX3_said_33 (by decide) ?_
        refine J_iaddN (pc := 37) dX3_said_37 ?_
        refine J_istore_n (i := 3) (lv' := [(3, .int (nI (((2) * (s)) + 1))), (0, .ref (A)), (2, .ref (B))]) (pc := 38) dX3_said_38 rfl (by decide) rfl ?_
        refine J_goto (tgt := 2) (pc := 39) dX3_said_39 (by decide) ?_
        refine J_sub (lv' := [(3, .int (nI (((2) * (s)) + 1))), (0, .ref (A)), (2, .ref (B))]) [0, 1, 2] rfl ?_
        rw [show saT (d + 1) ((st, mn), some (c, l, r)) x y z = saT d r x y z from if_neg (by omega)]
        exact ih (2 * s + 1) r hr.2.2 ok.2.2.2 p2 (by omega)

set_option maxHeartbeats 2000000 in
set_option maxRecDepth 20000 in
theorem m_said {g : GT} {dd : Nat} {h : MH} {A B : Nat} {f tf : Nat → Int32} {x y z : Nat} (hA : h.2 A = some (aI 320 f)) (hBc : h.2 B = some (aI 3 tf)) (ht : ∀ k, k < 3 → tf k = nI (msr x y z k)) (hx : x ≤ 50) (hy : y ≤ 50) (hz : z ≤ 50) {d s : Nat} {t : TR d} (hr : RW f d s t) (ok : okT d t) (hs : (s + 1) * 2 ^ d ≤ 64) (hd : d ≤ 5) : J g (dd + 1) 0 0 mX3_said 0 (lv_args 0 [.ref A, .int (nI s), .ref B]) [] h (RI (nI (saT d t x y z)) h) := by
  refine J_iload_n (i := 1) (pc := 0) dX3_said_0 rfl rfl ?_
  refine J_istore_n (i := 3) (lv' := [(3, .int (nI (s))), (0, .ref (A)), (1, .int (nI (s))), (2, .ref (B))]) (pc := 1) dX3_said_1 rfl (by decide) rfl ?_
  refine J_sub (lv' := [(3, .int (nI (s))), (0, .ref (A)), (2, .ref (B))]) [0, 1, 3] rfl ?_
  exact sd_loop hA hBc ht hx hy hz d s t hr ok hs hd

set_option maxHeartbeats 2000000 in
set_option maxRecDepth 20000 in
theorem m_threeOf {g : GT} {dd : Nat} {h : MH} {β : BT} (hM : MS h β) {b : Nat} (hz : 60 ≤ h.1) (hb : b < β.1) : J g (dd + 1) 1 3 mX3_threeOf 0 (lv_args 0 [.ref 53, .int (nI b)]) [] h (RG (.ref h.1) (fun h' => Ext h h' ∧ h'.1 = h.1 + 1 ∧ ∃ tf, h'.2 h.1 = some (aI 3 tf) ∧ ∀ k, k < 3 → tf k = nI (msr (β.2.2.1 0 b) (β.2.2.1 1 b) (β.2.2.1 2 b) k))) := by
  obtain ⟨hW, ⟨th, dq, lq, kk, m53⟩, ⟨mf, m54, em⟩, ⟨sf, m55, es⟩⟩ := id hM
  obtain ⟨hn, hc9, hm5, hs2⟩ := id hW
  have hp9 := pw_le hn
  refine J_iconst (v := nI (3)) (pc := 0) dX3_threeOf_0 rfl ?_
  obtain ⟨A_1, eA_1⟩ : ∃ z : Nat, z = h.1 := ⟨_, rfl⟩
  obtain ⟨h_2, eh_2⟩ : ∃ z : MH, z = (A_1 + 1, hset h.2 A_1 (aI (3) (fun _ => 0))) := ⟨_, rfl⟩
  refine J_newIA (A := A_1) (h' := h_2) (n := 3) (ca' := 0) (sa' := 0) (pc := 1) dX3_threeOf_1 rfl (by decide) (by omega) (by omega) eA_1 eh_2 ?_
  have zh_2 : h_2.1 = A_1 + 1 := by rw [eh_2]
  have H_3 : h_2.2 (53) = some (oB 3 [.int (th), .int (nI (β.1)), .ref (54), .ref (55), .int (nI (β.2.1)), .int (dq), .int (lq), .int (kk), .ref (56), .ref (57), .ref (58)]) := (ha_n eh_2 (by omega)).trans m53
  have H_4 : h_2.2 (54) = some (aI (60) (mf)) := (ha_n eh_2 (by omega)).trans m54
  have H_5 : h_2.2 (55) = some (aI (20) (sf)) := (ha_n eh_2 (by omega)).trans m55
  have H_6 : Ext h h_2 := Ext_new Ext_rfl eA_1 eh_2
  have H_7 : MS h_2 β := MS_oth (fun i i1 i2 => ha_n eh_2 (by omega)) hM
  have H_8 : h_2.2 (A_1) = some (aI (3) (fun _ => 0)) := ha_s eh_2
  refine J_dup (pc := 3) dX3_threeOf_3 rfl ?_
  refine J_iconst (v := nI (0)) (pc := 4) dX3_threeOf_4 rfl ?_
  refine J_aload_n (i := 0) (pc := 5) dX3_threeOf_5 rfl rfl ?_
  refine J_iload_n (i := 1) (pc := 6) dX3_threeOf_6 rfl rfl ?_
  refine J_iconst (v := nI (0)) (pc := 7) dX3_threeOf_7 rfl ?_
  refine J_cVi (st := [.int (nI (0)), .ref (A_1), .ref (A_1)]) (As := [.int (nI (b)), .int (nI (0))]) (pc := 8) dX3_threeOf_8 okX3_measure q3_231 q3_233 qs2_6 (rfl : vwCl[3]? = some _) H_3 rfl (Nat.le_of_ble_eq_true rfl) (Nat.le_of_ble_eq_true rfl) (m_measure H_7 (by omega) (by omega)) ?_
  refine J_iast (j := 0) (pc := 11) dX3_threeOf_11 H_8 rfl (by omega) (by omega) ?_
  obtain ⟨h_9, eh_9⟩ : ∃ z : MH, z = (h_2.1, hset h_2.2 (A_1) (aI (3) (upd ((fun _ => 0)) (0) (nI (β.2.2.1 0 b))))) := ⟨_, rfl⟩
  refine J_heq (h2 := h_9) eh_9 ?_
  have zh_9 : h_9.1 = h_2.1 := by rw [eh_9]
  have H_10 : h_9.2 (53) = some (oB 3 [.int (th), .int (nI (β.1)), .ref (54), .ref (55), .int (nI (β.2.1)), .int (dq), .int (lq), .int (kk), .ref (56), .ref (57), .ref (58)]) := (hs_n eh_9 (by omega)).trans H_3
  have H_11 : h_9.2 (54) = some (aI (60) (mf)) := (hs_n eh_9 (by omega)).trans H_4
  have H_12 : h_9.2 (55) = some (aI (20) (sf)) := (hs_n eh_9 (by omega)).trans H_5
  have H_13 : Ext h h_9 := by rw [eh_9]; exact Ext_st H_6 (by omega) rfl
  have H_14 : MS h_9 β := by rw [eh_9]; exact MS_oth (fun i i1 i2 => hset_n (by omega)) H_7
  have H_15 : h_9.2 (A_1) = some (aI (3) (upd ((fun _ => 0)) (0) (nI (β.2.2.1 0 b)))) := hs_s eh_9
  refine J_dup (pc := 12) dX3_threeOf_12 rfl ?_
  refine J_iconst (v := nI (1)) (pc := 13) dX3_threeOf_13 rfl ?_
  refine J_aload_n (i := 0) (pc := 14) dX3_threeOf_14 rfl rfl ?_
  refine J_iload_n (i := 1) (pc := 15) dX3_threeOf_15 rfl rfl ?_
  refine J_iconst (v := nI (1)) (pc := 16) dX3_threeOf_16 rfl ?_
  refine J_cVi (st := [.int (nI (1)), .ref (A_1), .ref (A_1)]) (As := [.int (nI (b)), .int (nI (1))]) (pc := 17) dX3_threeOf_17 okX3_measure q3_231 q3_233 qs2_6 (rfl : vwCl[3]? = some _) H_10 rfl (Nat.le_of_ble_eq_true rfl) (Nat.le_of_ble_eq_true rfl) (m_measure H_14 (by omega) (by omega)) ?_
  refine J_iast (j := 1) (pc := 20) dX3_threeOf_20 H_15 rfl (by omega) (by omega) ?_
  obtain ⟨h_16, eh_16⟩ : ∃ z : MH, z = (h_9.1, hset h_9.2 (A_1) (aI (3) (upd (upd ((fun _ => 0)) (0) (nI (β.2.2.1 0 b))) (1) (nI (β.2.2.1 1 b))))) := ⟨_, rfl⟩
  refine J_heq (h2 := h_16) eh_16 ?_
  have zh_16 : h_16.1 = h_9.1 := by rw [eh_16]
  have H_17 : h_16.2 (53) = some (oB 3 [.int (th), .int (nI (β.1)), .ref (54), .ref (55), .int (nI (β.2.1)), .int (dq), .int (lq), .int (kk), .ref (56), .ref (57), .ref (58)]) := (hs_n eh_16 (by omega)).trans H_10
  have H_18 : h_16.2 (54) = some (aI (60) (mf)) := (hs_n eh_16 (by omega)).trans H_11
  have H_19 : h_16.2 (55) = some (aI (20) (sf)) := (hs_n eh_16 (by omega)).trans H_12
  have H_20 : Ext h h_16 := by rw [eh_16]; exact Ext_st H_13 (by omega) rfl
  have H_21 : MS h_16 β := by rw [eh_16]; exact MS_oth (fun i i1 i2 => hset_n (by omega)) H_14
  have H_22 : h_16.2 (A_1) = some (aI (3) (upd (upd ((fun _ => 0)) (0) (nI (β.2.2.1 0 b))) (1) (nI (β.2.2.1 1 b)))) := hs_s eh_16
  refine J_dup (pc := 21) dX3_threeOf_21 rfl ?_
  refine J_iconst (v := nI (2)) (pc := 22) dX3_threeOf_22 rfl ?_
  refine J_aload_n (i := 0) (pc := 23) dX3_threeOf_23 rfl rfl ?_
  refine J_iload_n (i := 1) (pc := 24) dX3_threeOf_24 rfl rfl ?_
  refine J_iconst (v := nI (2)) (pc := 25) dX3_threeOf_25 rfl ?_
  refine J_cVi (st := [.int (nI (2)), .ref (A_1), .ref (A_1)]) (As := [.int (nI (b)), .int (nI (2))]) (pc := 26) dX3_threeOf_26 okX3_measure q3_231 q3_233 qs2_6 (rfl : vwCl[3]? = some _) H_17 rfl (Nat.le_of_ble_eq_true rfl) (Nat.le_of_ble_eq_true rfl) (m_measure H_21 (by omega) (by omega)) ?_
  refine J_iast (j := 2) (pc := 29) dX3_threeOf_29 H_22 rfl (by omega) (by omega) ?_
  obtain ⟨h_23, eh_23⟩ : ∃ z : MH, z = (h_16.1, hset h_16.2 (A_1) (aI (3) (upd (upd (upd ((fun _ => 0)) (0) (nI (β.2.2.1 0 b))) (1) (nI (β.2.2.1 1 b))) (2) (nI (β.2.2.1 2 b))))) := ⟨_, rfl⟩
  refine J_heq (h2 := h_23) eh_23 ?_
  have zh_23 : h_23.1 = h_16.1 := by rw [eh_23]
  have H_24 : h_23.2 (53) = some (oB 3 [.int (th), .int (nI (β.1)), .ref (54), .ref (55), .int (nI (β.2.1)), .int (dq), .int (lq), .int (kk), .ref (56), .ref (57), .ref (58)]) := (hs_n eh_23 (by omega)).trans H_17
  have H_25 : h_23.2 (54) = some (aI (60) (mf)) := (hs_n eh_23 (by omega)).trans H_18
  have H_26 : h_23.2 (55) = some (aI (20) (sf)) := (hs_n eh_23 (by omega)).trans H_19
  have H_27 : Ext h h_23 := by rw [eh_23]; exact Ext_st H_20 (by omega) rfl
  have H_28 : MS h_23 β := by rw [eh_23]; exact MS_oth (fun i i1 i2 => hset_n (by omega)) H_21
  have H_29 : h_23.2 (A_1) = some (aI (3) (upd (upd (upd ((fun _ => 0)) (0) (nI (β.2.2.1 0 b))) (1) (nI (β.2.2.1 1 b))) (2) (nI (β.2.2.1 2 b)))) := hs_s eh_23
  refine J_aret (pc := 30) dX3_threeOf_30 rfl ?_
  refine ⟨by rw [eA_1], H_27, by omega, _, by rw [← eA_1]; exact H_29, ?_⟩
  intro k hk
  obtain rfl | rfl | rfl : k = 0 ∨ k = 1 ∨ k = 2 := by omega
  · rfl
  · rfl
  · rfl

/-- the beans about which a tree is right -/
def okM (β : BT) (d : Nat) (t : TR d) : Nat := msk (fun k => saT d t (β.2.2.1 0 k) (β.2.2.1 1 k) (β.2.2.1 2 k) == β.2.2.2 k) β.1
theorem okM_bit {β : BT} {d : Nat} {t : TR d} {k : Nat} (hk : k < β.1) : (okM β d t).testBit k = (saT d t (β.2.2.1 0 k) (β.2.2.1 1 k) (β.2.2.1 2 k) == β.2.2.2 k) := (msk_bit _ _ _).trans (by rw [decide_eq_true hk, Bool.true_and])
theorem mkC_bit {β : BT} {c k : Nat} (hk : k < β.1) : (mkC β c).testBit k = decide (β.2.2.1 (c / 51) k ≤ c % 51) := (msk_bit _ _ _).trans (by rw [decide_eq_true hk, Bool.true_and])
theorem msr_m (β : BT) (m k : Nat) (hm : m < 3) : msr (β.2.2.1 0 k) (β.2.2.1 1 k) (β.2.2.1 2 k) m = β.2.2.1 m k := by
  obtain rfl | rfl | rfl : m = 0 ∨ m = 1 ∨ m = 2 := by omega
  all_goals rfl
theorem rg_eq {β : BT} (hW : WF β) : ∀ (d : Nat) (t : TR d) (X : Nat), okT d t → rgT β d t X = pcn (X &&& okM β d t) β.1
  | 0, t, X, ok => by
    have e1 : rgT β 0 t X = ofS β X t.1 := rfl
    rw [e1, (pcn_sort (β := β) X t.1).resolve_right (by have := hW.1; omega)]
    apply pcn_congr
    intro k hk
    rw [mkS_bit β X t.1 k hk, Nat.testBit_and, okM_bit hk]
    congr 1
    exact Bool.beq_comm
  | d + 1, t, X, ok => by
    rcases TR_c t with ⟨st, mn, e⟩ | ⟨st, mn, c, l, r, e⟩
    · have e1 : rgT β (d + 1) t X = ofS β X st := by rw [e]; rfl
      have e2 : ∀ x y z, saT (d + 1) t x y z = st := fun x y z => by rw [e]; rfl
      rw [e1, (pcn_sort (β := β) X st).resolve_right (by have := hW.1; omega)]
      apply pcn_congr
      intro k hk
      rw [mkS_bit β X st k hk, Nat.testBit_and, okM_bit hk, e2]
      congr 1
      exact Bool.beq_comm
    · have ok2 : (st ≤ 2 ∧ mn ≤ 20) ∧ c < 153 ∧ okT d l ∧ okT d r := by rw [e] at ok; exact ok
      have e1 : rgT β (d + 1) t X = rgT β d l (X &&& mkC β c) + rgT β d r (sdf X (X &&& mkC β c)) := by rw [e]; rfl
      have e2 : ∀ x y z, saT (d + 1) t x y z = if msr x y z (c / 51) ≤ c % 51 then saT d l x y z else saT d r x y z := fun x y z => by rw [e]; rfl
      rw [e1, rg_eq hW d l _ ok2.2.2.1, rg_eq hW d r _ ok2.2.2.2]
      apply pcn_add
      intro k hk
      simp only [Nat.testBit_and, okM_bit hk, sdf_bit, mkC_bit hk, e2, msr_m β (c / 51) k (by have := ok2.2.1; omega)]
      by_cases hc : β.2.2.1 (c / 51) k ≤ c % 51
      · rw [decide_eq_true hc, if_pos hc]
        cases X.testBit k <;> simp
      · rw [decide_eq_false hc, if_neg hc]
        cases X.testBit k <;> simp
theorem pcn_le2 (s : Nat) : ∀ {a b : Nat}, a ≤ b → pcn s a ≤ pcn s b := by
  intro a b h
  obtain ⟨k, rfl⟩ : ∃ k, b = a + k := ⟨b - a, by omega⟩
  induction k with
  | zero => exact Nat.le_refl _
  | succ k ih =>
    have h1 := ih (by omega)
    show pcn s a ≤ pcn s (a + k) + _
    omega
theorem pcn_cnt {β : BT} (hW : WF β) (X : Nat) : pcn X β.1 ≤ cnt X := pcn_le2 X hW.1

set_option maxHeartbeats 2000000 in
set_option maxRecDepth 20000 in
theorem rt_loop {g : GT} {dd : Nat} {β : BT} {A X R d s : Nat} {f : Nat → Int32} {t : TR d} {Q : RT → MH → Prop} (hX : X < 2 ^ 20) (hr : RW f d s t) (ok : okT d t) (hs : (s + 1) * 2 ^ d ≤ 64) (hd : d ≤ 5) : ∀ (k b a r : Nat) (h : MH), b + k = β.1 → a = pcn (X &&& okM β d t) b → MS h β → 60 ≤ h.1 → h.2 A = some (aI 320 f) → A < h.1 → pcn X β.1 ≤ pcn X b + r → (∀ h', Ext h h' → Q (.inl (some (.int (nI (pcn (X &&& okM β d t) β.1))))) h') →
    J g (dd + 2) (r + R) (3 * (r + R)) mX3_right 6 [(5, .int (nI (b))), (4, .int (nI (a))), (0, .ref (53)), (1, .ref (A)), (2, .int (nI (s))), (3, .int (nI (X)))] [] h Q := by
  intro k
  induction k with
  | zero =>
    intro b a r h hb ha hM hz hA hA2 hr9 hq
    obtain rfl : b = β.1 := by omega
    obtain ⟨hW, ⟨th, dq, lq, kk, m53⟩, ⟨mf, m54, em⟩, ⟨sf, m55, es⟩⟩ := id hM
    obtain ⟨hn, hc9, hm5, hs2⟩ := id hW
    have hp9 := pw_le hn
    refine J_iload (i := 5) (pc := 6) dX3_right_6 rfl ?_
    refine J_aload_n (i := 0) (pc := 8) dX3_right_8 rfl rfl ?_
    refine J_getf (k := 1) (pc := 9) dX3_right_9 flX3_44 m53 rfl ?_
    refine J_icmp_geN (tgt := 61) (pc := 12) dX3_right_12 (by decide) (by omega) (by omega) (fun c12 => ?_) (fun c12 => by exfalso; first | omega | simp_all)
    refine J_iload (i := 4) (pc := 61) dX3_right_61 rfl ?_
    refine J_iret (ty := .int) (pc := 63) dX3_right_63 rfl rfl ?_
    rw [ha]; exact hq h Ext_rfl
  | succ k ih =>
    intro b a r h hk ha hM hz hA hA2 hr9 hq
    have hb : b < β.1 := by omega
    obtain ⟨hW, ⟨th, dq, lq, kk, m53⟩, ⟨mf, m54, em⟩, ⟨sf, m55, es⟩⟩ := id hM
    obtain ⟨hn, hc9, hm5, hs2⟩ := id hW
    have hp9 := pw_le hn
    have hs3 := hs2 b hb
    have hsa := saT_le d t (β.2.2.1 0 b) (β.2.2.1 1 b) (β.2.2.1 2 b) ok
    have hpl := pcn_le2 X (show b + 1 ≤ β.1 by omega)
    refine J_iload (i := 5) (pc := 6) dX3_right_6 rfl ?_
    refine J_aload_n (i := 0) (pc := 8) dX3_right_8 rfl rfl ?_
    refine J_getf (k := 1) (pc := 9) dX3_right_9 flX3_44 m53 rfl ?_
    refine J_icmp_geN (tgt := 61) (pc := 12) dX3_right_12 (by decide) (by omega) (by omega) (fun c12 => by exfalso; first | omega | simp_all) (fun c12 => ?_)
    refine J_iload (i := 4) (pc := 15) dX3_right_15 rfl ?_
    refine J_iload_n (i := 3) (pc := 17) dX3_right_17 rfl rfl ?_
    refine J_iload (i := 5) (pc := 18) dX3_right_18 rfl ?_
    refine J_cSi (st := [.int (nI (a))]) (As := [.int (nI (X)), .int (nI (b))]) (pc := 20) dX3_right_20 okX3_has q3_184 q3_185 rfl (Nat.le_of_ble_eq_true rfl) (Nat.le_of_ble_eq_true rfl) (m_has (by omega) (by omega)) ?_
    refine J_if_eqB (tgt := 51) (pc := 23) dX3_right_23 (by decide) (fun c23 => ?_) (fun c23 => ?_)
    · skip
      refine J_iconst (v := nI (0)) (pc := 51) dX3_right_51 rfl ?_
      refine J_iaddN (pc := 52) dX3_right_52 ?_
      refine J_istore (i := 4) (lv' := [(4, .int (nI (a))), (5, .int (nI (b))), (0, .ref (53)), (1, .ref (A)), (2, .int (nI (s))), (3, .int (nI (X)))]) (pc := 53) dX3_right_53 (by decide) rfl ?_
      refine J_iinc (i := 5) (v := nI (b + 1)) (lv' := [(5, .int (nI (b + 1))), (4, .int (nI (a))), (0, .ref (53)), (1, .ref (A)), (2, .int (nI (s))), (3, .int (nI (X)))]) (pc := 55) dX3_right_55 rfl (nI_add (b) 1) (by decide) rfl ?_
      refine J_goto (tgt := 6) (pc := 58) dX3_right_58 (by decide) ?_
      refine J_sub (lv' := [(5, .int (nI (b + 1))), (4, .int (nI (a))), (0, .ref (53)), (1, .ref (A)), (2, .int (nI (s))), (3, .int (nI (X)))]) [0, 1, 2, 3, 4, 5] rfl ?_
      have hpc : pcn X (b + 1) = pcn X b + (if X.testBit b then 1 else 0) := rfl
      rw [c23] at hpc
      rw [if_neg (by decide)] at hpc
      have hle := pcn_le2 X (show b + 1 ≤ β.1 by omega)
      refine J_bud (by omega) (by omega) (ih (b + 1) (a) (r) h (by omega) ?_ hM (by omega) hA (by omega) (by omega) (fun h' x9 => hq h' (Ext_tr Ext_rfl x9)))
      rw [pcn, Nat.testBit_and, okM_bit hb, ← ha]; first | (rw [c23]; rfl) | (rw [c23, show (saT d t (β.2.2.1 0 b) (β.2.2.1 1 b) (β.2.2.1 2 b) == β.2.2.2 b) = true from by simpa using c44]; rfl) | (rw [c23, show (saT d t (β.2.2.1 0 b) (β.2.2.1 1 b) (β.2.2.1 2 b) == β.2.2.2 b) = false from by simpa using c44]; rfl)
    · skip
      have hr1 : 1 ≤ r := by
        have hpc : pcn X (b + 1) = pcn X b + (if X.testBit b then 1 else 0) := rfl
        rw [c23, if_pos rfl] at hpc
        omega
      refine J_aload_n (i := 1) (pc := 26) dX3_right_26 rfl rfl ?_
      refine J_iload_n (i := 2) (pc := 27) dX3_right_27 rfl rfl ?_
      refine J_aload_n (i := 0) (pc := 28) dX3_right_28 rfl rfl ?_
      refine J_iload (i := 5) (pc := 29) dX3_right_29 rfl ?_
      refine J_cVB (st := [.int (nI (s)), .ref (A), .int (nI (a))]) (As := [.int (nI (b))]) (v := some (.ref (h.1))) (ca1 := 1) (sa1 := 3) (ca2 := r - 1 + R) (sa2 := 3 * (r - 1 + R)) (pc := 31) dX3_right_31 okX3_threeOf q4_27 q4_29 qs2_12 (rfl : vwCl[3]? = some _) m53 rfl (Nat.le_of_ble_eq_true rfl) (Nat.le_of_ble_eq_true rfl) (m_threeOf hM (by omega) hb) (by omega) (by omega) (fun h_1 q_2 => ?_)
      obtain ⟨B, eB⟩ : ∃ z : Nat, z = h.1 := ⟨_, rfl⟩
      rw [← eB]
      obtain ⟨xB, zB, tf, kB, tB⟩ := q_2
      rw [← eB] at kB
      have H_3 : h_1.2 (53) = some (oB 3 [.int (th), .int (nI (β.1)), .ref (54), .ref (55), .int (nI (β.2.1)), .int (dq), .int (lq), .int (kk), .ref (56), .ref (57), .ref (58)]) := (xB.2 _ (by omega)).trans m53
      have H_4 : h_1.2 (54) = some (aI (60) (mf)) := (xB.2 _ (by omega)).trans m54
      have H_5 : h_1.2 (55) = some (aI (20) (sf)) := (xB.2 _ (by omega)).trans m55
      have H_6 : Ext h h_1 := Ext_tr Ext_rfl xB
      have H_7 : MS h_1 β := MS_ext xB (by omega) hM
      have H_8 : h_1.2 (A) = some (aI (320) (f)) := (xB.2 _ (by omega)).trans hA
      refine J_cSi (st := [.int (nI (a))]) (As := [.ref (A), .int (nI (s)), .ref (B)]) (pc := 34) dX3_right_34 okX3_said q4_31 q4_32 rfl (Nat.le_of_ble_eq_true rfl) (Nat.le_of_ble_eq_true rfl) (m_said H_8 kB tB (hm5 0 b hb) (hm5 1 b hb) (hm5 2 b hb) hr ok hs hd) ?_
      refine J_aload_n (i := 0) (pc := 37) dX3_right_37 rfl rfl ?_
      refine J_getf (k := 3) (pc := 38) dX3_right_38 flX3_13 H_3 rfl ?_
      refine J_iload (i := 5) (pc := 41) dX3_right_41 rfl ?_
      refine J_iald (j := b) (pc := 43) dX3_right_43 H_5 rfl (by omega) (by omega) ?_
      rw [show sf b = nI (β.2.2.2 b) from es b hb]
      refine J_icmp_neN (tgt := 51) (pc := 44) dX3_right_44 (by decide) (by omega) (by omega) (fun c44 => ?_) (fun c44 => ?_)
      · skip
        refine J_iconst (v := nI (0)) (pc := 51) dX3_right_51 rfl ?_
        refine J_iaddN (pc := 52) dX3_right_52 ?_
        refine J_istore (i := 4) (lv' := [(4, .int (nI (a))), (5, .int (nI (b))), (0, .ref (53)), (1, .ref (A)), (2, .int (nI (s))), (3, .int (nI (X)))]) (pc := 53) dX3_right_53 (by decide) rfl ?_
        refine J_iinc (i := 5) (v := nI (b + 1)) (lv' := [(5, .int (nI (b + 1))), (4, .int (nI (a))), (0, .ref (53)), (1, .ref (A)), (2, .int (nI (s))), (3, .int (nI (X)))]) (pc := 55) dX3_right_55 rfl (nI_add (b) 1) (by decide) rfl ?_
        refine J_goto (tgt := 6) (pc := 58) dX3_right_58 (by decide) ?_
        refine J_sub (lv' := [(5, .int (nI (b + 1))), (4, .int (nI (a))), (0, .ref (53)), (1, .ref (A)), (2, .int (nI (s))), (3, .int (nI (X)))]) [0, 1, 2, 3, 4, 5] rfl ?_
        have hpc : pcn X (b + 1) = pcn X b + (if X.testBit b then 1 else 0) := rfl
        rw [c23] at hpc
        rw [if_pos rfl] at hpc
        have hle := pcn_le2 X (show b + 1 ≤ β.1 by omega)
        refine J_bud (by omega) (by omega) (ih (b + 1) (a) (r - 1) h_1 (by omega) ?_ H_7 (by omega) H_8 (by omega) (by omega) (fun h' x9 => hq h' (Ext_tr H_6 x9)))
        rw [pcn, Nat.testBit_and, okM_bit hb, ← ha]; first | (rw [c23]; rfl) | (rw [c23, show (saT d t (β.2.2.1 0 b) (β.2.2.1 1 b) (β.2.2.1 2 b) == β.2.2.2 b) = true from by simpa using c44]; rfl) | (rw [c23, show (saT d t (β.2.2.1 0 b) (β.2.2.1 1 b) (β.2.2.1 2 b) == β.2.2.2 b) = false from by simpa using c44]; rfl)
      · skip
        refine J_iconst (v := nI (1)) (pc := 47) dX3_right_47 rfl ?_
        refine J_goto (tgt := 52) (pc := 48) dX3_right_48 (by decide) ?_
        refine J_iaddN (pc := 52) dX3_right_52 ?_
        refine J_istore (i := 4) (lv' := [(4, .int (nI (a + 1))), (5, .int (nI (b))), (0, .ref (53)), (1, .ref (A)), (2, .int (nI (s))), (3, .int (nI (X)))]) (pc := 53) dX3_right_53 (by decide) rfl ?_
        refine J_iinc (i := 5) (v := nI (b + 1)) (lv' := [(5, .int (nI (b + 1))), (4, .int (nI (a + 1))), (0, .ref (53)), (1, .ref (A)), (2, .int (nI (s))), (3, .int (nI (X)))]) (pc := 55) dX3_right_55 rfl (nI_add (b) 1) (by decide) rfl ?_
        refine J_goto (tgt := 6) (pc := 58) dX3_right_58 (by decide) ?_
        refine J_sub (lv' := [(5, .int (nI (b + 1))), (4, .int (nI (a + 1))), (0, .ref (53)), (1, .ref (A)), (2, .int (nI (s))), (3, .int (nI (X)))]) [0, 1, 2, 3, 4, 5] rfl ?_
        have hpc : pcn X (b + 1) = pcn X b + (if X.testBit b then 1 else 0) := rfl
        rw [c23] at hpc
        rw [if_pos rfl] at hpc
        have hle := pcn_le2 X (show b + 1 ≤ β.1 by omega)
        refine J_bud (by omega) (by omega) (ih (b + 1) (a + 1) (r - 1) h_1 (by omega) ?_ H_7 (by omega) H_8 (by omega) (by omega) (fun h' x9 => hq h' (Ext_tr H_6 x9)))
        rw [pcn, Nat.testBit_and, okM_bit hb, ← ha]; first | (rw [c23]; rfl) | (rw [c23, show (saT d t (β.2.2.1 0 b) (β.2.2.1 1 b) (β.2.2.1 2 b) == β.2.2.2 b) = true from by simpa using c44]; rfl) | (rw [c23, show (saT d t (β.2.2.1 0 b) (β.2.2.1 1 b) (β.2.2.1 2 b) == β.2.2.2 b) = false from by simpa using c44]; rfl)
theorem m_right {g : GT} {dd : Nat} {h : MH} {β : BT} (hM : MS h β) {A X d s : Nat} {f : Nat → Int32} {t : TR d} (hz : 60 ≤ h.1) (hA : h.2 A = some (aI 320 f)) (hA2 : A < h.1) (hX : X < 2 ^ 20) (hr : RW f d s t) (ok : okT d t) (hs : (s + 1) * 2 ^ d ≤ 64) (hd : d ≤ 5) :
    J g (dd + 2) (cnt X) (3 * cnt X) mX3_right 0 (lv_args 0 [.ref 53, .ref A, .int (nI s), .int (nI X)]) [] h (RH (nI (rgT β d t X)) (fun h' => Ext h h')) := by
  rw [rg_eq hM.1 d t X ok]
  refine J_iconst (v := nI (0)) (pc := 0) dX3_right_0 rfl ?_
  refine J_istore (i := 4) (lv' := [(4, .int (nI (0))), (0, .ref (53)), (1, .ref (A)), (2, .int (nI (s))), (3, .int (nI (X)))]) (pc := 1) dX3_right_1 (by decide) rfl ?_
  refine J_iconst (v := nI (0)) (pc := 3) dX3_right_3 rfl ?_
  refine J_istore (i := 5) (lv' := [(5, .int (nI (0))), (4, .int (nI (0))), (0, .ref (53)), (1, .ref (A)), (2, .int (nI (s))), (3, .int (nI (X)))]) (pc := 4) dX3_right_4 (by decide) rfl ?_
  refine J_sub (lv' := [(5, .int (nI (0))), (4, .int (nI (0))), (0, .ref (53)), (1, .ref (A)), (2, .int (nI (s))), (3, .int (nI (X)))]) [0, 1, 2, 3, 4, 5] rfl ?_
  exact rt_loop (R := 0) hX hr ok hs hd β.1 0 0 (cnt X) h (Nat.zero_add _) rfl hM hz hA hA2 (by have := pcn_cnt hM.1 X; show pcn X β.1 ≤ 0 + cnt X; omega) (fun h' x9 => ⟨rfl, x9⟩)

