-- the reference: votes, gains, what would be, advice, mean
set_option maxHeartbeats 2000000 in
set_option maxRecDepth 20000 in
theorem m_vote {g : GT} {dd : Nat} {h : MH} {σ : ST} {ρ : Nat → Nat} {th : Int32} (hP : MP h σ ρ th) {a b c : Nat} (ha : a ≤ 50) (hb : b ≤ 50) (hc : c ≤ 50) : J g (dd + 3) 2 6 mX3_vote 0 (lv_args 0 [.ref (53), .int (nI (a)), .int (nI (b)), .int (nI (c))]) [] h (RMo (.int (enc (vS σ a b c))) h σ (nI 0)) := by
  have a40 := hP.2.2.2.1
  have hz0 := hP.2.2.1
  refine J_aload_n (i := 0) (pc := 0) dX3_vote_0 rfl rfl ?_
  refine J_iconst (v := nI (0)) (pc := 1) dX3_vote_1 rfl ?_
  refine J_putf (k := 0) (pc := 2) dX3_vote_2 fpX3_vote_34 (fun g => ⟨rfl, rfl⟩) a40 (Nat.le_of_ble_eq_true rfl) ?_
  obtain ⟨h_1, eh_1⟩ : ∃ z : MH, z = (h.1, hset h.2 (53) (oB 3 [.int (nI (0)), .int (nI (σ.1.1)), .ref (54), .ref (55), .int (nI (σ.1.2.1)), .int (nI (σ.2.1.2.1)), .int (nI (σ.2.1.2.2)), .int (nI (σ.2.1.1)), .ref (56), .ref (57), .ref (58)])) := ⟨_, rfl⟩
  refine J_heq (h2 := h_1) eh_1 ?_
  have zh_1 : h_1.1 = h.1 := by rw [eh_1]
  have H_2 : h_1.2 (53) = some (oB 3 [.int (nI (0)), .int (nI (σ.1.1)), .ref (54), .ref (55), .int (nI (σ.1.2.1)), .int (nI (σ.2.1.2.1)), .int (nI (σ.2.1.2.2)), .int (nI (σ.2.1.1)), .ref (56), .ref (57), .ref (58)]) := hs_s eh_1
  have hP1 : MP h_1 σ ρ (nI 0) := MP_53 hP eh_1
  have fm1 : FM h h_1 := FM_set eh_1 (by decide) (by decide)
  obtain ⟨a1, a2, a3, a4, ⟨mf, a5, a5b⟩, ⟨sf, a6, a6b⟩, ⟨rf, a7, a7b⟩, ⟨pf, a8, a8b⟩, ⟨lf, a9, a9b⟩, a10, a11⟩ := id hP1
  obtain ⟨o1, o2, o3, o4⟩ := id a2
  have hM := MP_MS hP1
  obtain ⟨hn, hc9, hm5, hs2⟩ := id a1
  have hp9 := pw_le hn
  refine J_iload_n (i := 1) (pc := 5) dX3_vote_5 rfl rfl ?_
  refine J_iload_n (i := 2) (pc := 6) dX3_vote_6 rfl rfl ?_
  refine J_iload_n (i := 3) (pc := 7) dX3_vote_7 rfl rfl ?_
  refine J_cSi (st := []) (As := [.int (nI (a)), .int (nI (b)), .int (nI (c))]) (pc := 8) dX3_vote_8 okX3_isMeasure q3_163 q3_164 rfl (Nat.le_of_ble_eq_true rfl) (Nat.le_of_ble_eq_true rfl) (m_isMeasureT ⟨inZ_nI (by omega) (by omega) (by decide), inZ_nI (by omega) (by omega) (by decide), inZ_nI (by omega) (by omega) (by decide)⟩) ?_
  refine J_if_eqN (tgt := 36) (pc := 11) dX3_vote_11 (by decide) (by omega) (fun c11 => by exfalso; first | omega | simp_all) (fun c11 => ?_)
  refine J_aload_n (i := 0) (pc := 14) dX3_vote_14 rfl rfl ?_
  refine J_iconst (v := nI (3)) (pc := 15) dX3_vote_15 rfl ?_
  obtain ⟨A_3, eA_3⟩ : ∃ z : Nat, z = h_1.1 := ⟨_, rfl⟩
  obtain ⟨h_4, eh_4⟩ : ∃ z : MH, z = (A_3 + 1, hset h_1.2 A_3 (aI (3) (fun _ => 0))) := ⟨_, rfl⟩
  refine J_newIA (A := A_3) (h' := h_4) (n := 3) (ca' := 1) (sa' := 3) (pc := 16) dX3_vote_16 rfl (by decide) (by omega) (by omega) eA_3 eh_4 ?_
  have zh_4 : h_4.1 = A_3 + 1 := by rw [eh_4]
  have H_5 : h_4.2 (53) = some (oB 3 [.int (nI (0)), .int (nI (σ.1.1)), .ref (54), .ref (55), .int (nI (σ.1.2.1)), .int (nI (σ.2.1.2.1)), .int (nI (σ.2.1.2.2)), .int (nI (σ.2.1.1)), .ref (56), .ref (57), .ref (58)]) := (ha_n eh_4 (by omega)).trans a4
  have H_6 : Ext h_1 h_4 := Ext_new Ext_rfl eA_3 eh_4
  have H_7 : MS h_4 σ.1 := MS_oth (fun i i1 i2 => ha_n eh_4 (by omega)) hM
  have H_8 : MP h_4 σ ρ (nI 0) := MP_ext (Ext_new Ext_rfl eA_3 eh_4) hP1
  have H_9 : h_4.2 (A_3) = some (aI (3) (fun _ => 0)) := ha_s eh_4
  refine J_dup (pc := 18) dX3_vote_18 rfl ?_
  refine J_iconst (v := nI (0)) (pc := 19) dX3_vote_19 rfl ?_
  refine J_iload_n (i := 1) (pc := 20) dX3_vote_20 rfl rfl ?_
  refine J_iast (j := 0) (pc := 21) dX3_vote_21 H_9 rfl (by omega) (by omega) ?_
  obtain ⟨h_10, eh_10⟩ : ∃ z : MH, z = (h_4.1, hset h_4.2 (A_3) (aI (3) (upd ((fun _ => 0)) (0) (nI (a))))) := ⟨_, rfl⟩
  refine J_heq (h2 := h_10) eh_10 ?_
  have zh_10 : h_10.1 = h_4.1 := by rw [eh_10]
  have H_11 : h_10.2 (53) = some (oB 3 [.int (nI (0)), .int (nI (σ.1.1)), .ref (54), .ref (55), .int (nI (σ.1.2.1)), .int (nI (σ.2.1.2.1)), .int (nI (σ.2.1.2.2)), .int (nI (σ.2.1.1)), .ref (56), .ref (57), .ref (58)]) := (hs_n eh_10 (by omega)).trans H_5
  have H_12 : Ext h_1 h_10 := by rw [eh_10]; exact Ext_st H_6 (by omega) rfl
  have H_13 : MS h_10 σ.1 := by rw [eh_10]; exact MS_oth (fun i i1 i2 => hset_n (by omega)) H_7
  have H_14 : MP h_10 σ ρ (nI 0) := by rw [eh_10]; exact MP_hi (by omega) (fun i hi => by have := (a10 i hi).2.1; omega) H_8
  have H_15 : h_10.2 (A_3) = some (aI (3) (upd ((fun _ => 0)) (0) (nI (a)))) := hs_s eh_10
  refine J_dup (pc := 22) dX3_vote_22 rfl ?_
  refine J_iconst (v := nI (1)) (pc := 23) dX3_vote_23 rfl ?_
  refine J_iload_n (i := 2) (pc := 24) dX3_vote_24 rfl rfl ?_
  refine J_iast (j := 1) (pc := 25) dX3_vote_25 H_15 rfl (by omega) (by omega) ?_
  obtain ⟨h_16, eh_16⟩ : ∃ z : MH, z = (h_10.1, hset h_10.2 (A_3) (aI (3) (upd (upd ((fun _ => 0)) (0) (nI (a))) (1) (nI (b))))) := ⟨_, rfl⟩
  refine J_heq (h2 := h_16) eh_16 ?_
  have zh_16 : h_16.1 = h_10.1 := by rw [eh_16]
  have H_17 : h_16.2 (53) = some (oB 3 [.int (nI (0)), .int (nI (σ.1.1)), .ref (54), .ref (55), .int (nI (σ.1.2.1)), .int (nI (σ.2.1.2.1)), .int (nI (σ.2.1.2.2)), .int (nI (σ.2.1.1)), .ref (56), .ref (57), .ref (58)]) := (hs_n eh_16 (by omega)).trans H_11
  have H_18 : Ext h_1 h_16 := by rw [eh_16]; exact Ext_st H_12 (by omega) rfl
  have H_19 : MS h_16 σ.1 := by rw [eh_16]; exact MS_oth (fun i i1 i2 => hset_n (by omega)) H_13
  have H_20 : MP h_16 σ ρ (nI 0) := by rw [eh_16]; exact MP_hi (by omega) (fun i hi => by have := (a10 i hi).2.1; omega) H_14
  have H_21 : h_16.2 (A_3) = some (aI (3) (upd (upd ((fun _ => 0)) (0) (nI (a))) (1) (nI (b)))) := hs_s eh_16
  refine J_dup (pc := 26) dX3_vote_26 rfl ?_
  refine J_iconst (v := nI (2)) (pc := 27) dX3_vote_27 rfl ?_
  refine J_iload_n (i := 3) (pc := 28) dX3_vote_28 rfl rfl ?_
  refine J_iast (j := 2) (pc := 29) dX3_vote_29 H_21 rfl (by omega) (by omega) ?_
  obtain ⟨h_22, eh_22⟩ : ∃ z : MH, z = (h_16.1, hset h_16.2 (A_3) (aI (3) (upd (upd (upd ((fun _ => 0)) (0) (nI (a))) (1) (nI (b))) (2) (nI (c))))) := ⟨_, rfl⟩
  refine J_heq (h2 := h_22) eh_22 ?_
  have zh_22 : h_22.1 = h_16.1 := by rw [eh_22]
  have H_23 : h_22.2 (53) = some (oB 3 [.int (nI (0)), .int (nI (σ.1.1)), .ref (54), .ref (55), .int (nI (σ.1.2.1)), .int (nI (σ.2.1.2.1)), .int (nI (σ.2.1.2.2)), .int (nI (σ.2.1.1)), .ref (56), .ref (57), .ref (58)]) := (hs_n eh_22 (by omega)).trans H_17
  have H_24 : Ext h_1 h_22 := by rw [eh_22]; exact Ext_st H_18 (by omega) rfl
  have H_25 : MS h_22 σ.1 := by rw [eh_22]; exact MS_oth (fun i i1 i2 => hset_n (by omega)) H_19
  have H_26 : MP h_22 σ ρ (nI 0) := by rw [eh_22]; exact MP_hi (by omega) (fun i hi => by have := (a10 i hi).2.1; omega) H_20
  have H_27 : h_22.2 (A_3) = some (aI (3) (upd (upd (upd ((fun _ => 0)) (0) (nI (a))) (1) (nI (b))) (2) (nI (c)))) := hs_s eh_22
  refine J_cVB (st := []) (As := [.ref (A_3)]) (v := some (.int (enc (vS σ a b c)))) (ca1 := 1) (sa1 := 3) (ca2 := 0) (sa2 := 0) (pc := 30) dX3_vote_30 okX3_voted q4_81 q4_83 qs2_15 (rfl : vwCl[3]? = some _) H_23 rfl (Nat.le_of_ble_eq_true rfl) (Nat.le_of_ble_eq_true rfl) (m_voted H_26 H_27 (by omega) (fun k hk => by obtain rfl | rfl | rfl : k = 0 ∨ k = 1 ∨ k = 2 := (by omega); all_goals rfl) ha hb hc) (by omega) (by omega) (fun h_28 q_29 => ?_)
  have zh_28 := q_29.1
  have H_30 : h_28.2 (53) = some (oB 3 [.int (nI (0)), .int (nI (σ.1.1)), .ref (54), .ref (55), .int (nI (σ.1.2.1)), .int (nI (σ.2.1.2.1)), .int (nI (σ.2.1.2.2)), .int (nI (σ.2.1.1)), .ref (56), .ref (57), .ref (58)]) := (q_29.2 _ (by omega)).trans H_23
  have H_31 : Ext h_1 h_28 := Ext_tr H_24 q_29
  have H_32 : MS h_28 σ.1 := MS_ext q_29 (by omega) H_25
  have H_33 : MP h_28 σ ρ (nI 0) := MP_ext q_29 H_26
  have H_34 : h_28.2 (A_3) = some (aI (3) (upd (upd (upd ((fun _ => 0)) (0) (nI (a))) (1) (nI (b))) (2) (nI (c)))) := (q_29.2 _ (by omega)).trans H_27
  refine J_goto (tgt := 41) (pc := 33) dX3_vote_33 (by decide) ?_
  refine J_iret (ty := .int) (pc := 41) dX3_vote_41 rfl rfl ?_
  exact ⟨rfl, FM_tr fm1 (FM_ext (by omega) H_31), ρ, H_33⟩

set_option maxHeartbeats 2000000 in
set_option maxRecDepth 20000 in
theorem m_voteX1 {g : GT} {dd : Nat} {h : MH} {σ : ST} {ρ : Nat → Nat} {th : Int32} (hP : MP h σ ρ th) {a b c : Int32} (hm : ¬ inM a b c) : J g (dd + 3) 0 0 mX3_vote 0 (lv_args 0 [.ref (53), .int (a), .int (b), .int (c)]) [] h (RMo (.int (nI 0)) h σ (nI 1)) := by
  have a40 := hP.2.2.2.1
  have hz0 := hP.2.2.1
  refine J_aload_n (i := 0) (pc := 0) dX3_vote_0 rfl rfl ?_
  refine J_iconst (v := nI (0)) (pc := 1) dX3_vote_1 rfl ?_
  refine J_putf (k := 0) (pc := 2) dX3_vote_2 fpX3_vote_34 (fun g => ⟨rfl, rfl⟩) a40 (Nat.le_of_ble_eq_true rfl) ?_
  obtain ⟨h_1, eh_1⟩ : ∃ z : MH, z = (h.1, hset h.2 (53) (oB 3 [.int (nI (0)), .int (nI (σ.1.1)), .ref (54), .ref (55), .int (nI (σ.1.2.1)), .int (nI (σ.2.1.2.1)), .int (nI (σ.2.1.2.2)), .int (nI (σ.2.1.1)), .ref (56), .ref (57), .ref (58)])) := ⟨_, rfl⟩
  refine J_heq (h2 := h_1) eh_1 ?_
  have zh_1 : h_1.1 = h.1 := by rw [eh_1]
  have H_2 : h_1.2 (53) = some (oB 3 [.int (nI (0)), .int (nI (σ.1.1)), .ref (54), .ref (55), .int (nI (σ.1.2.1)), .int (nI (σ.2.1.2.1)), .int (nI (σ.2.1.2.2)), .int (nI (σ.2.1.1)), .ref (56), .ref (57), .ref (58)]) := hs_s eh_1
  have hP1 : MP h_1 σ ρ (nI 0) := MP_53 hP eh_1
  have fm1 : FM h h_1 := FM_set eh_1 (by decide) (by decide)
  obtain ⟨a1, a2, a3, a4, ⟨mf, a5, a5b⟩, ⟨sf, a6, a6b⟩, ⟨rf, a7, a7b⟩, ⟨pf, a8, a8b⟩, ⟨lf, a9, a9b⟩, a10, a11⟩ := id hP1
  obtain ⟨o1, o2, o3, o4⟩ := id a2
  have hM := MP_MS hP1
  obtain ⟨hn, hc9, hm5, hs2⟩ := id a1
  have hp9 := pw_le hn
  refine J_iload_n (i := 1) (pc := 5) dX3_vote_5 rfl rfl ?_
  refine J_iload_n (i := 2) (pc := 6) dX3_vote_6 rfl rfl ?_
  refine J_iload_n (i := 3) (pc := 7) dX3_vote_7 rfl rfl ?_
  refine J_cSi (st := []) (As := [.int (a), .int (b), .int (c)]) (pc := 8) dX3_vote_8 okX3_isMeasure q3_163 q3_164 rfl (Nat.le_of_ble_eq_true rfl) (Nat.le_of_ble_eq_true rfl) (m_isMeasureF hm) ?_
  refine J_if_eqN (tgt := 36) (pc := 11) dX3_vote_11 (by decide) (by omega) (fun c11 => ?_) (fun c11 => by exfalso; first | omega | simp_all)
  refine J_aload_n (i := 0) (pc := 36) dX3_vote_36 rfl rfl ?_
  refine J_iconst (v := nI (1)) (pc := 37) dX3_vote_37 rfl ?_
  refine J_cVh (st := []) (As := [.int (nI (1))]) (pc := 38) dX3_vote_38 okX3_no q3_169 q3_171 qs1_13 (rfl : vwCl[3]? = some _) a4 rfl (Nat.le_of_ble_eq_true rfl) (Nat.le_of_ble_eq_true rfl) (m_no hP1) (fun h_3 q_4 => ?_)
  refine J_iret (ty := .int) (pc := 41) dX3_vote_41 rfl rfl ?_
  exact ⟨rfl, FM_tr fm1 (FM_tr (FM_ext (by omega) Ext_rfl) q_4.1), ρ, q_4.2⟩

set_option maxHeartbeats 2000000 in
set_option maxRecDepth 20000 in
theorem m_count0 {g : GT} {dd : Nat} {h : MH} {σ : ST} {ρ : Nat → Nat} {th : Int32} (hP : MP h σ ρ th) : J g (dd + 5) 0 0 mX3_count 0 (lv_args 0 [.ref (53), .int (nI (0))]) [] h (RMo (.int (nI (ctS σ 0))) h σ (nI 0)) := by
  have a40 := hP.2.2.2.1
  have hz0 := hP.2.2.1
  refine J_aload_n (i := 0) (pc := 0) dX3_count_0 rfl rfl ?_
  refine J_iconst (v := nI (0)) (pc := 1) dX3_count_1 rfl ?_
  refine J_putf (k := 0) (pc := 2) dX3_count_2 fpX3_count_34 (fun g => ⟨rfl, rfl⟩) a40 (Nat.le_of_ble_eq_true rfl) ?_
  obtain ⟨h_1, eh_1⟩ : ∃ z : MH, z = (h.1, hset h.2 (53) (oB 3 [.int (nI (0)), .int (nI (σ.1.1)), .ref (54), .ref (55), .int (nI (σ.1.2.1)), .int (nI (σ.2.1.2.1)), .int (nI (σ.2.1.2.2)), .int (nI (σ.2.1.1)), .ref (56), .ref (57), .ref (58)])) := ⟨_, rfl⟩
  refine J_heq (h2 := h_1) eh_1 ?_
  have zh_1 : h_1.1 = h.1 := by rw [eh_1]
  have H_2 : h_1.2 (53) = some (oB 3 [.int (nI (0)), .int (nI (σ.1.1)), .ref (54), .ref (55), .int (nI (σ.1.2.1)), .int (nI (σ.2.1.2.1)), .int (nI (σ.2.1.2.2)), .int (nI (σ.2.1.1)), .ref (56), .ref (57), .ref (58)]) := hs_s eh_1
  have hP1 : MP h_1 σ ρ (nI 0) := MP_53 hP eh_1
  have fm1 : FM h h_1 := FM_set eh_1 (by decide) (by decide)
  obtain ⟨a1, a2, a3, a4, ⟨mf, a5, a5b⟩, ⟨sf, a6, a6b⟩, ⟨rf, a7, a7b⟩, ⟨pf, a8, a8b⟩, ⟨lf, a9, a9b⟩, a10, a11⟩ := id hP1
  obtain ⟨o1, o2, o3, o4⟩ := id a2
  have hM := MP_MS hP1
  obtain ⟨hn, hc9, hm5, hs2⟩ := id a1
  have hp9 := pw_le hn
  refine J_iload_n (i := 1) (pc := 5) dX3_count_5 rfl rfl ?_
  refine J_iconst (v := nI (0)) (pc := 6) dX3_count_6 rfl ?_
  refine J_bipush (v := nI (6)) (pc := 7) dX3_count_7 rfl ?_
  refine J_cSi (st := []) (As := [.int (nI (0)), .int (nI (0)), .int (nI (6))]) (pc := 9) dX3_count_9 okX3_isIn q3_166 q3_167 rfl (Nat.le_of_ble_eq_true rfl) (Nat.le_of_ble_eq_true rfl) (m_inT (by omega) (by omega) (inZ_nI (by decide) (by decide) (by decide))) ?_
  refine J_if_eqN (tgt := 23) (pc := 12) dX3_count_12 (by decide) (by omega) (fun c12 => by exfalso; first | omega | simp_all) (fun c12 => ?_)
  refine J_aload_n (i := 0) (pc := 15) dX3_count_15 rfl rfl ?_
  refine J_iload_n (i := 1) (pc := 16) dX3_count_16 rfl rfl ?_
  refine J_cVB (st := []) (As := [.int (nI (0))]) (v := some (.int (nI (ctS σ 0)))) (ca1 := 0) (sa1 := 0) (ca2 := 0) (sa2 := 0) (pc := 17) dX3_count_17 okX3_counted q4_89 q4_91 qs3_0 (rfl : vwCl[3]? = some _) a4 rfl (Nat.le_of_ble_eq_true rfl) (Nat.le_of_ble_eq_true rfl) (m_counted0 (dd := dd) hP1) (by omega) (by omega) (fun h_3 q_4 => ?_)
  have zh_3 := q_4.1
  have H_5 : h_3.2 (53) = some (oB 3 [.int (nI (0)), .int (nI (σ.1.1)), .ref (54), .ref (55), .int (nI (σ.1.2.1)), .int (nI (σ.2.1.2.1)), .int (nI (σ.2.1.2.2)), .int (nI (σ.2.1.1)), .ref (56), .ref (57), .ref (58)]) := (q_4.2 _ (by omega)).trans a4
  have H_6 : h_3.2 (54) = some (aI (60) (mf)) := (q_4.2 _ (by omega)).trans a5
  have H_7 : h_3.2 (55) = some (aI (20) (sf)) := (q_4.2 _ (by omega)).trans a6
  have H_8 : h_3.2 (56) = some (aG (5) (rf)) := (q_4.2 _ (by omega)).trans a7
  have H_9 : h_3.2 (57) = some (aI (5) (pf)) := (q_4.2 _ (by omega)).trans a8
  have H_10 : h_3.2 (58) = some (aI (5) (lf)) := (q_4.2 _ (by omega)).trans a9
  have H_11 : Ext h_1 h_3 := Ext_tr Ext_rfl q_4
  have H_12 : MS h_3 σ.1 := MS_ext q_4 (by omega) hM
  have H_13 : MP h_3 σ ρ (nI 0) := MP_ext q_4 hP1
  refine J_goto (tgt := 28) (pc := 20) dX3_count_20 (by decide) ?_
  refine J_iret (ty := .int) (pc := 28) dX3_count_28 rfl rfl ?_
  exact ⟨rfl, FM_tr fm1 (FM_ext (by omega) H_11), ρ, H_13⟩

set_option maxHeartbeats 2000000 in
set_option maxRecDepth 20000 in
theorem m_count1 {g : GT} {dd : Nat} {h : MH} {σ : ST} {ρ : Nat → Nat} {th : Int32} (hP : MP h σ ρ th) : J g (dd + 5) 0 0 mX3_count 0 (lv_args 0 [.ref (53), .int (nI (1))]) [] h (RMo (.int (nI (ctS σ 1))) h σ (nI 0)) := by
  have a40 := hP.2.2.2.1
  have hz0 := hP.2.2.1
  refine J_aload_n (i := 0) (pc := 0) dX3_count_0 rfl rfl ?_
  refine J_iconst (v := nI (0)) (pc := 1) dX3_count_1 rfl ?_
  refine J_putf (k := 0) (pc := 2) dX3_count_2 fpX3_count_34 (fun g => ⟨rfl, rfl⟩) a40 (Nat.le_of_ble_eq_true rfl) ?_
  obtain ⟨h_1, eh_1⟩ : ∃ z : MH, z = (h.1, hset h.2 (53) (oB 3 [.int (nI (0)), .int (nI (σ.1.1)), .ref (54), .ref (55), .int (nI (σ.1.2.1)), .int (nI (σ.2.1.2.1)), .int (nI (σ.2.1.2.2)), .int (nI (σ.2.1.1)), .ref (56), .ref (57), .ref (58)])) := ⟨_, rfl⟩
  refine J_heq (h2 := h_1) eh_1 ?_
  have zh_1 : h_1.1 = h.1 := by rw [eh_1]
  have H_2 : h_1.2 (53) = some (oB 3 [.int (nI (0)), .int (nI (σ.1.1)), .ref (54), .ref (55), .int (nI (σ.1.2.1)), .int (nI (σ.2.1.2.1)), .int (nI (σ.2.1.2.2)), .int (nI (σ.2.1.1)), .ref (56), .ref (57), .ref (58)]) := hs_s eh_1
  have hP1 : MP h_1 σ ρ (nI 0) := MP_53 hP eh_1
  have fm1 : FM h h_1 := FM_set eh_1 (by decide) (by decide)
  obtain ⟨a1, a2, a3, a4, ⟨mf, a5, a5b⟩, ⟨sf, a6, a6b⟩, ⟨rf, a7, a7b⟩, ⟨pf, a8, a8b⟩, ⟨lf, a9, a9b⟩, a10, a11⟩ := id hP1
  obtain ⟨o1, o2, o3, o4⟩ := id a2
  have hM := MP_MS hP1
  obtain ⟨hn, hc9, hm5, hs2⟩ := id a1
  have hp9 := pw_le hn
  refine J_iload_n (i := 1) (pc := 5) dX3_count_5 rfl rfl ?_
  refine J_iconst (v := nI (0)) (pc := 6) dX3_count_6 rfl ?_
  refine J_bipush (v := nI (6)) (pc := 7) dX3_count_7 rfl ?_
  refine J_cSi (st := []) (As := [.int (nI (1)), .int (nI (0)), .int (nI (6))]) (pc := 9) dX3_count_9 okX3_isIn q3_166 q3_167 rfl (Nat.le_of_ble_eq_true rfl) (Nat.le_of_ble_eq_true rfl) (m_inT (by omega) (by omega) (inZ_nI (by decide) (by decide) (by decide))) ?_
  refine J_if_eqN (tgt := 23) (pc := 12) dX3_count_12 (by decide) (by omega) (fun c12 => by exfalso; first | omega | simp_all) (fun c12 => ?_)
  refine J_aload_n (i := 0) (pc := 15) dX3_count_15 rfl rfl ?_
  refine J_iload_n (i := 1) (pc := 16) dX3_count_16 rfl rfl ?_
  refine J_cVB (st := []) (As := [.int (nI (1))]) (v := some (.int (nI (ctS σ 1)))) (ca1 := 0) (sa1 := 0) (ca2 := 0) (sa2 := 0) (pc := 17) dX3_count_17 okX3_counted q4_89 q4_91 qs3_0 (rfl : vwCl[3]? = some _) a4 rfl (Nat.le_of_ble_eq_true rfl) (Nat.le_of_ble_eq_true rfl) (m_counted1 (dd := dd) hP1) (by omega) (by omega) (fun h_3 q_4 => ?_)
  have zh_3 := q_4.1
  have H_5 : h_3.2 (53) = some (oB 3 [.int (nI (0)), .int (nI (σ.1.1)), .ref (54), .ref (55), .int (nI (σ.1.2.1)), .int (nI (σ.2.1.2.1)), .int (nI (σ.2.1.2.2)), .int (nI (σ.2.1.1)), .ref (56), .ref (57), .ref (58)]) := (q_4.2 _ (by omega)).trans a4
  have H_6 : h_3.2 (54) = some (aI (60) (mf)) := (q_4.2 _ (by omega)).trans a5
  have H_7 : h_3.2 (55) = some (aI (20) (sf)) := (q_4.2 _ (by omega)).trans a6
  have H_8 : h_3.2 (56) = some (aG (5) (rf)) := (q_4.2 _ (by omega)).trans a7
  have H_9 : h_3.2 (57) = some (aI (5) (pf)) := (q_4.2 _ (by omega)).trans a8
  have H_10 : h_3.2 (58) = some (aI (5) (lf)) := (q_4.2 _ (by omega)).trans a9
  have H_11 : Ext h_1 h_3 := Ext_tr Ext_rfl q_4
  have H_12 : MS h_3 σ.1 := MS_ext q_4 (by omega) hM
  have H_13 : MP h_3 σ ρ (nI 0) := MP_ext q_4 hP1
  refine J_goto (tgt := 28) (pc := 20) dX3_count_20 (by decide) ?_
  refine J_iret (ty := .int) (pc := 28) dX3_count_28 rfl rfl ?_
  exact ⟨rfl, FM_tr fm1 (FM_ext (by omega) H_11), ρ, H_13⟩

set_option maxHeartbeats 2000000 in
set_option maxRecDepth 20000 in
theorem m_count2 {g : GT} {dd : Nat} {h : MH} {σ : ST} {ρ : Nat → Nat} {th : Int32} (hP : MP h σ ρ th) : J g (dd + 5) 0 0 mX3_count 0 (lv_args 0 [.ref (53), .int (nI (2))]) [] h (RMo (.int (nI (ctS σ 2))) h σ (nI 0)) := by
  have a40 := hP.2.2.2.1
  have hz0 := hP.2.2.1
  refine J_aload_n (i := 0) (pc := 0) dX3_count_0 rfl rfl ?_
  refine J_iconst (v := nI (0)) (pc := 1) dX3_count_1 rfl ?_
  refine J_putf (k := 0) (pc := 2) dX3_count_2 fpX3_count_34 (fun g => ⟨rfl, rfl⟩) a40 (Nat.le_of_ble_eq_true rfl) ?_
  obtain ⟨h_1, eh_1⟩ : ∃ z : MH, z = (h.1, hset h.2 (53) (oB 3 [.int (nI (0)), .int (nI (σ.1.1)), .ref (54), .ref (55), .int (nI (σ.1.2.1)), .int (nI (σ.2.1.2.1)), .int (nI (σ.2.1.2.2)), .int (nI (σ.2.1.1)), .ref (56), .ref (57), .ref (58)])) := ⟨_, rfl⟩
  refine J_heq (h2 := h_1) eh_1 ?_
  have zh_1 : h_1.1 = h.1 := by rw [eh_1]
  have H_2 : h_1.2 (53) = some (oB 3 [.int (nI (0)), .int (nI (σ.1.1)), .ref (54), .ref (55), .int (nI (σ.1.2.1)), .int (nI (σ.2.1.2.1)), .int (nI (σ.2.1.2.2)), .int (nI (σ.2.1.1)), .ref (56), .ref (57), .ref (58)]) := hs_s eh_1
  have hP1 : MP h_1 σ ρ (nI 0) := MP_53 hP eh_1
  have fm1 : FM h h_1 := FM_set eh_1 (by decide) (by decide)
  obtain ⟨a1, a2, a3, a4, ⟨mf, a5, a5b⟩, ⟨sf, a6, a6b⟩, ⟨rf, a7, a7b⟩, ⟨pf, a8, a8b⟩, ⟨lf, a9, a9b⟩, a10, a11⟩ := id hP1
  obtain ⟨o1, o2, o3, o4⟩ := id a2
  have hM := MP_MS hP1
  obtain ⟨hn, hc9, hm5, hs2⟩ := id a1
  have hp9 := pw_le hn
  refine J_iload_n (i := 1) (pc := 5) dX3_count_5 rfl rfl ?_
  refine J_iconst (v := nI (0)) (pc := 6) dX3_count_6 rfl ?_
  refine J_bipush (v := nI (6)) (pc := 7) dX3_count_7 rfl ?_
  refine J_cSi (st := []) (As := [.int (nI (2)), .int (nI (0)), .int (nI (6))]) (pc := 9) dX3_count_9 okX3_isIn q3_166 q3_167 rfl (Nat.le_of_ble_eq_true rfl) (Nat.le_of_ble_eq_true rfl) (m_inT (by omega) (by omega) (inZ_nI (by decide) (by decide) (by decide))) ?_
  refine J_if_eqN (tgt := 23) (pc := 12) dX3_count_12 (by decide) (by omega) (fun c12 => by exfalso; first | omega | simp_all) (fun c12 => ?_)
  refine J_aload_n (i := 0) (pc := 15) dX3_count_15 rfl rfl ?_
  refine J_iload_n (i := 1) (pc := 16) dX3_count_16 rfl rfl ?_
  refine J_cVB (st := []) (As := [.int (nI (2))]) (v := some (.int (nI (ctS σ 2)))) (ca1 := 0) (sa1 := 0) (ca2 := 0) (sa2 := 0) (pc := 17) dX3_count_17 okX3_counted q4_89 q4_91 qs3_0 (rfl : vwCl[3]? = some _) a4 rfl (Nat.le_of_ble_eq_true rfl) (Nat.le_of_ble_eq_true rfl) (m_counted2 (dd := dd) hP1) (by omega) (by omega) (fun h_3 q_4 => ?_)
  have zh_3 := q_4.1
  have H_5 : h_3.2 (53) = some (oB 3 [.int (nI (0)), .int (nI (σ.1.1)), .ref (54), .ref (55), .int (nI (σ.1.2.1)), .int (nI (σ.2.1.2.1)), .int (nI (σ.2.1.2.2)), .int (nI (σ.2.1.1)), .ref (56), .ref (57), .ref (58)]) := (q_4.2 _ (by omega)).trans a4
  have H_6 : h_3.2 (54) = some (aI (60) (mf)) := (q_4.2 _ (by omega)).trans a5
  have H_7 : h_3.2 (55) = some (aI (20) (sf)) := (q_4.2 _ (by omega)).trans a6
  have H_8 : h_3.2 (56) = some (aG (5) (rf)) := (q_4.2 _ (by omega)).trans a7
  have H_9 : h_3.2 (57) = some (aI (5) (pf)) := (q_4.2 _ (by omega)).trans a8
  have H_10 : h_3.2 (58) = some (aI (5) (lf)) := (q_4.2 _ (by omega)).trans a9
  have H_11 : Ext h_1 h_3 := Ext_tr Ext_rfl q_4
  have H_12 : MS h_3 σ.1 := MS_ext q_4 (by omega) hM
  have H_13 : MP h_3 σ ρ (nI 0) := MP_ext q_4 hP1
  refine J_goto (tgt := 28) (pc := 20) dX3_count_20 (by decide) ?_
  refine J_iret (ty := .int) (pc := 28) dX3_count_28 rfl rfl ?_
  exact ⟨rfl, FM_tr fm1 (FM_ext (by omega) H_11), ρ, H_13⟩

set_option maxHeartbeats 2000000 in
set_option maxRecDepth 20000 in
theorem m_count3 {g : GT} {dd : Nat} {h : MH} {σ : ST} {ρ : Nat → Nat} {th : Int32} (hP : MP h σ ρ th) : J g (dd + 5) (2 * cnt (gro σ.1)) (6 * cnt (gro σ.1)) mX3_count 0 (lv_args 0 [.ref (53), .int (nI (3))]) [] h (RMo (.int (nI (ctS σ 3))) h σ (nI 0)) := by
  have a40 := hP.2.2.2.1
  have hz0 := hP.2.2.1
  refine J_aload_n (i := 0) (pc := 0) dX3_count_0 rfl rfl ?_
  refine J_iconst (v := nI (0)) (pc := 1) dX3_count_1 rfl ?_
  refine J_putf (k := 0) (pc := 2) dX3_count_2 fpX3_count_34 (fun g => ⟨rfl, rfl⟩) a40 (Nat.le_of_ble_eq_true rfl) ?_
  obtain ⟨h_1, eh_1⟩ : ∃ z : MH, z = (h.1, hset h.2 (53) (oB 3 [.int (nI (0)), .int (nI (σ.1.1)), .ref (54), .ref (55), .int (nI (σ.1.2.1)), .int (nI (σ.2.1.2.1)), .int (nI (σ.2.1.2.2)), .int (nI (σ.2.1.1)), .ref (56), .ref (57), .ref (58)])) := ⟨_, rfl⟩
  refine J_heq (h2 := h_1) eh_1 ?_
  have zh_1 : h_1.1 = h.1 := by rw [eh_1]
  have H_2 : h_1.2 (53) = some (oB 3 [.int (nI (0)), .int (nI (σ.1.1)), .ref (54), .ref (55), .int (nI (σ.1.2.1)), .int (nI (σ.2.1.2.1)), .int (nI (σ.2.1.2.2)), .int (nI (σ.2.1.1)), .ref (56), .ref (57), .ref (58)]) := hs_s eh_1
  have hP1 : MP h_1 σ ρ (nI 0) := MP_53 hP eh_1
  have fm1 : FM h h_1 := FM_set eh_1 (by decide) (by decide)
  obtain ⟨a1, a2, a3, a4, ⟨mf, a5, a5b⟩, ⟨sf, a6, a6b⟩, ⟨rf, a7, a7b⟩, ⟨pf, a8, a8b⟩, ⟨lf, a9, a9b⟩, a10, a11⟩ := id hP1
  obtain ⟨o1, o2, o3, o4⟩ := id a2
  have hM := MP_MS hP1
  obtain ⟨hn, hc9, hm5, hs2⟩ := id a1
  have hp9 := pw_le hn
  refine J_iload_n (i := 1) (pc := 5) dX3_count_5 rfl rfl ?_
  refine J_iconst (v := nI (0)) (pc := 6) dX3_count_6 rfl ?_
  refine J_bipush (v := nI (6)) (pc := 7) dX3_count_7 rfl ?_
  refine J_cSi (st := []) (As := [.int (nI (3)), .int (nI (0)), .int (nI (6))]) (pc := 9) dX3_count_9 okX3_isIn q3_166 q3_167 rfl (Nat.le_of_ble_eq_true rfl) (Nat.le_of_ble_eq_true rfl) (m_inT (by omega) (by omega) (inZ_nI (by decide) (by decide) (by decide))) ?_
  refine J_if_eqN (tgt := 23) (pc := 12) dX3_count_12 (by decide) (by omega) (fun c12 => by exfalso; first | omega | simp_all) (fun c12 => ?_)
  refine J_aload_n (i := 0) (pc := 15) dX3_count_15 rfl rfl ?_
  refine J_iload_n (i := 1) (pc := 16) dX3_count_16 rfl rfl ?_
  refine J_cVB (st := []) (As := [.int (nI (3))]) (v := some (.int (nI (ctS σ 3)))) (ca1 := 2 * cnt (gro σ.1)) (sa1 := 6 * cnt (gro σ.1)) (ca2 := 0) (sa2 := 0) (pc := 17) dX3_count_17 okX3_counted q4_89 q4_91 qs3_0 (rfl : vwCl[3]? = some _) a4 rfl (Nat.le_of_ble_eq_true rfl) (Nat.le_of_ble_eq_true rfl) (m_counted3 (dd := dd) hP1) (by omega) (by omega) (fun h_3 q_4 => ?_)
  have zh_3 := q_4.1
  have H_5 : h_3.2 (53) = some (oB 3 [.int (nI (0)), .int (nI (σ.1.1)), .ref (54), .ref (55), .int (nI (σ.1.2.1)), .int (nI (σ.2.1.2.1)), .int (nI (σ.2.1.2.2)), .int (nI (σ.2.1.1)), .ref (56), .ref (57), .ref (58)]) := (q_4.2 _ (by omega)).trans a4
  have H_6 : h_3.2 (54) = some (aI (60) (mf)) := (q_4.2 _ (by omega)).trans a5
  have H_7 : h_3.2 (55) = some (aI (20) (sf)) := (q_4.2 _ (by omega)).trans a6
  have H_8 : h_3.2 (56) = some (aG (5) (rf)) := (q_4.2 _ (by omega)).trans a7
  have H_9 : h_3.2 (57) = some (aI (5) (pf)) := (q_4.2 _ (by omega)).trans a8
  have H_10 : h_3.2 (58) = some (aI (5) (lf)) := (q_4.2 _ (by omega)).trans a9
  have H_11 : Ext h_1 h_3 := Ext_tr Ext_rfl q_4
  have H_12 : MS h_3 σ.1 := MS_ext q_4 (by omega) hM
  have H_13 : MP h_3 σ ρ (nI 0) := MP_ext q_4 hP1
  refine J_goto (tgt := 28) (pc := 20) dX3_count_20 (by decide) ?_
  refine J_iret (ty := .int) (pc := 28) dX3_count_28 rfl rfl ?_
  exact ⟨rfl, FM_tr fm1 (FM_ext (by omega) H_11), ρ, H_13⟩

set_option maxHeartbeats 2000000 in
set_option maxRecDepth 20000 in
theorem m_count4 {g : GT} {dd : Nat} {h : MH} {σ : ST} {ρ : Nat → Nat} {th : Int32} (hP : MP h σ ρ th) : J g (dd + 5) (2 * cnt σ.1.2.1) (6 * cnt σ.1.2.1) mX3_count 0 (lv_args 0 [.ref (53), .int (nI (4))]) [] h (RMo (.int (nI (ctS σ 4))) h σ (nI 0)) := by
  have a40 := hP.2.2.2.1
  have hz0 := hP.2.2.1
  refine J_aload_n (i := 0) (pc := 0) dX3_count_0 rfl rfl ?_
  refine J_iconst (v := nI (0)) (pc := 1) dX3_count_1 rfl ?_
  refine J_putf (k := 0) (pc := 2) dX3_count_2 fpX3_count_34 (fun g => ⟨rfl, rfl⟩) a40 (Nat.le_of_ble_eq_true rfl) ?_
  obtain ⟨h_1, eh_1⟩ : ∃ z : MH, z = (h.1, hset h.2 (53) (oB 3 [.int (nI (0)), .int (nI (σ.1.1)), .ref (54), .ref (55), .int (nI (σ.1.2.1)), .int (nI (σ.2.1.2.1)), .int (nI (σ.2.1.2.2)), .int (nI (σ.2.1.1)), .ref (56), .ref (57), .ref (58)])) := ⟨_, rfl⟩
  refine J_heq (h2 := h_1) eh_1 ?_
  have zh_1 : h_1.1 = h.1 := by rw [eh_1]
  have H_2 : h_1.2 (53) = some (oB 3 [.int (nI (0)), .int (nI (σ.1.1)), .ref (54), .ref (55), .int (nI (σ.1.2.1)), .int (nI (σ.2.1.2.1)), .int (nI (σ.2.1.2.2)), .int (nI (σ.2.1.1)), .ref (56), .ref (57), .ref (58)]) := hs_s eh_1
  have hP1 : MP h_1 σ ρ (nI 0) := MP_53 hP eh_1
  have fm1 : FM h h_1 := FM_set eh_1 (by decide) (by decide)
  obtain ⟨a1, a2, a3, a4, ⟨mf, a5, a5b⟩, ⟨sf, a6, a6b⟩, ⟨rf, a7, a7b⟩, ⟨pf, a8, a8b⟩, ⟨lf, a9, a9b⟩, a10, a11⟩ := id hP1
  obtain ⟨o1, o2, o3, o4⟩ := id a2
  have hM := MP_MS hP1
  obtain ⟨hn, hc9, hm5, hs2⟩ := id a1
  have hp9 := pw_le hn
  refine J_iload_n (i := 1) (pc := 5) dX3_count_5 rfl rfl ?_
  refine J_iconst (v := nI (0)) (pc := 6) dX3_count_6 rfl ?_
  refine J_bipush (v := nI (6)) (pc := 7) dX3_count_7 rfl ?_
  refine J_cSi (st := []) (As := [.int (nI (4)), .int (nI (0)), .int (nI (6))]) (pc := 9) dX3_count_9 okX3_isIn q3_166 q3_167 rfl (Nat.le_of_ble_eq_true rfl) (Nat.le_of_ble_eq_true rfl) (m_inT (by omega) (by omega) (inZ_nI (by decide) (by decide) (by decide))) ?_
  refine J_if_eqN (tgt := 23) (pc := 12) dX3_count_12 (by decide) (by omega) (fun c12 => by exfalso; first | omega | simp_all) (fun c12 => ?_)
  refine J_aload_n (i := 0) (pc := 15) dX3_count_15 rfl rfl ?_
  refine J_iload_n (i := 1) (pc := 16) dX3_count_16 rfl rfl ?_
  refine J_cVB (st := []) (As := [.int (nI (4))]) (v := some (.int (nI (ctS σ 4)))) (ca1 := 2 * cnt σ.1.2.1) (sa1 := 6 * cnt σ.1.2.1) (ca2 := 0) (sa2 := 0) (pc := 17) dX3_count_17 okX3_counted q4_89 q4_91 qs3_0 (rfl : vwCl[3]? = some _) a4 rfl (Nat.le_of_ble_eq_true rfl) (Nat.le_of_ble_eq_true rfl) (m_counted4 (dd := dd) hP1) (by omega) (by omega) (fun h_3 q_4 => ?_)
  have zh_3 := q_4.1
  have H_5 : h_3.2 (53) = some (oB 3 [.int (nI (0)), .int (nI (σ.1.1)), .ref (54), .ref (55), .int (nI (σ.1.2.1)), .int (nI (σ.2.1.2.1)), .int (nI (σ.2.1.2.2)), .int (nI (σ.2.1.1)), .ref (56), .ref (57), .ref (58)]) := (q_4.2 _ (by omega)).trans a4
  have H_6 : h_3.2 (54) = some (aI (60) (mf)) := (q_4.2 _ (by omega)).trans a5
  have H_7 : h_3.2 (55) = some (aI (20) (sf)) := (q_4.2 _ (by omega)).trans a6
  have H_8 : h_3.2 (56) = some (aG (5) (rf)) := (q_4.2 _ (by omega)).trans a7
  have H_9 : h_3.2 (57) = some (aI (5) (pf)) := (q_4.2 _ (by omega)).trans a8
  have H_10 : h_3.2 (58) = some (aI (5) (lf)) := (q_4.2 _ (by omega)).trans a9
  have H_11 : Ext h_1 h_3 := Ext_tr Ext_rfl q_4
  have H_12 : MS h_3 σ.1 := MS_ext q_4 (by omega) hM
  have H_13 : MP h_3 σ ρ (nI 0) := MP_ext q_4 hP1
  refine J_goto (tgt := 28) (pc := 20) dX3_count_20 (by decide) ?_
  refine J_iret (ty := .int) (pc := 28) dX3_count_28 rfl rfl ?_
  exact ⟨rfl, FM_tr fm1 (FM_ext (by omega) H_11), ρ, H_13⟩

set_option maxHeartbeats 2000000 in
set_option maxRecDepth 20000 in
theorem m_count5 {g : GT} {dd : Nat} {h : MH} {σ : ST} {ρ : Nat → Nat} {th : Int32} (hP : MP h σ ρ th) : J g (dd + 5) 0 0 mX3_count 0 (lv_args 0 [.ref (53), .int (nI (5))]) [] h (RMo (.int (nI (ctS σ 5))) h σ (nI 0)) := by
  have a40 := hP.2.2.2.1
  have hz0 := hP.2.2.1
  refine J_aload_n (i := 0) (pc := 0) dX3_count_0 rfl rfl ?_
  refine J_iconst (v := nI (0)) (pc := 1) dX3_count_1 rfl ?_
  refine J_putf (k := 0) (pc := 2) dX3_count_2 fpX3_count_34 (fun g => ⟨rfl, rfl⟩) a40 (Nat.le_of_ble_eq_true rfl) ?_
  obtain ⟨h_1, eh_1⟩ : ∃ z : MH, z = (h.1, hset h.2 (53) (oB 3 [.int (nI (0)), .int (nI (σ.1.1)), .ref (54), .ref (55), .int (nI (σ.1.2.1)), .int (nI (σ.2.1.2.1)), .int (nI (σ.2.1.2.2)), .int (nI (σ.2.1.1)), .ref (56), .ref (57), .ref (58)])) := ⟨_, rfl⟩
  refine J_heq (h2 := h_1) eh_1 ?_
  have zh_1 : h_1.1 = h.1 := by rw [eh_1]
  have H_2 : h_1.2 (53) = some (oB 3 [.int (nI (0)), .int (nI (σ.1.1)), .ref (54), .ref (55), .int (nI (σ.1.2.1)), .int (nI (σ.2.1.2.1)), .int (nI (σ.2.1.2.2)), .int (nI (σ.2.1.1)), .ref (56), .ref (57), .ref (58)]) := hs_s eh_1
  have hP1 : MP h_1 σ ρ (nI 0) := MP_53 hP eh_1
  have fm1 : FM h h_1 := FM_set eh_1 (by decide) (by decide)
  obtain ⟨a1, a2, a3, a4, ⟨mf, a5, a5b⟩, ⟨sf, a6, a6b⟩, ⟨rf, a7, a7b⟩, ⟨pf, a8, a8b⟩, ⟨lf, a9, a9b⟩, a10, a11⟩ := id hP1
  obtain ⟨o1, o2, o3, o4⟩ := id a2
  have hM := MP_MS hP1
  obtain ⟨hn, hc9, hm5, hs2⟩ := id a1
  have hp9 := pw_le hn
  refine J_iload_n (i := 1) (pc := 5) dX3_count_5 rfl rfl ?_
  refine J_iconst (v := nI (0)) (pc := 6) dX3_count_6 rfl ?_
  refine J_bipush (v := nI (6)) (pc := 7) dX3_count_7 rfl ?_
  refine J_cSi (st := []) (As := [.int (nI (5)), .int (nI (0)), .int (nI (6))]) (pc := 9) dX3_count_9 okX3_isIn q3_166 q3_167 rfl (Nat.le_of_ble_eq_true rfl) (Nat.le_of_ble_eq_true rfl) (m_inT (by omega) (by omega) (inZ_nI (by decide) (by decide) (by decide))) ?_
  refine J_if_eqN (tgt := 23) (pc := 12) dX3_count_12 (by decide) (by omega) (fun c12 => by exfalso; first | omega | simp_all) (fun c12 => ?_)
  refine J_aload_n (i := 0) (pc := 15) dX3_count_15 rfl rfl ?_
  refine J_iload_n (i := 1) (pc := 16) dX3_count_16 rfl rfl ?_
  refine J_cVB (st := []) (As := [.int (nI (5))]) (v := some (.int (nI (ctS σ 5)))) (ca1 := 0) (sa1 := 0) (ca2 := 0) (sa2 := 0) (pc := 17) dX3_count_17 okX3_counted q4_89 q4_91 qs3_0 (rfl : vwCl[3]? = some _) a4 rfl (Nat.le_of_ble_eq_true rfl) (Nat.le_of_ble_eq_true rfl) (m_counted5 (dd := dd) hP1) (by omega) (by omega) (fun h_3 q_4 => ?_)
  have zh_3 := q_4.1
  have H_5 : h_3.2 (53) = some (oB 3 [.int (nI (0)), .int (nI (σ.1.1)), .ref (54), .ref (55), .int (nI (σ.1.2.1)), .int (nI (σ.2.1.2.1)), .int (nI (σ.2.1.2.2)), .int (nI (σ.2.1.1)), .ref (56), .ref (57), .ref (58)]) := (q_4.2 _ (by omega)).trans a4
  have H_6 : h_3.2 (54) = some (aI (60) (mf)) := (q_4.2 _ (by omega)).trans a5
  have H_7 : h_3.2 (55) = some (aI (20) (sf)) := (q_4.2 _ (by omega)).trans a6
  have H_8 : h_3.2 (56) = some (aG (5) (rf)) := (q_4.2 _ (by omega)).trans a7
  have H_9 : h_3.2 (57) = some (aI (5) (pf)) := (q_4.2 _ (by omega)).trans a8
  have H_10 : h_3.2 (58) = some (aI (5) (lf)) := (q_4.2 _ (by omega)).trans a9
  have H_11 : Ext h_1 h_3 := Ext_tr Ext_rfl q_4
  have H_12 : MS h_3 σ.1 := MS_ext q_4 (by omega) hM
  have H_13 : MP h_3 σ ρ (nI 0) := MP_ext q_4 hP1
  refine J_goto (tgt := 28) (pc := 20) dX3_count_20 (by decide) ?_
  refine J_iret (ty := .int) (pc := 28) dX3_count_28 rfl rfl ?_
  exact ⟨rfl, FM_tr fm1 (FM_ext (by omega) H_11), ρ, H_13⟩

set_option maxHeartbeats 2000000 in
set_option maxRecDepth 20000 in
theorem m_count6 {g : GT} {dd : Nat} {h : MH} {σ : ST} {ρ : Nat → Nat} {th : Int32} (hP : MP h σ ρ th) : J g (dd + 5) 0 0 mX3_count 0 (lv_args 0 [.ref (53), .int (nI (6))]) [] h (RMo (.int (nI (ctS σ 6))) h σ (nI 0)) := by
  have a40 := hP.2.2.2.1
  have hz0 := hP.2.2.1
  refine J_aload_n (i := 0) (pc := 0) dX3_count_0 rfl rfl ?_
  refine J_iconst (v := nI (0)) (pc := 1) dX3_count_1 rfl ?_
  refine J_putf (k := 0) (pc := 2) dX3_count_2 fpX3_count_34 (fun g => ⟨rfl, rfl⟩) a40 (Nat.le_of_ble_eq_true rfl) ?_
  obtain ⟨h_1, eh_1⟩ : ∃ z : MH, z = (h.1, hset h.2 (53) (oB 3 [.int (nI (0)), .int (nI (σ.1.1)), .ref (54), .ref (55), .int (nI (σ.1.2.1)), .int (nI (σ.2.1.2.1)), .int (nI (σ.2.1.2.2)), .int (nI (σ.2.1.1)), .ref (56), .ref (57), .ref (58)])) := ⟨_, rfl⟩
  refine J_heq (h2 := h_1) eh_1 ?_
  have zh_1 : h_1.1 = h.1 := by rw [eh_1]
  have H_2 : h_1.2 (53) = some (oB 3 [.int (nI (0)), .int (nI (σ.1.1)), .ref (54), .ref (55), .int (nI (σ.1.2.1)), .int (nI (σ.2.1.2.1)), .int (nI (σ.2.1.2.2)), .int (nI (σ.2.1.1)), .ref (56), .ref (57), .ref (58)]) := hs_s eh_1
  have hP1 : MP h_1 σ ρ (nI 0) := MP_53 hP eh_1
  have fm1 : FM h h_1 := FM_set eh_1 (by decide) (by decide)
  obtain ⟨a1, a2, a3, a4, ⟨mf, a5, a5b⟩, ⟨sf, a6, a6b⟩, ⟨rf, a7, a7b⟩, ⟨pf, a8, a8b⟩, ⟨lf, a9, a9b⟩, a10, a11⟩ := id hP1
  obtain ⟨o1, o2, o3, o4⟩ := id a2
  have hM := MP_MS hP1
  obtain ⟨hn, hc9, hm5, hs2⟩ := id a1
  have hp9 := pw_le hn
  refine J_iload_n (i := 1) (pc := 5) dX3_count_5 rfl rfl ?_
  refine J_iconst (v := nI (0)) (pc := 6) dX3_count_6 rfl ?_
  refine J_bipush (v := nI (6)) (pc := 7) dX3_count_7 rfl ?_
  refine J_cSi (st := []) (As := [.int (nI (6)), .int (nI (0)), .int (nI (6))]) (pc := 9) dX3_count_9 okX3_isIn q3_166 q3_167 rfl (Nat.le_of_ble_eq_true rfl) (Nat.le_of_ble_eq_true rfl) (m_inT (by omega) (by omega) (inZ_nI (by decide) (by decide) (by decide))) ?_
  refine J_if_eqN (tgt := 23) (pc := 12) dX3_count_12 (by decide) (by omega) (fun c12 => by exfalso; first | omega | simp_all) (fun c12 => ?_)
  refine J_aload_n (i := 0) (pc := 15) dX3_count_15 rfl rfl ?_
  refine J_iload_n (i := 1) (pc := 16) dX3_count_16 rfl rfl ?_
  refine J_cVB (st := []) (As := [.int (nI (6))]) (v := some (.int (nI (ctS σ 6)))) (ca1 := 0) (sa1 := 0) (ca2 := 0) (sa2 := 0) (pc := 17) dX3_count_17 okX3_counted q4_89 q4_91 qs3_0 (rfl : vwCl[3]? = some _) a4 rfl (Nat.le_of_ble_eq_true rfl) (Nat.le_of_ble_eq_true rfl) (m_counted6 (dd := dd) hP1) (by omega) (by omega) (fun h_3 q_4 => ?_)
  have zh_3 := q_4.1
  have H_5 : h_3.2 (53) = some (oB 3 [.int (nI (0)), .int (nI (σ.1.1)), .ref (54), .ref (55), .int (nI (σ.1.2.1)), .int (nI (σ.2.1.2.1)), .int (nI (σ.2.1.2.2)), .int (nI (σ.2.1.1)), .ref (56), .ref (57), .ref (58)]) := (q_4.2 _ (by omega)).trans a4
  have H_6 : h_3.2 (54) = some (aI (60) (mf)) := (q_4.2 _ (by omega)).trans a5
  have H_7 : h_3.2 (55) = some (aI (20) (sf)) := (q_4.2 _ (by omega)).trans a6
  have H_8 : h_3.2 (56) = some (aG (5) (rf)) := (q_4.2 _ (by omega)).trans a7
  have H_9 : h_3.2 (57) = some (aI (5) (pf)) := (q_4.2 _ (by omega)).trans a8
  have H_10 : h_3.2 (58) = some (aI (5) (lf)) := (q_4.2 _ (by omega)).trans a9
  have H_11 : Ext h_1 h_3 := Ext_tr Ext_rfl q_4
  have H_12 : MS h_3 σ.1 := MS_ext q_4 (by omega) hM
  have H_13 : MP h_3 σ ρ (nI 0) := MP_ext q_4 hP1
  refine J_goto (tgt := 28) (pc := 20) dX3_count_20 (by decide) ?_
  refine J_iret (ty := .int) (pc := 28) dX3_count_28 rfl rfl ?_
  exact ⟨rfl, FM_tr fm1 (FM_ext (by omega) H_11), ρ, H_13⟩

set_option maxHeartbeats 2000000 in
set_option maxRecDepth 20000 in
theorem m_countX1 {g : GT} {dd : Nat} {h : MH} {σ : ST} {ρ : Nat → Nat} {th : Int32} (hP : MP h σ ρ th) {what : Int32} (hw : ¬ inZ 0 6 what) : J g (dd + 5) 0 0 mX3_count 0 (lv_args 0 [.ref (53), .int (what)]) [] h (RMo (.int (nI 0)) h σ (nI 1)) := by
  have a40 := hP.2.2.2.1
  have hz0 := hP.2.2.1
  refine J_aload_n (i := 0) (pc := 0) dX3_count_0 rfl rfl ?_
  refine J_iconst (v := nI (0)) (pc := 1) dX3_count_1 rfl ?_
  refine J_putf (k := 0) (pc := 2) dX3_count_2 fpX3_count_34 (fun g => ⟨rfl, rfl⟩) a40 (Nat.le_of_ble_eq_true rfl) ?_
  obtain ⟨h_1, eh_1⟩ : ∃ z : MH, z = (h.1, hset h.2 (53) (oB 3 [.int (nI (0)), .int (nI (σ.1.1)), .ref (54), .ref (55), .int (nI (σ.1.2.1)), .int (nI (σ.2.1.2.1)), .int (nI (σ.2.1.2.2)), .int (nI (σ.2.1.1)), .ref (56), .ref (57), .ref (58)])) := ⟨_, rfl⟩
  refine J_heq (h2 := h_1) eh_1 ?_
  have zh_1 : h_1.1 = h.1 := by rw [eh_1]
  have H_2 : h_1.2 (53) = some (oB 3 [.int (nI (0)), .int (nI (σ.1.1)), .ref (54), .ref (55), .int (nI (σ.1.2.1)), .int (nI (σ.2.1.2.1)), .int (nI (σ.2.1.2.2)), .int (nI (σ.2.1.1)), .ref (56), .ref (57), .ref (58)]) := hs_s eh_1
  have hP1 : MP h_1 σ ρ (nI 0) := MP_53 hP eh_1
  have fm1 : FM h h_1 := FM_set eh_1 (by decide) (by decide)
  obtain ⟨a1, a2, a3, a4, ⟨mf, a5, a5b⟩, ⟨sf, a6, a6b⟩, ⟨rf, a7, a7b⟩, ⟨pf, a8, a8b⟩, ⟨lf, a9, a9b⟩, a10, a11⟩ := id hP1
  obtain ⟨o1, o2, o3, o4⟩ := id a2
  have hM := MP_MS hP1
  obtain ⟨hn, hc9, hm5, hs2⟩ := id a1
  have hp9 := pw_le hn
  refine J_iload_n (i := 1) (pc := 5) dX3_count_5 rfl rfl ?_
  refine J_iconst (v := nI (0)) (pc := 6) dX3_count_6 rfl ?_
  refine J_bipush (v := nI (6)) (pc := 7) dX3_count_7 rfl ?_
  refine J_cSi (st := []) (As := [.int (what), .int (nI (0)), .int (nI (6))]) (pc := 9) dX3_count_9 okX3_isIn q3_166 q3_167 rfl (Nat.le_of_ble_eq_true rfl) (Nat.le_of_ble_eq_true rfl) (m_inF (by omega) (by omega) (hw)) ?_
  refine J_if_eqN (tgt := 23) (pc := 12) dX3_count_12 (by decide) (by omega) (fun c12 => ?_) (fun c12 => by exfalso; first | omega | simp_all)
  refine J_aload_n (i := 0) (pc := 23) dX3_count_23 rfl rfl ?_
  refine J_iconst (v := nI (1)) (pc := 24) dX3_count_24 rfl ?_
  refine J_cVh (st := []) (As := [.int (nI (1))]) (pc := 25) dX3_count_25 okX3_no q3_169 q3_171 qs1_13 (rfl : vwCl[3]? = some _) a4 rfl (Nat.le_of_ble_eq_true rfl) (Nat.le_of_ble_eq_true rfl) (m_no hP1) (fun h_3 q_4 => ?_)
  refine J_iret (ty := .int) (pc := 28) dX3_count_28 rfl rfl ?_
  exact ⟨rfl, FM_tr fm1 (FM_tr (FM_ext (by omega) Ext_rfl) q_4.1), ρ, q_4.2⟩

theorem sqs_0 (β : BT) {X : Nat} (h : X = 0) : sqs β X = 0 := by
  subst h
  show cnt (0 &&& _) * cnt (0 &&& _) + cnt (0 &&& _) * cnt (0 &&& _) + cnt (0 &&& _) * cnt (0 &&& _) = 0
  rw [Nat.zero_and, Nat.zero_and, Nat.zero_and]
  rfl
theorem gA_z (β : BT) {s low : Nat} (h : low = 0 ∨ sdf s low = 0) : gA β s low = 0 := by
  unfold gA
  rcases h with h | h
  · have hc : cnt low = 0 := by rw [h]; rfl
    rw [sqs_0 β h, hc]
    simp
  · have hc : cnt (sdf s low) = 0 := by rw [h]; rfl
    rw [sqs_0 β h, hc]
    simp
theorem gn_z {β : BT} {m x w : Nat} (h : gro β &&& mkL β m x = 0 ∨ sdf (gro β) (gro β &&& mkL β m x) = 0) : gnS β m x w = w := if_pos (gA_z β h)
theorem gn_n {β : BT} {m x : Nat} (hB : 0 < gB (gro β) (gro β &&& mkL β m x)) : gnS β m x 0 = gA β (gro β) (gro β &&& mkL β m x) / Nat.gcd (gB (gro β) (gro β &&& mkL β m x)) (gA β (gro β) (gro β &&& mkL β m x)) ∧ gnS β m x 1 = gB (gro β) (gro β &&& mkL β m x) / Nat.gcd (gB (gro β) (gro β &&& mkL β m x)) (gA β (gro β) (gro β &&& mkL β m x)) := by
  unfold gnS
  generalize gA β (gro β) (gro β &&& mkL β m x) = a at *
  generalize gB (gro β) (gro β &&& mkL β m x) = b at *
  by_cases h : a = 0
  · subst h
    refine ⟨by simp, ?_⟩
    rw [if_pos rfl, Nat.gcd_zero_right, Nat.div_self hB]
  · have hg : 0 < Nat.gcd a b := Nat.gcd_pos_of_pos_right _ hB
    simp only [if_neg h, Nat.gcd_comm b a]
    rw [show max 1 (Nat.gcd a b) = Nat.gcd a b by omega]
    exact ⟨rfl, rfl⟩
theorem gro_n {β : BT} (hW : WF β) : gro β < 2 ^ β.1 := by
  have h1 := sdf_le (2 ^ β.1 - 1) β.2.1
  have h2 := pw_le hW.1
  unfold gro
  omega
theorem cnt_pos {s : Nat} (hs : s < 2 ^ 20) (h : s ≠ 0) : 0 < cnt s := by
  rcases Nat.eq_zero_or_pos (cnt s) with e | e
  · exact absurd ((cnt_0 hs).mp e) h
  · exact e

set_option maxHeartbeats 2000000 in
set_option maxRecDepth 20000 in
theorem m_gain0Z {g : GT} {dd : Nat} {h : MH} {σ : ST} {ρ : Nat → Nat} {th : Int32} (hP : MP h σ ρ th) {m x : Nat} (hm : m < 3) (hx : x ≤ 50) (hzz : gro σ.1 &&& mkL σ.1 m x = 0 ∨ sdf (gro σ.1) (gro σ.1 &&& mkL σ.1 m x) = 0) : J g (dd + 42) 1 2 mX3_gain 0 (lv_args 0 [.ref (53), .int (nI (m)), .int (nI (x)), .int (nI (0))]) [] h (RMo (.int (nI (gnS σ.1 m x 0))) h σ (nI 0)) := by
  have a40 := hP.2.2.2.1
  have hz0 := hP.2.2.1
  refine J_aload_n (i := 0) (pc := 0) dX3_gain_0 rfl rfl ?_
  refine J_iconst (v := nI (0)) (pc := 1) dX3_gain_1 rfl ?_
  refine J_putf (k := 0) (pc := 2) dX3_gain_2 fpX3_gain_34 (fun g => ⟨rfl, rfl⟩) a40 (Nat.le_of_ble_eq_true rfl) ?_
  obtain ⟨h_1, eh_1⟩ : ∃ z : MH, z = (h.1, hset h.2 (53) (oB 3 [.int (nI (0)), .int (nI (σ.1.1)), .ref (54), .ref (55), .int (nI (σ.1.2.1)), .int (nI (σ.2.1.2.1)), .int (nI (σ.2.1.2.2)), .int (nI (σ.2.1.1)), .ref (56), .ref (57), .ref (58)])) := ⟨_, rfl⟩
  refine J_heq (h2 := h_1) eh_1 ?_
  have zh_1 : h_1.1 = h.1 := by rw [eh_1]
  have H_2 : h_1.2 (53) = some (oB 3 [.int (nI (0)), .int (nI (σ.1.1)), .ref (54), .ref (55), .int (nI (σ.1.2.1)), .int (nI (σ.2.1.2.1)), .int (nI (σ.2.1.2.2)), .int (nI (σ.2.1.1)), .ref (56), .ref (57), .ref (58)]) := hs_s eh_1
  have hP1 : MP h_1 σ ρ (nI 0) := MP_53 hP eh_1
  have fm1 : FM h h_1 := FM_set eh_1 (by decide) (by decide)
  obtain ⟨a1, a2, a3, a4, ⟨mf, a5, a5b⟩, ⟨sf, a6, a6b⟩, ⟨rf, a7, a7b⟩, ⟨pf, a8, a8b⟩, ⟨lf, a9, a9b⟩, a10, a11⟩ := id hP1
  obtain ⟨o1, o2, o3, o4⟩ := id a2
  have hM := MP_MS hP1
  obtain ⟨hn, hc9, hm5, hs2⟩ := id a1
  have hp9 := pw_le hn
  have hgn := gro_n a1
  have hg20 := gro_lt a1
  have hgp : 0 < Nat.gcd 1 0 := by decide
  have hgl : Nat.gcd 1 0 ≤ 1 := by decide
  refine J_iload_n (i := 1) (pc := 5) dX3_gain_5 rfl rfl ?_
  refine J_iconst (v := nI (0)) (pc := 6) dX3_gain_6 rfl ?_
  refine J_iconst (v := nI (2)) (pc := 7) dX3_gain_7 rfl ?_
  refine J_cSi (st := []) (As := [.int (nI (m)), .int (nI (0)), .int (nI (2))]) (pc := 8) dX3_gain_8 okX3_isIn q3_166 q3_167 rfl (Nat.le_of_ble_eq_true rfl) (Nat.le_of_ble_eq_true rfl) (m_inT (by omega) (by omega) (inZ_nI (by omega) (by omega) (by decide))) ?_
  refine J_if_eqN (tgt := 23) (pc := 11) dX3_gain_11 (by decide) (by omega) (fun c11 => by exfalso; first | omega | simp_all) (fun c11 => ?_)
  refine J_iload_n (i := 3) (pc := 14) dX3_gain_14 rfl rfl ?_
  refine J_iconst (v := nI (0)) (pc := 15) dX3_gain_15 rfl ?_
  refine J_iconst (v := nI (1)) (pc := 16) dX3_gain_16 rfl ?_
  refine J_cSi (st := []) (As := [.int (nI (0)), .int (nI (0)), .int (nI (1))]) (pc := 17) dX3_gain_17 okX3_isIn q3_166 q3_167 rfl (Nat.le_of_ble_eq_true rfl) (Nat.le_of_ble_eq_true rfl) (m_inT (by omega) (by omega) (inZ_nI (by decide) (by decide) (by decide))) ?_
  refine J_if_neN (tgt := 29) (pc := 20) dX3_gain_20 (by decide) (by omega) (fun c20 => ?_) (fun c20 => by exfalso; first | omega | simp_all)
  refine J_iload_n (i := 2) (pc := 29) dX3_gain_29 rfl rfl ?_
  refine J_iconst (v := nI (0)) (pc := 30) dX3_gain_30 rfl ?_
  refine J_bipush (v := nI (50)) (pc := 31) dX3_gain_31 rfl ?_
  refine J_cSi (st := []) (As := [.int (nI (x)), .int (nI (0)), .int (nI (50))]) (pc := 33) dX3_gain_33 okX3_isIn q3_166 q3_167 rfl (Nat.le_of_ble_eq_true rfl) (Nat.le_of_ble_eq_true rfl) (m_inT (by omega) (by omega) (inZ_nI (by omega) (by omega) (by decide))) ?_
  refine J_if_neN (tgt := 45) (pc := 36) dX3_gain_36 (by decide) (by omega) (fun c36 => ?_) (fun c36 => by exfalso; first | omega | simp_all)
  refine J_aload_n (i := 0) (pc := 45) dX3_gain_45 rfl rfl ?_
  refine J_aload_n (i := 0) (pc := 46) dX3_gain_46 rfl rfl ?_
  refine J_cVi (st := [.ref (53)]) (As := []) (pc := 47) dX3_gain_47 okX3_growing q3_199 q3_201 qs1_14 (rfl : vwCl[3]? = some _) a4 rfl (Nat.le_of_ble_eq_true rfl) (Nat.le_of_ble_eq_true rfl) (m_growing hM) ?_
  refine J_iload_n (i := 1) (pc := 50) dX3_gain_50 rfl rfl ?_
  refine J_iload_n (i := 2) (pc := 51) dX3_gain_51 rfl rfl ?_
  refine J_cVB (st := []) (As := [.int (nI (gro σ.1)), .int (nI (m)), .int (nI (x))]) (v := some (.ref (h_1.1))) (ca1 := 1) (sa1 := 2) (ca2 := 0) (sa2 := 0) (pc := 52) dX3_gain_52 okX3_gainOf q3_235 q3_237 qs2_7 (rfl : vwCl[3]? = some _) a4 rfl (Nat.le_of_ble_eq_true rfl) (Nat.le_of_ble_eq_true rfl) (m_gainZ (d := dd + 38) hM (by omega) hgn hm (by omega) hzz) (by omega) (by omega) (fun h_3 q_4 => ?_)
  obtain ⟨B, eB⟩ : ∃ z : Nat, z = h_1.1 := ⟨_, rfl⟩
  rw [← eB]
  obtain ⟨xB, zB, fB, kB, fB0, fB1⟩ := q_4
  rw [← eB] at kB
  have zh_3 := xB.1
  have H_5 : h_3.2 (53) = some (oB 3 [.int (nI (0)), .int (nI (σ.1.1)), .ref (54), .ref (55), .int (nI (σ.1.2.1)), .int (nI (σ.2.1.2.1)), .int (nI (σ.2.1.2.2)), .int (nI (σ.2.1.1)), .ref (56), .ref (57), .ref (58)]) := (xB.2 _ (by omega)).trans a4
  have H_6 : h_3.2 (54) = some (aI (60) (mf)) := (xB.2 _ (by omega)).trans a5
  have H_7 : h_3.2 (55) = some (aI (20) (sf)) := (xB.2 _ (by omega)).trans a6
  have H_8 : h_3.2 (56) = some (aG (5) (rf)) := (xB.2 _ (by omega)).trans a7
  have H_9 : h_3.2 (57) = some (aI (5) (pf)) := (xB.2 _ (by omega)).trans a8
  have H_10 : h_3.2 (58) = some (aI (5) (lf)) := (xB.2 _ (by omega)).trans a9
  have H_11 : Ext h_1 h_3 := Ext_tr Ext_rfl xB
  have H_12 : MS h_3 σ.1 := MS_ext xB (by omega) hM
  have H_13 : MP h_3 σ ρ (nI 0) := MP_ext xB hP1
  refine J_astore (i := 4) (lv' := [(4, .ref (B)), (0, .ref (53)), (1, .int (nI (m))), (2, .int (nI (x))), (3, .int (nI (0)))]) (pc := 55) dX3_gain_55 (by decide) rfl ?_
  refine J_aload (i := 4) (pc := 57) dX3_gain_57 rfl ?_
  refine J_iload_n (i := 3) (pc := 59) dX3_gain_59 rfl rfl ?_
  refine J_lald (j := 0) (pc := 60) dX3_gain_60 kB rfl (by omega) (by omega) ?_
  rw [show fB 0 = lN (0) from fB0]
  refine J_aload (i := 4) (pc := 61) dX3_gain_61 rfl ?_
  refine J_iconst (v := nI (1)) (pc := 63) dX3_gain_63 rfl ?_
  refine J_lald (j := 1) (pc := 64) dX3_gain_64 kB rfl (by omega) (by omega) ?_
  rw [show fB 1 = lN (1) from fB1]
  refine J_aload (i := 4) (pc := 65) dX3_gain_65 rfl ?_
  refine J_iconst (v := nI (0)) (pc := 67) dX3_gain_67 rfl ?_
  refine J_lald (j := 0) (pc := 68) dX3_gain_68 kB rfl (by omega) (by omega) ?_
  rw [show fB 0 = lN (0) from fB0]
  refine J_cSl (st := [.long (lN (0))]) (As := [.long (lN (1)), .long (lN (0))]) (pc := 69) dX3_gain_69 okX3_divisor q4_101 q4_102 rfl (Nat.le_of_ble_eq_true rfl) (Nat.le_of_ble_eq_true rfl) (m_div (g := g) (d := dd + 1) (x := 1) (y := 0) (by omega) (by omega)) ?_
  refine J_ldivN (pc := 72) dX3_gain_72 (by omega) (by omega) (by omega) ?_
  refine J_l2iN (pc := 73) dX3_gain_73 ?_
  refine J_iret (ty := .int) (pc := 74) dX3_gain_74 rfl rfl ?_
  exact ⟨congrArg (fun z : Int32 => (Sum.inl (some (Value.int z)) : RT)) (by exact congrArg nI (gn_z hzz).symm), FM_tr fm1 (FM_ext (by omega) H_11), ρ, H_13⟩

set_option maxHeartbeats 2000000 in
set_option maxRecDepth 20000 in
theorem m_gain0A {g : GT} {dd : Nat} {h : MH} {σ : ST} {ρ : Nat → Nat} {th : Int32} (hP : MP h σ ρ th) {m x : Nat} (hm : m < 3) (hx : x ≤ 50) (hz1 : gro σ.1 &&& mkL σ.1 m x ≠ 0) (hz2 : sdf (gro σ.1) (gro σ.1 &&& mkL σ.1 m x) ≠ 0) : J g (dd + 42) 1 2 mX3_gain 0 (lv_args 0 [.ref (53), .int (nI (m)), .int (nI (x)), .int (nI (0))]) [] h (RMo (.int (nI (gnS σ.1 m x 0))) h σ (nI 0)) := by
  have a40 := hP.2.2.2.1
  have hz0 := hP.2.2.1
  refine J_aload_n (i := 0) (pc := 0) dX3_gain_0 rfl rfl ?_
  refine J_iconst (v := nI (0)) (pc := 1) dX3_gain_1 rfl ?_
  refine J_putf (k := 0) (pc := 2) dX3_gain_2 fpX3_gain_34 (fun g => ⟨rfl, rfl⟩) a40 (Nat.le_of_ble_eq_true rfl) ?_
  obtain ⟨h_1, eh_1⟩ : ∃ z : MH, z = (h.1, hset h.2 (53) (oB 3 [.int (nI (0)), .int (nI (σ.1.1)), .ref (54), .ref (55), .int (nI (σ.1.2.1)), .int (nI (σ.2.1.2.1)), .int (nI (σ.2.1.2.2)), .int (nI (σ.2.1.1)), .ref (56), .ref (57), .ref (58)])) := ⟨_, rfl⟩
  refine J_heq (h2 := h_1) eh_1 ?_
  have zh_1 : h_1.1 = h.1 := by rw [eh_1]
  have H_2 : h_1.2 (53) = some (oB 3 [.int (nI (0)), .int (nI (σ.1.1)), .ref (54), .ref (55), .int (nI (σ.1.2.1)), .int (nI (σ.2.1.2.1)), .int (nI (σ.2.1.2.2)), .int (nI (σ.2.1.1)), .ref (56), .ref (57), .ref (58)]) := hs_s eh_1
  have hP1 : MP h_1 σ ρ (nI 0) := MP_53 hP eh_1
  have fm1 : FM h h_1 := FM_set eh_1 (by decide) (by decide)
  obtain ⟨a1, a2, a3, a4, ⟨mf, a5, a5b⟩, ⟨sf, a6, a6b⟩, ⟨rf, a7, a7b⟩, ⟨pf, a8, a8b⟩, ⟨lf, a9, a9b⟩, a10, a11⟩ := id hP1
  obtain ⟨o1, o2, o3, o4⟩ := id a2
  have hM := MP_MS hP1
  obtain ⟨hn, hc9, hm5, hs2⟩ := id a1
  have hp9 := pw_le hn
  have hgn := gro_n a1
  have hg20 := gro_lt a1
  have hab := gA_le σ.1 (gro σ.1) (gro σ.1 &&& mkL σ.1 m x)
  have hbb := gB_le (gro σ.1) (gro σ.1 &&& mkL σ.1 m x)
  have hl20 : gro σ.1 &&& mkL σ.1 m x < 2 ^ 20 := Nat.lt_of_le_of_lt Nat.and_le_left hg20
  have hBp : 0 < gB (gro σ.1) (gro σ.1 &&& mkL σ.1 m x) := Nat.mul_pos (Nat.mul_pos (cnt_pos hg20 (fun q => hz1 (by rw [q, Nat.zero_and]))) (cnt_pos hl20 hz1)) (cnt_pos (Nat.lt_of_le_of_lt (sdf_le _ _) hg20) hz2)
  have hgp : 0 < Nat.gcd (gB (gro σ.1) (gro σ.1 &&& mkL σ.1 m x)) (gA σ.1 (gro σ.1) (gro σ.1 &&& mkL σ.1 m x)) := Nat.gcd_pos_of_pos_left _ hBp
  have hgl : Nat.gcd (gB (gro σ.1) (gro σ.1 &&& mkL σ.1 m x)) (gA σ.1 (gro σ.1) (gro σ.1 &&& mkL σ.1 m x)) ≤ gB (gro σ.1) (gro σ.1 &&& mkL σ.1 m x) := Nat.gcd_le_left _ hBp
  refine J_iload_n (i := 1) (pc := 5) dX3_gain_5 rfl rfl ?_
  refine J_iconst (v := nI (0)) (pc := 6) dX3_gain_6 rfl ?_
  refine J_iconst (v := nI (2)) (pc := 7) dX3_gain_7 rfl ?_
  refine J_cSi (st := []) (As := [.int (nI (m)), .int (nI (0)), .int (nI (2))]) (pc := 8) dX3_gain_8 okX3_isIn q3_166 q3_167 rfl (Nat.le_of_ble_eq_true rfl) (Nat.le_of_ble_eq_true rfl) (m_inT (by omega) (by omega) (inZ_nI (by omega) (by omega) (by decide))) ?_
  refine J_if_eqN (tgt := 23) (pc := 11) dX3_gain_11 (by decide) (by omega) (fun c11 => by exfalso; first | omega | simp_all) (fun c11 => ?_)
  refine J_iload_n (i := 3) (pc := 14) dX3_gain_14 rfl rfl ?_
  refine J_iconst (v := nI (0)) (pc := 15) dX3_gain_15 rfl ?_
  refine J_iconst (v := nI (1)) (pc := 16) dX3_gain_16 rfl ?_
  refine J_cSi (st := []) (As := [.int (nI (0)), .int (nI (0)), .int (nI (1))]) (pc := 17) dX3_gain_17 okX3_isIn q3_166 q3_167 rfl (Nat.le_of_ble_eq_true rfl) (Nat.le_of_ble_eq_true rfl) (m_inT (by omega) (by omega) (inZ_nI (by decide) (by decide) (by decide))) ?_
  refine J_if_neN (tgt := 29) (pc := 20) dX3_gain_20 (by decide) (by omega) (fun c20 => ?_) (fun c20 => by exfalso; first | omega | simp_all)
  refine J_iload_n (i := 2) (pc := 29) dX3_gain_29 rfl rfl ?_
  refine J_iconst (v := nI (0)) (pc := 30) dX3_gain_30 rfl ?_
  refine J_bipush (v := nI (50)) (pc := 31) dX3_gain_31 rfl ?_
  refine J_cSi (st := []) (As := [.int (nI (x)), .int (nI (0)), .int (nI (50))]) (pc := 33) dX3_gain_33 okX3_isIn q3_166 q3_167 rfl (Nat.le_of_ble_eq_true rfl) (Nat.le_of_ble_eq_true rfl) (m_inT (by omega) (by omega) (inZ_nI (by omega) (by omega) (by decide))) ?_
  refine J_if_neN (tgt := 45) (pc := 36) dX3_gain_36 (by decide) (by omega) (fun c36 => ?_) (fun c36 => by exfalso; first | omega | simp_all)
  refine J_aload_n (i := 0) (pc := 45) dX3_gain_45 rfl rfl ?_
  refine J_aload_n (i := 0) (pc := 46) dX3_gain_46 rfl rfl ?_
  refine J_cVi (st := [.ref (53)]) (As := []) (pc := 47) dX3_gain_47 okX3_growing q3_199 q3_201 qs1_14 (rfl : vwCl[3]? = some _) a4 rfl (Nat.le_of_ble_eq_true rfl) (Nat.le_of_ble_eq_true rfl) (m_growing hM) ?_
  refine J_iload_n (i := 1) (pc := 50) dX3_gain_50 rfl rfl ?_
  refine J_iload_n (i := 2) (pc := 51) dX3_gain_51 rfl rfl ?_
  refine J_cVB (st := []) (As := [.int (nI (gro σ.1)), .int (nI (m)), .int (nI (x))]) (v := some (.ref (h_1.1))) (ca1 := 1) (sa1 := 2) (ca2 := 0) (sa2 := 0) (pc := 52) dX3_gain_52 okX3_gainOf q3_235 q3_237 qs2_7 (rfl : vwCl[3]? = some _) a4 rfl (Nat.le_of_ble_eq_true rfl) (Nat.le_of_ble_eq_true rfl) (m_gainA (d := dd + 38) hM (by omega) hgn hm (by omega) hz1 hz2) (by omega) (by omega) (fun h_3 q_4 => ?_)
  obtain ⟨B, eB⟩ : ∃ z : Nat, z = h_1.1 := ⟨_, rfl⟩
  rw [← eB]
  obtain ⟨xB, zB, fB, kB, fB0, fB1⟩ := q_4
  rw [← eB] at kB
  have zh_3 := xB.1
  have H_5 : h_3.2 (53) = some (oB 3 [.int (nI (0)), .int (nI (σ.1.1)), .ref (54), .ref (55), .int (nI (σ.1.2.1)), .int (nI (σ.2.1.2.1)), .int (nI (σ.2.1.2.2)), .int (nI (σ.2.1.1)), .ref (56), .ref (57), .ref (58)]) := (xB.2 _ (by omega)).trans a4
  have H_6 : h_3.2 (54) = some (aI (60) (mf)) := (xB.2 _ (by omega)).trans a5
  have H_7 : h_3.2 (55) = some (aI (20) (sf)) := (xB.2 _ (by omega)).trans a6
  have H_8 : h_3.2 (56) = some (aG (5) (rf)) := (xB.2 _ (by omega)).trans a7
  have H_9 : h_3.2 (57) = some (aI (5) (pf)) := (xB.2 _ (by omega)).trans a8
  have H_10 : h_3.2 (58) = some (aI (5) (lf)) := (xB.2 _ (by omega)).trans a9
  have H_11 : Ext h_1 h_3 := Ext_tr Ext_rfl xB
  have H_12 : MS h_3 σ.1 := MS_ext xB (by omega) hM
  have H_13 : MP h_3 σ ρ (nI 0) := MP_ext xB hP1
  refine J_astore (i := 4) (lv' := [(4, .ref (B)), (0, .ref (53)), (1, .int (nI (m))), (2, .int (nI (x))), (3, .int (nI (0)))]) (pc := 55) dX3_gain_55 (by decide) rfl ?_
  refine J_aload (i := 4) (pc := 57) dX3_gain_57 rfl ?_
  refine J_iload_n (i := 3) (pc := 59) dX3_gain_59 rfl rfl ?_
  refine J_lald (j := 0) (pc := 60) dX3_gain_60 kB rfl (by omega) (by omega) ?_
  rw [show fB 0 = lN (gA σ.1 (gro σ.1) (gro σ.1 &&& mkL σ.1 m x)) from fB0]
  refine J_aload (i := 4) (pc := 61) dX3_gain_61 rfl ?_
  refine J_iconst (v := nI (1)) (pc := 63) dX3_gain_63 rfl ?_
  refine J_lald (j := 1) (pc := 64) dX3_gain_64 kB rfl (by omega) (by omega) ?_
  rw [show fB 1 = lN (gB (gro σ.1) (gro σ.1 &&& mkL σ.1 m x)) from fB1]
  refine J_aload (i := 4) (pc := 65) dX3_gain_65 rfl ?_
  refine J_iconst (v := nI (0)) (pc := 67) dX3_gain_67 rfl ?_
  refine J_lald (j := 0) (pc := 68) dX3_gain_68 kB rfl (by omega) (by omega) ?_
  rw [show fB 0 = lN (gA σ.1 (gro σ.1) (gro σ.1 &&& mkL σ.1 m x)) from fB0]
  refine J_cSl (st := [.long (lN (gA σ.1 (gro σ.1) (gro σ.1 &&& mkL σ.1 m x)))]) (As := [.long (lN (gB (gro σ.1) (gro σ.1 &&& mkL σ.1 m x))), .long (lN (gA σ.1 (gro σ.1) (gro σ.1 &&& mkL σ.1 m x)))]) (pc := 69) dX3_gain_69 okX3_divisor q4_101 q4_102 rfl (Nat.le_of_ble_eq_true rfl) (Nat.le_of_ble_eq_true rfl) (m_div (g := g) (d := dd + 1) (x := gB (gro σ.1) (gro σ.1 &&& mkL σ.1 m x)) (y := gA σ.1 (gro σ.1) (gro σ.1 &&& mkL σ.1 m x)) (by omega) (by omega)) ?_
  refine J_ldivN (pc := 72) dX3_gain_72 (by omega) (by omega) (by omega) ?_
  refine J_l2iN (pc := 73) dX3_gain_73 ?_
  refine J_iret (ty := .int) (pc := 74) dX3_gain_74 rfl rfl ?_
  exact ⟨congrArg (fun z : Int32 => (Sum.inl (some (Value.int z)) : RT)) (by exact congrArg nI (gn_n hBp).1.symm), FM_tr fm1 (FM_ext (by omega) H_11), ρ, H_13⟩

theorem m_gain0 {g : GT} {dd : Nat} {h : MH} {σ : ST} {ρ : Nat → Nat} {th : Int32} (hP : MP h σ ρ th) {m x : Nat} (hm : m < 3) (hx : x ≤ 50) : J g (dd + 42) 1 2 mX3_gain 0 (lv_args 0 [.ref 53, .int (nI m), .int (nI x), .int (nI 0)]) [] h (RMo (.int (nI (gnS σ.1 m x 0))) h σ (nI 0)) := by
  by_cases h1 : gro σ.1 &&& mkL σ.1 m x = 0
  · exact m_gain0Z hP hm hx (Or.inl h1)
  · by_cases h2 : sdf (gro σ.1) (gro σ.1 &&& mkL σ.1 m x) = 0
    · exact m_gain0Z hP hm hx (Or.inr h2)
    · exact m_gain0A hP hm hx h1 h2

set_option maxHeartbeats 2000000 in
set_option maxRecDepth 20000 in
theorem m_gain1Z {g : GT} {dd : Nat} {h : MH} {σ : ST} {ρ : Nat → Nat} {th : Int32} (hP : MP h σ ρ th) {m x : Nat} (hm : m < 3) (hx : x ≤ 50) (hzz : gro σ.1 &&& mkL σ.1 m x = 0 ∨ sdf (gro σ.1) (gro σ.1 &&& mkL σ.1 m x) = 0) : J g (dd + 42) 1 2 mX3_gain 0 (lv_args 0 [.ref (53), .int (nI (m)), .int (nI (x)), .int (nI (1))]) [] h (RMo (.int (nI (gnS σ.1 m x 1))) h σ (nI 0)) := by
  have a40 := hP.2.2.2.1
  have hz0 := hP.2.2.1
  refine J_aload_n (i := 0) (pc := 0) dX3_gain_0 rfl rfl ?_
  refine J_iconst (v := nI (0)) (pc := 1) dX3_gain_1 rfl ?_
  refine J_putf (k := 0) (pc := 2) dX3_gain_2 fpX3_gain_34 (fun g => ⟨rfl, rfl⟩) a40 (Nat.le_of_ble_eq_true rfl) ?_
  obtain ⟨h_1, eh_1⟩ : ∃ z : MH, z = (h.1, hset h.2 (53) (oB 3 [.int (nI (0)), .int (nI (σ.1.1)), .ref (54), .ref (55), .int (nI (σ.1.2.1)), .int (nI (σ.2.1.2.1)), .int (nI (σ.2.1.2.2)), .int (nI (σ.2.1.1)), .ref (56), .ref (57), .ref (58)])) := ⟨_, rfl⟩
  refine J_heq (h2 := h_1) eh_1 ?_
  have zh_1 : h_1.1 = h.1 := by rw [eh_1]
  have H_2 : h_1.2 (53) = some (oB 3 [.int (nI (0)), .int (nI (σ.1.1)), .ref (54), .ref (55), .int (nI (σ.1.2.1)), .int (nI (σ.2.1.2.1)), .int (nI (σ.2.1.2.2)), .int (nI (σ.2.1.1)), .ref (56), .ref (57), .ref (58)]) := hs_s eh_1
  have hP1 : MP h_1 σ ρ (nI 0) := MP_53 hP eh_1
  have fm1 : FM h h_1 := FM_set eh_1 (by decide) (by decide)
  obtain ⟨a1, a2, a3, a4, ⟨mf, a5, a5b⟩, ⟨sf, a6, a6b⟩, ⟨rf, a7, a7b⟩, ⟨pf, a8, a8b⟩, ⟨lf, a9, a9b⟩, a10, a11⟩ := id hP1
  obtain ⟨o1, o2, o3, o4⟩ := id a2
  have hM := MP_MS hP1
  obtain ⟨hn, hc9, hm5, hs2⟩ := id a1
  have hp9 := pw_le hn
  have hgn := gro_n a1
  have hg20 := gro_lt a1
  have hgp : 0 < Nat.gcd 1 0 := by decide
  have hgl : Nat.gcd 1 0 ≤ 1 := by decide
  refine J_iload_n (i := 1) (pc := 5) dX3_gain_5 rfl rfl ?_
  refine J_iconst (v := nI (0)) (pc := 6) dX3_gain_6 rfl ?_
  refine J_iconst (v := nI (2)) (pc := 7) dX3_gain_7 rfl ?_
  refine J_cSi (st := []) (As := [.int (nI (m)), .int (nI (0)), .int (nI (2))]) (pc := 8) dX3_gain_8 okX3_isIn q3_166 q3_167 rfl (Nat.le_of_ble_eq_true rfl) (Nat.le_of_ble_eq_true rfl) (m_inT (by omega) (by omega) (inZ_nI (by omega) (by omega) (by decide))) ?_
  refine J_if_eqN (tgt := 23) (pc := 11) dX3_gain_11 (by decide) (by omega) (fun c11 => by exfalso; first | omega | simp_all) (fun c11 => ?_)
  refine J_iload_n (i := 3) (pc := 14) dX3_gain_14 rfl rfl ?_
  refine J_iconst (v := nI (0)) (pc := 15) dX3_gain_15 rfl ?_
  refine J_iconst (v := nI (1)) (pc := 16) dX3_gain_16 rfl ?_
  refine J_cSi (st := []) (As := [.int (nI (1)), .int (nI (0)), .int (nI (1))]) (pc := 17) dX3_gain_17 okX3_isIn q3_166 q3_167 rfl (Nat.le_of_ble_eq_true rfl) (Nat.le_of_ble_eq_true rfl) (m_inT (by omega) (by omega) (inZ_nI (by decide) (by decide) (by decide))) ?_
  refine J_if_neN (tgt := 29) (pc := 20) dX3_gain_20 (by decide) (by omega) (fun c20 => ?_) (fun c20 => by exfalso; first | omega | simp_all)
  refine J_iload_n (i := 2) (pc := 29) dX3_gain_29 rfl rfl ?_
  refine J_iconst (v := nI (0)) (pc := 30) dX3_gain_30 rfl ?_
  refine J_bipush (v := nI (50)) (pc := 31) dX3_gain_31 rfl ?_
  refine J_cSi (st := []) (As := [.int (nI (x)), .int (nI (0)), .int (nI (50))]) (pc := 33) dX3_gain_33 okX3_isIn q3_166 q3_167 rfl (Nat.le_of_ble_eq_true rfl) (Nat.le_of_ble_eq_true rfl) (m_inT (by omega) (by omega) (inZ_nI (by omega) (by omega) (by decide))) ?_
  refine J_if_neN (tgt := 45) (pc := 36) dX3_gain_36 (by decide) (by omega) (fun c36 => ?_) (fun c36 => by exfalso; first | omega | simp_all)
  refine J_aload_n (i := 0) (pc := 45) dX3_gain_45 rfl rfl ?_
  refine J_aload_n (i := 0) (pc := 46) dX3_gain_46 rfl rfl ?_
  refine J_cVi (st := [.ref (53)]) (As := []) (pc := 47) dX3_gain_47 okX3_growing q3_199 q3_201 qs1_14 (rfl : vwCl[3]? = some _) a4 rfl (Nat.le_of_ble_eq_true rfl) (Nat.le_of_ble_eq_true rfl) (m_growing hM) ?_
  refine J_iload_n (i := 1) (pc := 50) dX3_gain_50 rfl rfl ?_
  refine J_iload_n (i := 2) (pc := 51) dX3_gain_51 rfl rfl ?_
  refine J_cVB (st := []) (As := [.int (nI (gro σ.1)), .int (nI (m)), .int (nI (x))]) (v := some (.ref (h_1.1))) (ca1 := 1) (sa1 := 2) (ca2 := 0) (sa2 := 0) (pc := 52) dX3_gain_52 okX3_gainOf q3_235 q3_237 qs2_7 (rfl : vwCl[3]? = some _) a4 rfl (Nat.le_of_ble_eq_true rfl) (Nat.le_of_ble_eq_true rfl) (m_gainZ (d := dd + 38) hM (by omega) hgn hm (by omega) hzz) (by omega) (by omega) (fun h_3 q_4 => ?_)
  obtain ⟨B, eB⟩ : ∃ z : Nat, z = h_1.1 := ⟨_, rfl⟩
  rw [← eB]
  obtain ⟨xB, zB, fB, kB, fB0, fB1⟩ := q_4
  rw [← eB] at kB
  have zh_3 := xB.1
  have H_5 : h_3.2 (53) = some (oB 3 [.int (nI (0)), .int (nI (σ.1.1)), .ref (54), .ref (55), .int (nI (σ.1.2.1)), .int (nI (σ.2.1.2.1)), .int (nI (σ.2.1.2.2)), .int (nI (σ.2.1.1)), .ref (56), .ref (57), .ref (58)]) := (xB.2 _ (by omega)).trans a4
  have H_6 : h_3.2 (54) = some (aI (60) (mf)) := (xB.2 _ (by omega)).trans a5
  have H_7 : h_3.2 (55) = some (aI (20) (sf)) := (xB.2 _ (by omega)).trans a6
  have H_8 : h_3.2 (56) = some (aG (5) (rf)) := (xB.2 _ (by omega)).trans a7
  have H_9 : h_3.2 (57) = some (aI (5) (pf)) := (xB.2 _ (by omega)).trans a8
  have H_10 : h_3.2 (58) = some (aI (5) (lf)) := (xB.2 _ (by omega)).trans a9
  have H_11 : Ext h_1 h_3 := Ext_tr Ext_rfl xB
  have H_12 : MS h_3 σ.1 := MS_ext xB (by omega) hM
  have H_13 : MP h_3 σ ρ (nI 0) := MP_ext xB hP1
  refine J_astore (i := 4) (lv' := [(4, .ref (B)), (0, .ref (53)), (1, .int (nI (m))), (2, .int (nI (x))), (3, .int (nI (1)))]) (pc := 55) dX3_gain_55 (by decide) rfl ?_
  refine J_aload (i := 4) (pc := 57) dX3_gain_57 rfl ?_
  refine J_iload_n (i := 3) (pc := 59) dX3_gain_59 rfl rfl ?_
  refine J_lald (j := 1) (pc := 60) dX3_gain_60 kB rfl (by omega) (by omega) ?_
  rw [show fB 1 = lN (1) from fB1]
  refine J_aload (i := 4) (pc := 61) dX3_gain_61 rfl ?_
  refine J_iconst (v := nI (1)) (pc := 63) dX3_gain_63 rfl ?_
  refine J_lald (j := 1) (pc := 64) dX3_gain_64 kB rfl (by omega) (by omega) ?_
  rw [show fB 1 = lN (1) from fB1]
  refine J_aload (i := 4) (pc := 65) dX3_gain_65 rfl ?_
  refine J_iconst (v := nI (0)) (pc := 67) dX3_gain_67 rfl ?_
  refine J_lald (j := 0) (pc := 68) dX3_gain_68 kB rfl (by omega) (by omega) ?_
  rw [show fB 0 = lN (0) from fB0]
  refine J_cSl (st := [.long (lN (1))]) (As := [.long (lN (1)), .long (lN (0))]) (pc := 69) dX3_gain_69 okX3_divisor q4_101 q4_102 rfl (Nat.le_of_ble_eq_true rfl) (Nat.le_of_ble_eq_true rfl) (m_div (g := g) (d := dd + 1) (x := 1) (y := 0) (by omega) (by omega)) ?_
  refine J_ldivN (pc := 72) dX3_gain_72 (by omega) (by omega) (by omega) ?_
  refine J_l2iN (pc := 73) dX3_gain_73 ?_
  refine J_iret (ty := .int) (pc := 74) dX3_gain_74 rfl rfl ?_
  exact ⟨congrArg (fun z : Int32 => (Sum.inl (some (Value.int z)) : RT)) (by exact congrArg nI (gn_z hzz).symm), FM_tr fm1 (FM_ext (by omega) H_11), ρ, H_13⟩

set_option maxHeartbeats 2000000 in
set_option maxRecDepth 20000 in
theorem m_gain1A {g : GT} {dd : Nat} {h : MH} {σ : ST} {ρ : Nat → Nat} {th : Int32} (hP : MP h σ ρ th) {m x : Nat} (hm : m < 3) (hx : x ≤ 50) (hz1 : gro σ.1 &&& mkL σ.1 m x ≠ 0) (hz2 : sdf (gro σ.1) (gro σ.1 &&& mkL σ.1 m x) ≠ 0) : J g (dd + 42) 1 2 mX3_gain 0 (lv_args 0 [.ref (53), .int (nI (m)), .int (nI (x)), .int (nI (1))]) [] h (RMo (.int (nI (gnS σ.1 m x 1))) h σ (nI 0)) := by
  have a40 := hP.2.2.2.1
  have hz0 := hP.2.2.1
  refine J_aload_n (i := 0) (pc := 0) dX3_gain_0 rfl rfl ?_
  refine J_iconst (v := nI (0)) (pc := 1) dX3_gain_1 rfl ?_
  refine J_putf (k := 0) (pc := 2) dX3_gain_2 fpX3_gain_34 (fun g => ⟨rfl, rfl⟩) a40 (Nat.le_of_ble_eq_true rfl) ?_
  obtain ⟨h_1, eh_1⟩ : ∃ z : MH, z = (h.1, hset h.2 (53) (oB 3 [.int (nI (0)), .int (nI (σ.1.1)), .ref (54), .ref (55), .int (nI (σ.1.2.1)), .int (nI (σ.2.1.2.1)), .int (nI (σ.2.1.2.2)), .int (nI (σ.2.1.1)), .ref (56), .ref (57), .ref (58)])) := ⟨_, rfl⟩
  refine J_heq (h2 := h_1) eh_1 ?_
  have zh_1 : h_1.1 = h.1 := by rw [eh_1]
  have H_2 : h_1.2 (53) = some (oB 3 [.int (nI (0)), .int (nI (σ.1.1)), .ref (54), .ref (55), .int (nI (σ.1.2.1)), .int (nI (σ.2.1.2.1)), .int (nI (σ.2.1.2.2)), .int (nI (σ.2.1.1)), .ref (56), .ref (57), .ref (58)]) := hs_s eh_1
  have hP1 : MP h_1 σ ρ (nI 0) := MP_53 hP eh_1
  have fm1 : FM h h_1 := FM_set eh_1 (by decide) (by decide)
  obtain ⟨a1, a2, a3, a4, ⟨mf, a5, a5b⟩, ⟨sf, a6, a6b⟩, ⟨rf, a7, a7b⟩, ⟨pf, a8, a8b⟩, ⟨lf, a9, a9b⟩, a10, a11⟩ := id hP1
  obtain ⟨o1, o2, o3, o4⟩ := id a2
  have hM := MP_MS hP1
  obtain ⟨hn, hc9, hm5, hs2⟩ := id a1
  have hp9 := pw_le hn
  have hgn := gro_n a1
  have hg20 := gro_lt a1
  have hab := gA_le σ.1 (gro σ.1) (gro σ.1 &&& mkL σ.1 m x)
  have hbb := gB_le (gro σ.1) (gro σ.1 &&& mkL σ.1 m x)
  have hl20 : gro σ.1 &&& mkL σ.1 m x < 2 ^ 20 := Nat.lt_of_le_of_lt Nat.and_le_left hg20
  have hBp : 0 < gB (gro σ.1) (gro σ.1 &&& mkL σ.1 m x) := Nat.mul_pos (Nat.mul_pos (cnt_pos hg20 (fun q => hz1 (by rw [q, Nat.zero_and]))) (cnt_pos hl20 hz1)) (cnt_pos (Nat.lt_of_le_of_lt (sdf_le _ _) hg20) hz2)
  have hgp : 0 < Nat.gcd (gB (gro σ.1) (gro σ.1 &&& mkL σ.1 m x)) (gA σ.1 (gro σ.1) (gro σ.1 &&& mkL σ.1 m x)) := Nat.gcd_pos_of_pos_left _ hBp
  have hgl : Nat.gcd (gB (gro σ.1) (gro σ.1 &&& mkL σ.1 m x)) (gA σ.1 (gro σ.1) (gro σ.1 &&& mkL σ.1 m x)) ≤ gB (gro σ.1) (gro σ.1 &&& mkL σ.1 m x) := Nat.gcd_le_left _ hBp
  refine J_iload_n (i := 1) (pc := 5) dX3_gain_5 rfl rfl ?_
  refine J_iconst (v := nI (0)) (pc := 6) dX3_gain_6 rfl ?_
  refine J_iconst (v := nI (2)) (pc := 7) dX3_gain_7 rfl ?_
  refine J_cSi (st := []) (As := [.int (nI (m)), .int (nI (0)), .int (nI (2))]) (pc := 8) dX3_gain_8 okX3_isIn q3_166 q3_167 rfl (Nat.le_of_ble_eq_true rfl) (Nat.le_of_ble_eq_true rfl) (m_inT (by omega) (by omega) (inZ_nI (by omega) (by omega) (by decide))) ?_
  refine J_if_eqN (tgt := 23) (pc := 11) dX3_gain_11 (by decide) (by omega) (fun c11 => by exfalso; first | omega | simp_all) (fun c11 => ?_)
  refine J_iload_n (i := 3) (pc := 14) dX3_gain_14 rfl rfl ?_
  refine J_iconst (v := nI (0)) (pc := 15) dX3_gain_15 rfl ?_
  refine J_iconst (v := nI (1)) (pc := 16) dX3_gain_16 rfl ?_
  refine J_cSi (st := []) (As := [.int (nI (1)), .int (nI (0)), .int (nI (1))]) (pc := 17) dX3_gain_17 okX3_isIn q3_166 q3_167 rfl (Nat.le_of_ble_eq_true rfl) (Nat.le_of_ble_eq_true rfl) (m_inT (by omega) (by omega) (inZ_nI (by decide) (by decide) (by decide))) ?_
  refine J_if_neN (tgt := 29) (pc := 20) dX3_gain_20 (by decide) (by omega) (fun c20 => ?_) (fun c20 => by exfalso; first | omega | simp_all)
  refine J_iload_n (i := 2) (pc := 29) dX3_gain_29 rfl rfl ?_
  refine J_iconst (v := nI (0)) (pc := 30) dX3_gain_30 rfl ?_
  refine J_bipush (v := nI (50)) (pc := 31) dX3_gain_31 rfl ?_
  refine J_cSi (st := []) (As := [.int (nI (x)), .int (nI (0)), .int (nI (50))]) (pc := 33) dX3_gain_33 okX3_isIn q3_166 q3_167 rfl (Nat.le_of_ble_eq_true rfl) (Nat.le_of_ble_eq_true rfl) (m_inT (by omega) (by omega) (inZ_nI (by omega) (by omega) (by decide))) ?_
  refine J_if_neN (tgt := 45) (pc := 36) dX3_gain_36 (by decide) (by omega) (fun c36 => ?_) (fun c36 => by exfalso; first | omega | simp_all)
  refine J_aload_n (i := 0) (pc := 45) dX3_gain_45 rfl rfl ?_
  refine J_aload_n (i := 0) (pc := 46) dX3_gain_46 rfl rfl ?_
  refine J_cVi (st := [.ref (53)]) (As := []) (pc := 47) dX3_gain_47 okX3_growing q3_199 q3_201 qs1_14 (rfl : vwCl[3]? = some _) a4 rfl (Nat.le_of_ble_eq_true rfl) (Nat.le_of_ble_eq_true rfl) (m_growing hM) ?_
  refine J_iload_n (i := 1) (pc := 50) dX3_gain_50 rfl rfl ?_
  refine J_iload_n (i := 2) (pc := 51) dX3_gain_51 rfl rfl ?_
  refine J_cVB (st := []) (As := [.int (nI (gro σ.1)), .int (nI (m)), .int (nI (x))]) (v := some (.ref (h_1.1))) (ca1 := 1) (sa1 := 2) (ca2 := 0) (sa2 := 0) (pc := 52) dX3_gain_52 okX3_gainOf q3_235 q3_237 qs2_7 (rfl : vwCl[3]? = some _) a4 rfl (Nat.le_of_ble_eq_true rfl) (Nat.le_of_ble_eq_true rfl) (m_gainA (d := dd + 38) hM (by omega) hgn hm (by omega) hz1 hz2) (by omega) (by omega) (fun h_3 q_4 => ?_)
  obtain ⟨B, eB⟩ : ∃ z : Nat, z = h_1.1 := ⟨_, rfl⟩
  rw [← eB]
  obtain ⟨xB, zB, fB, kB, fB0, fB1⟩ := q_4
  rw [← eB] at kB
  have zh_3 := xB.1
  have H_5 : h_3.2 (53) = some (oB 3 [.int (nI (0)), .int (nI (σ.1.1)), .ref (54), .ref (55), .int (nI (σ.1.2.1)), .int (nI (σ.2.1.2.1)), .int (nI (σ.2.1.2.2)), .int (nI (σ.2.1.1)), .ref (56), .ref (57), .ref (58)]) := (xB.2 _ (by omega)).trans a4
  have H_6 : h_3.2 (54) = some (aI (60) (mf)) := (xB.2 _ (by omega)).trans a5
  have H_7 : h_3.2 (55) = some (aI (20) (sf)) := (xB.2 _ (by omega)).trans a6
  have H_8 : h_3.2 (56) = some (aG (5) (rf)) := (xB.2 _ (by omega)).trans a7
  have H_9 : h_3.2 (57) = some (aI (5) (pf)) := (xB.2 _ (by omega)).trans a8
  have H_10 : h_3.2 (58) = some (aI (5) (lf)) := (xB.2 _ (by omega)).trans a9
  have H_11 : Ext h_1 h_3 := Ext_tr Ext_rfl xB
  have H_12 : MS h_3 σ.1 := MS_ext xB (by omega) hM
  have H_13 : MP h_3 σ ρ (nI 0) := MP_ext xB hP1
  refine J_astore (i := 4) (lv' := [(4, .ref (B)), (0, .ref (53)), (1, .int (nI (m))), (2, .int (nI (x))), (3, .int (nI (1)))]) (pc := 55) dX3_gain_55 (by decide) rfl ?_
  refine J_aload (i := 4) (pc := 57) dX3_gain_57 rfl ?_
  refine J_iload_n (i := 3) (pc := 59) dX3_gain_59 rfl rfl ?_
  refine J_lald (j := 1) (pc := 60) dX3_gain_60 kB rfl (by omega) (by omega) ?_
  rw [show fB 1 = lN (gB (gro σ.1) (gro σ.1 &&& mkL σ.1 m x)) from fB1]
  refine J_aload (i := 4) (pc := 61) dX3_gain_61 rfl ?_
  refine J_iconst (v := nI (1)) (pc := 63) dX3_gain_63 rfl ?_
  refine J_lald (j := 1) (pc := 64) dX3_gain_64 kB rfl (by omega) (by omega) ?_
  rw [show fB 1 = lN (gB (gro σ.1) (gro σ.1 &&& mkL σ.1 m x)) from fB1]
  refine J_aload (i := 4) (pc := 65) dX3_gain_65 rfl ?_
  refine J_iconst (v := nI (0)) (pc := 67) dX3_gain_67 rfl ?_
  refine J_lald (j := 0) (pc := 68) dX3_gain_68 kB rfl (by omega) (by omega) ?_
  rw [show fB 0 = lN (gA σ.1 (gro σ.1) (gro σ.1 &&& mkL σ.1 m x)) from fB0]
  refine J_cSl (st := [.long (lN (gB (gro σ.1) (gro σ.1 &&& mkL σ.1 m x)))]) (As := [.long (lN (gB (gro σ.1) (gro σ.1 &&& mkL σ.1 m x))), .long (lN (gA σ.1 (gro σ.1) (gro σ.1 &&& mkL σ.1 m x)))]) (pc := 69) dX3_gain_69 okX3_divisor q4_101 q4_102 rfl (Nat.le_of_ble_eq_true rfl) (Nat.le_of_ble_eq_true rfl) (m_div (g := g) (d := dd + 1) (x := gB (gro σ.1) (gro σ.1 &&& mkL σ.1 m x)) (y := gA σ.1 (gro σ.1) (gro σ.1 &&& mkL σ.1 m x)) (by omega) (by omega)) ?_
  refine J_ldivN (pc := 72) dX3_gain_72 (by omega) (by omega) (by omega) ?_
  refine J_l2iN (pc := 73) dX3_gain_73 ?_
  refine J_iret (ty := .int) (pc := 74) dX3_gain_74 rfl rfl ?_
  exact ⟨congrArg (fun z : Int32 => (Sum.inl (some (Value.int z)) : RT)) (by exact congrArg nI (gn_n hBp).2.symm), FM_tr fm1 (FM_ext (by omega) H_11), ρ, H_13⟩

theorem m_gain1 {g : GT} {dd : Nat} {h : MH} {σ : ST} {ρ : Nat → Nat} {th : Int32} (hP : MP h σ ρ th) {m x : Nat} (hm : m < 3) (hx : x ≤ 50) : J g (dd + 42) 1 2 mX3_gain 0 (lv_args 0 [.ref 53, .int (nI m), .int (nI x), .int (nI 1)]) [] h (RMo (.int (nI (gnS σ.1 m x 1))) h σ (nI 0)) := by
  by_cases h1 : gro σ.1 &&& mkL σ.1 m x = 0
  · exact m_gain1Z hP hm hx (Or.inl h1)
  · by_cases h2 : sdf (gro σ.1) (gro σ.1 &&& mkL σ.1 m x) = 0
    · exact m_gain1Z hP hm hx (Or.inr h2)
    · exact m_gain1A hP hm hx h1 h2

set_option maxHeartbeats 2000000 in
set_option maxRecDepth 20000 in
theorem m_gainX1 {g : GT} {dd : Nat} {h : MH} {σ : ST} {ρ : Nat → Nat} {th : Int32} (hP : MP h σ ρ th) {m x what : Int32} (hm : ¬ inZ 0 2 m) : J g (dd + 42) 0 0 mX3_gain 0 (lv_args 0 [.ref (53), .int (m), .int (x), .int (what)]) [] h (RMo (.int (nI 0)) h σ (nI 1)) := by
  have a40 := hP.2.2.2.1
  have hz0 := hP.2.2.1
  refine J_aload_n (i := 0) (pc := 0) dX3_gain_0 rfl rfl ?_
  refine J_iconst (v := nI (0)) (pc := 1) dX3_gain_1 rfl ?_
  refine J_putf (k := 0) (pc := 2) dX3_gain_2 fpX3_gain_34 (fun g => ⟨rfl, rfl⟩) a40 (Nat.le_of_ble_eq_true rfl) ?_
  obtain ⟨h_1, eh_1⟩ : ∃ z : MH, z = (h.1, hset h.2 (53) (oB 3 [.int (nI (0)), .int (nI (σ.1.1)), .ref (54), .ref (55), .int (nI (σ.1.2.1)), .int (nI (σ.2.1.2.1)), .int (nI (σ.2.1.2.2)), .int (nI (σ.2.1.1)), .ref (56), .ref (57), .ref (58)])) := ⟨_, rfl⟩
  refine J_heq (h2 := h_1) eh_1 ?_
  have zh_1 : h_1.1 = h.1 := by rw [eh_1]
  have H_2 : h_1.2 (53) = some (oB 3 [.int (nI (0)), .int (nI (σ.1.1)), .ref (54), .ref (55), .int (nI (σ.1.2.1)), .int (nI (σ.2.1.2.1)), .int (nI (σ.2.1.2.2)), .int (nI (σ.2.1.1)), .ref (56), .ref (57), .ref (58)]) := hs_s eh_1
  have hP1 : MP h_1 σ ρ (nI 0) := MP_53 hP eh_1
  have fm1 : FM h h_1 := FM_set eh_1 (by decide) (by decide)
  obtain ⟨a1, a2, a3, a4, ⟨mf, a5, a5b⟩, ⟨sf, a6, a6b⟩, ⟨rf, a7, a7b⟩, ⟨pf, a8, a8b⟩, ⟨lf, a9, a9b⟩, a10, a11⟩ := id hP1
  obtain ⟨o1, o2, o3, o4⟩ := id a2
  have hM := MP_MS hP1
  obtain ⟨hn, hc9, hm5, hs2⟩ := id a1
  have hp9 := pw_le hn
  refine J_iload_n (i := 1) (pc := 5) dX3_gain_5 rfl rfl ?_
  refine J_iconst (v := nI (0)) (pc := 6) dX3_gain_6 rfl ?_
  refine J_iconst (v := nI (2)) (pc := 7) dX3_gain_7 rfl ?_
  refine J_cSi (st := []) (As := [.int (m), .int (nI (0)), .int (nI (2))]) (pc := 8) dX3_gain_8 okX3_isIn q3_166 q3_167 rfl (Nat.le_of_ble_eq_true rfl) (Nat.le_of_ble_eq_true rfl) (m_inF (by omega) (by omega) (hm)) ?_
  refine J_if_eqN (tgt := 23) (pc := 11) dX3_gain_11 (by decide) (by omega) (fun c11 => ?_) (fun c11 => by exfalso; first | omega | simp_all)
  refine J_aload_n (i := 0) (pc := 23) dX3_gain_23 rfl rfl ?_
  refine J_iconst (v := nI (1)) (pc := 24) dX3_gain_24 rfl ?_
  refine J_cVh (st := []) (As := [.int (nI (1))]) (pc := 25) dX3_gain_25 okX3_no q3_169 q3_171 qs1_13 (rfl : vwCl[3]? = some _) a4 rfl (Nat.le_of_ble_eq_true rfl) (Nat.le_of_ble_eq_true rfl) (m_no hP1) (fun h_3 q_4 => ?_)
  refine J_iret (ty := .int) (pc := 28) dX3_gain_28 rfl rfl ?_
  exact ⟨rfl, FM_tr fm1 (FM_tr (FM_ext (by omega) Ext_rfl) q_4.1), ρ, q_4.2⟩

set_option maxHeartbeats 2000000 in
set_option maxRecDepth 20000 in
theorem m_gainX2 {g : GT} {dd : Nat} {h : MH} {σ : ST} {ρ : Nat → Nat} {th : Int32} (hP : MP h σ ρ th) {m : Nat} {x what : Int32} (hm : m < 3) (hw : ¬ inZ 0 1 what) : J g (dd + 42) 0 0 mX3_gain 0 (lv_args 0 [.ref (53), .int (nI (m)), .int (x), .int (what)]) [] h (RMo (.int (nI 0)) h σ (nI 1)) := by
  have a40 := hP.2.2.2.1
  have hz0 := hP.2.2.1
  refine J_aload_n (i := 0) (pc := 0) dX3_gain_0 rfl rfl ?_
  refine J_iconst (v := nI (0)) (pc := 1) dX3_gain_1 rfl ?_
  refine J_putf (k := 0) (pc := 2) dX3_gain_2 fpX3_gain_34 (fun g => ⟨rfl, rfl⟩) a40 (Nat.le_of_ble_eq_true rfl) ?_
  obtain ⟨h_1, eh_1⟩ : ∃ z : MH, z = (h.1, hset h.2 (53) (oB 3 [.int (nI (0)), .int (nI (σ.1.1)), .ref (54), .ref (55), .int (nI (σ.1.2.1)), .int (nI (σ.2.1.2.1)), .int (nI (σ.2.1.2.2)), .int (nI (σ.2.1.1)), .ref (56), .ref (57), .ref (58)])) := ⟨_, rfl⟩
  refine J_heq (h2 := h_1) eh_1 ?_
  have zh_1 : h_1.1 = h.1 := by rw [eh_1]
  have H_2 : h_1.2 (53) = some (oB 3 [.int (nI (0)), .int (nI (σ.1.1)), .ref (54), .ref (55), .int (nI (σ.1.2.1)), .int (nI (σ.2.1.2.1)), .int (nI (σ.2.1.2.2)), .int (nI (σ.2.1.1)), .ref (56), .ref (57), .ref (58)]) := hs_s eh_1
  have hP1 : MP h_1 σ ρ (nI 0) := MP_53 hP eh_1
  have fm1 : FM h h_1 := FM_set eh_1 (by decide) (by decide)
  obtain ⟨a1, a2, a3, a4, ⟨mf, a5, a5b⟩, ⟨sf, a6, a6b⟩, ⟨rf, a7, a7b⟩, ⟨pf, a8, a8b⟩, ⟨lf, a9, a9b⟩, a10, a11⟩ := id hP1
  obtain ⟨o1, o2, o3, o4⟩ := id a2
  have hM := MP_MS hP1
  obtain ⟨hn, hc9, hm5, hs2⟩ := id a1
  have hp9 := pw_le hn
  refine J_iload_n (i := 1) (pc := 5) dX3_gain_5 rfl rfl ?_
  refine J_iconst (v := nI (0)) (pc := 6) dX3_gain_6 rfl ?_
  refine J_iconst (v := nI (2)) (pc := 7) dX3_gain_7 rfl ?_
  refine J_cSi (st := []) (As := [.int (nI (m)), .int (nI (0)), .int (nI (2))]) (pc := 8) dX3_gain_8 okX3_isIn q3_166 q3_167 rfl (Nat.le_of_ble_eq_true rfl) (Nat.le_of_ble_eq_true rfl) (m_inT (by omega) (by omega) (inZ_nI (by omega) (by omega) (by decide))) ?_
  refine J_if_eqN (tgt := 23) (pc := 11) dX3_gain_11 (by decide) (by omega) (fun c11 => by exfalso; first | omega | simp_all) (fun c11 => ?_)
  refine J_iload_n (i := 3) (pc := 14) dX3_gain_14 rfl rfl ?_
  refine J_iconst (v := nI (0)) (pc := 15) dX3_gain_15 rfl ?_
  refine J_iconst (v := nI (1)) (pc := 16) dX3_gain_16 rfl ?_
  refine J_cSi (st := []) (As := [.int (what), .int (nI (0)), .int (nI (1))]) (pc := 17) dX3_gain_17 okX3_isIn q3_166 q3_167 rfl (Nat.le_of_ble_eq_true rfl) (Nat.le_of_ble_eq_true rfl) (m_inF (by omega) (by omega) (hw)) ?_
  refine J_if_neN (tgt := 29) (pc := 20) dX3_gain_20 (by decide) (by omega) (fun c20 => by exfalso; first | omega | simp_all) (fun c20 => ?_)
  refine J_aload_n (i := 0) (pc := 23) dX3_gain_23 rfl rfl ?_
  refine J_iconst (v := nI (1)) (pc := 24) dX3_gain_24 rfl ?_
  refine J_cVh (st := []) (As := [.int (nI (1))]) (pc := 25) dX3_gain_25 okX3_no q3_169 q3_171 qs1_13 (rfl : vwCl[3]? = some _) a4 rfl (Nat.le_of_ble_eq_true rfl) (Nat.le_of_ble_eq_true rfl) (m_no hP1) (fun h_3 q_4 => ?_)
  refine J_iret (ty := .int) (pc := 28) dX3_gain_28 rfl rfl ?_
  exact ⟨rfl, FM_tr fm1 (FM_tr (FM_ext (by omega) Ext_rfl) q_4.1), ρ, q_4.2⟩

set_option maxHeartbeats 2000000 in
set_option maxRecDepth 20000 in
theorem m_gainX3 {g : GT} {dd : Nat} {h : MH} {σ : ST} {ρ : Nat → Nat} {th : Int32} (hP : MP h σ ρ th) {m ww : Nat} {x : Int32} (hm : m < 3) (hw : ww ≤ 1) (hx : ¬ inZ 0 50 x) : J g (dd + 42) 0 0 mX3_gain 0 (lv_args 0 [.ref (53), .int (nI (m)), .int (x), .int (nI (ww))]) [] h (RMo (.int (nI 0)) h σ (nI 2)) := by
  have a40 := hP.2.2.2.1
  have hz0 := hP.2.2.1
  refine J_aload_n (i := 0) (pc := 0) dX3_gain_0 rfl rfl ?_
  refine J_iconst (v := nI (0)) (pc := 1) dX3_gain_1 rfl ?_
  refine J_putf (k := 0) (pc := 2) dX3_gain_2 fpX3_gain_34 (fun g => ⟨rfl, rfl⟩) a40 (Nat.le_of_ble_eq_true rfl) ?_
  obtain ⟨h_1, eh_1⟩ : ∃ z : MH, z = (h.1, hset h.2 (53) (oB 3 [.int (nI (0)), .int (nI (σ.1.1)), .ref (54), .ref (55), .int (nI (σ.1.2.1)), .int (nI (σ.2.1.2.1)), .int (nI (σ.2.1.2.2)), .int (nI (σ.2.1.1)), .ref (56), .ref (57), .ref (58)])) := ⟨_, rfl⟩
  refine J_heq (h2 := h_1) eh_1 ?_
  have zh_1 : h_1.1 = h.1 := by rw [eh_1]
  have H_2 : h_1.2 (53) = some (oB 3 [.int (nI (0)), .int (nI (σ.1.1)), .ref (54), .ref (55), .int (nI (σ.1.2.1)), .int (nI (σ.2.1.2.1)), .int (nI (σ.2.1.2.2)), .int (nI (σ.2.1.1)), .ref (56), .ref (57), .ref (58)]) := hs_s eh_1
  have hP1 : MP h_1 σ ρ (nI 0) := MP_53 hP eh_1
  have fm1 : FM h h_1 := FM_set eh_1 (by decide) (by decide)
  obtain ⟨a1, a2, a3, a4, ⟨mf, a5, a5b⟩, ⟨sf, a6, a6b⟩, ⟨rf, a7, a7b⟩, ⟨pf, a8, a8b⟩, ⟨lf, a9, a9b⟩, a10, a11⟩ := id hP1
  obtain ⟨o1, o2, o3, o4⟩ := id a2
  have hM := MP_MS hP1
  obtain ⟨hn, hc9, hm5, hs2⟩ := id a1
  have hp9 := pw_le hn
  refine J_iload_n (i := 1) (pc := 5) dX3_gain_5 rfl rfl ?_
  refine J_iconst (v := nI (0)) (pc := 6) dX3_gain_6 rfl ?_
  refine J_iconst (v := nI (2)) (pc := 7) dX3_gain_7 rfl ?_
  refine J_cSi (st := []) (As := [.int (nI (m)), .int (nI (0)), .int (nI (2))]) (pc := 8) dX3_gain_8 okX3_isIn q3_166 q3_167 rfl (Nat.le_of_ble_eq_true rfl) (Nat.le_of_ble_eq_true rfl) (m_inT (by omega) (by omega) (inZ_nI (by omega) (by omega) (by decide))) ?_
  refine J_if_eqN (tgt := 23) (pc := 11) dX3_gain_11 (by decide) (by omega) (fun c11 => by exfalso; first | omega | simp_all) (fun c11 => ?_)
  refine J_iload_n (i := 3) (pc := 14) dX3_gain_14 rfl rfl ?_
  refine J_iconst (v := nI (0)) (pc := 15) dX3_gain_15 rfl ?_
  refine J_iconst (v := nI (1)) (pc := 16) dX3_gain_16 rfl ?_
  refine J_cSi (st := []) (As := [.int (nI (ww)), .int (nI (0)), .int (nI (1))]) (pc := 17) dX3_gain_17 okX3_isIn q3_166 q3_167 rfl (Nat.le_of_ble_eq_true rfl) (Nat.le_of_ble_eq_true rfl) (m_inT (by omega) (by omega) (inZ_nI (by omega) (by omega) (by decide))) ?_
  refine J_if_neN (tgt := 29) (pc := 20) dX3_gain_20 (by decide) (by omega) (fun c20 => ?_) (fun c20 => by exfalso; first | omega | simp_all)
  refine J_iload_n (i := 2) (pc := 29) dX3_gain_29 rfl rfl ?_
  refine J_iconst (v := nI (0)) (pc := 30) dX3_gain_30 rfl ?_
  refine J_bipush (v := nI (50)) (pc := 31) dX3_gain_31 rfl ?_
  refine J_cSi (st := []) (As := [.int (x), .int (nI (0)), .int (nI (50))]) (pc := 33) dX3_gain_33 okX3_isIn q3_166 q3_167 rfl (Nat.le_of_ble_eq_true rfl) (Nat.le_of_ble_eq_true rfl) (m_inF (by omega) (by omega) (hx)) ?_
  refine J_if_neN (tgt := 45) (pc := 36) dX3_gain_36 (by decide) (by omega) (fun c36 => by exfalso; first | omega | simp_all) (fun c36 => ?_)
  refine J_aload_n (i := 0) (pc := 39) dX3_gain_39 rfl rfl ?_
  refine J_iconst (v := nI (2)) (pc := 40) dX3_gain_40 rfl ?_
  refine J_cVh (st := []) (As := [.int (nI (2))]) (pc := 41) dX3_gain_41 okX3_no q3_169 q3_171 qs1_13 (rfl : vwCl[3]? = some _) a4 rfl (Nat.le_of_ble_eq_true rfl) (Nat.le_of_ble_eq_true rfl) (m_no hP1) (fun h_3 q_4 => ?_)
  refine J_iret (ty := .int) (pc := 44) dX3_gain_44 rfl rfl ?_
  exact ⟨rfl, FM_tr fm1 (FM_tr (FM_ext (by omega) Ext_rfl) q_4.1), ρ, q_4.2⟩

set_option maxHeartbeats 2000000 in
set_option maxRecDepth 20000 in
theorem m_best0N {g : GT} {dd : Nat} {h : MH} {σ : ST} {ρ : Nat → Nat} {th : Int32} (hP : MP h σ ρ th) (ce : bestS σ.1 (gro σ.1) σ.2.1.2.2 = none) : J g (dd + 5) (1 + 3 * (cnt (gro σ.1) - 1)) (2 + 2 * (3 * (cnt (gro σ.1) - 1))) mX3_best 0 (lv_args 0 [.ref (53), .int (nI (0))]) [] h (RMo (.int (enc (bsS σ.1 σ.2.1.2.2 0))) h σ (nI 0)) := by
  have a40 := hP.2.2.2.1
  have hz0 := hP.2.2.1
  refine J_aload_n (i := 0) (pc := 0) dX3_best_0 rfl rfl ?_
  refine J_iconst (v := nI (0)) (pc := 1) dX3_best_1 rfl ?_
  refine J_putf (k := 0) (pc := 2) dX3_best_2 fpX3_best_34 (fun g => ⟨rfl, rfl⟩) a40 (Nat.le_of_ble_eq_true rfl) ?_
  obtain ⟨h_1, eh_1⟩ : ∃ z : MH, z = (h.1, hset h.2 (53) (oB 3 [.int (nI (0)), .int (nI (σ.1.1)), .ref (54), .ref (55), .int (nI (σ.1.2.1)), .int (nI (σ.2.1.2.1)), .int (nI (σ.2.1.2.2)), .int (nI (σ.2.1.1)), .ref (56), .ref (57), .ref (58)])) := ⟨_, rfl⟩
  refine J_heq (h2 := h_1) eh_1 ?_
  have zh_1 : h_1.1 = h.1 := by rw [eh_1]
  have H_2 : h_1.2 (53) = some (oB 3 [.int (nI (0)), .int (nI (σ.1.1)), .ref (54), .ref (55), .int (nI (σ.1.2.1)), .int (nI (σ.2.1.2.1)), .int (nI (σ.2.1.2.2)), .int (nI (σ.2.1.1)), .ref (56), .ref (57), .ref (58)]) := hs_s eh_1
  have hP1 : MP h_1 σ ρ (nI 0) := MP_53 hP eh_1
  have fm1 : FM h h_1 := FM_set eh_1 (by decide) (by decide)
  obtain ⟨a1, a2, a3, a4, ⟨mf, a5, a5b⟩, ⟨sf, a6, a6b⟩, ⟨rf, a7, a7b⟩, ⟨pf, a8, a8b⟩, ⟨lf, a9, a9b⟩, a10, a11⟩ := id hP1
  obtain ⟨o1, o2, o3, o4⟩ := id a2
  have hM := MP_MS hP1
  obtain ⟨hn, hc9, hm5, hs2⟩ := id a1
  have hp9 := pw_le hn
  refine J_iload_n (i := 1) (pc := 5) dX3_best_5 rfl rfl ?_
  refine J_iconst (v := nI (0)) (pc := 6) dX3_best_6 rfl ?_
  refine J_iconst (v := nI (1)) (pc := 7) dX3_best_7 rfl ?_
  refine J_cSi (st := []) (As := [.int (nI (0)), .int (nI (0)), .int (nI (1))]) (pc := 8) dX3_best_8 okX3_isIn q3_166 q3_167 rfl (Nat.le_of_ble_eq_true rfl) (Nat.le_of_ble_eq_true rfl) (m_inT (by omega) (by omega) (inZ_nI (by decide) (by decide) (by decide))) ?_
  refine J_if_neN (tgt := 20) (pc := 11) dX3_best_11 (by decide) (by omega) (fun c11 => ?_) (fun c11 => by exfalso; first | omega | simp_all)
  refine J_aload_n (i := 0) (pc := 20) dX3_best_20 rfl rfl ?_
  refine J_aload_n (i := 0) (pc := 21) dX3_best_21 rfl rfl ?_
  refine J_cVi (st := [.ref (53)]) (As := []) (pc := 22) dX3_best_22 okX3_growing q3_199 q3_201 qs1_14 (rfl : vwCl[3]? = some _) a4 rfl (Nat.le_of_ble_eq_true rfl) (Nat.le_of_ble_eq_true rfl) (m_growing hM) ?_
  refine J_aload_n (i := 0) (pc := 25) dX3_best_25 rfl rfl ?_
  refine J_getf (k := 6) (pc := 26) dX3_best_26 flX3_20 a4 rfl ?_
  refine J_cVB (st := []) (As := [.int (nI (gro σ.1)), .int (nI (σ.2.1.2.2))]) (v := some (.int (-1))) (ca1 := 1 + 3 * (cnt (gro σ.1) - 1)) (sa1 := 2 + 2 * (3 * (cnt (gro σ.1) - 1))) (ca2 := 0) (sa2 := 0) (pc := 29) dX3_best_29 okX3_bestOf q3_223 q3_225 qs2_4 (rfl : vwCl[3]? = some _) a4 rfl (Nat.le_of_ble_eq_true rfl) (Nat.le_of_ble_eq_true rfl) ((by have r9 := m_bestOf (g := g) (d := dd) hM (by omega) (gro_n a1) (by omega) (by omega) (le := σ.2.1.2.2); rw [ce] at r9; exact r9)) (by omega) (by omega) (fun h_3 q_4 => ?_)
  have zh_3 := q_4.1
  have H_5 : h_3.2 (53) = some (oB 3 [.int (nI (0)), .int (nI (σ.1.1)), .ref (54), .ref (55), .int (nI (σ.1.2.1)), .int (nI (σ.2.1.2.1)), .int (nI (σ.2.1.2.2)), .int (nI (σ.2.1.1)), .ref (56), .ref (57), .ref (58)]) := (q_4.2 _ (by omega)).trans a4
  have H_6 : h_3.2 (54) = some (aI (60) (mf)) := (q_4.2 _ (by omega)).trans a5
  have H_7 : h_3.2 (55) = some (aI (20) (sf)) := (q_4.2 _ (by omega)).trans a6
  have H_8 : h_3.2 (56) = some (aG (5) (rf)) := (q_4.2 _ (by omega)).trans a7
  have H_9 : h_3.2 (57) = some (aI (5) (pf)) := (q_4.2 _ (by omega)).trans a8
  have H_10 : h_3.2 (58) = some (aI (5) (lf)) := (q_4.2 _ (by omega)).trans a9
  have H_11 : Ext h_1 h_3 := Ext_tr Ext_rfl q_4
  have H_12 : MS h_3 σ.1 := MS_ext q_4 (by omega) hM
  have H_13 : MP h_3 σ ρ (nI 0) := MP_ext q_4 hP1
  refine J_istore_n (i := 2) (lv' := [(2, .int (-1)), (0, .ref (53)), (1, .int (nI (0)))]) (pc := 32) dX3_best_32 rfl (by decide) rfl ?_
  refine J_iload_n (i := 2) (pc := 33) dX3_best_33 rfl rfl ?_
  refine J_iconst (v := (-1)) (pc := 34) dX3_best_34 rfl ?_
  refine J_icmp_ne (tgt := 42) (pc := 35) dX3_best_35 (by decide) (fun c35 => absurd c35 (fun q => q rfl)) (fun c35 => ?_)
  refine J_iconst (v := (-1)) (pc := 38) dX3_best_38 rfl ?_
  refine J_goto (tgt := 57) (pc := 39) dX3_best_39 (by decide) ?_
  refine J_iret (ty := .int) (pc := 57) dX3_best_57 rfl rfl ?_
  exact ⟨congrArg (fun z : Int32 => (Sum.inl (some (Value.int z)) : RT)) (by unfold bsS; rw [ce]; rfl), FM_tr fm1 (FM_ext (by omega) H_11), ρ, H_13⟩

set_option maxHeartbeats 2000000 in
set_option maxRecDepth 20000 in
theorem m_best0S {g : GT} {dd : Nat} {h : MH} {σ : ST} {ρ : Nat → Nat} {th : Int32} (hP : MP h σ ρ th) {c : Nat} (ce : bestS σ.1 (gro σ.1) σ.2.1.2.2 = some c) : J g (dd + 5) (1 + 3 * (cnt (gro σ.1) - 1)) (2 + 2 * (3 * (cnt (gro σ.1) - 1))) mX3_best 0 (lv_args 0 [.ref (53), .int (nI (0))]) [] h (RMo (.int (enc (bsS σ.1 σ.2.1.2.2 0))) h σ (nI 0)) := by
  have a40 := hP.2.2.2.1
  have hz0 := hP.2.2.1
  refine J_aload_n (i := 0) (pc := 0) dX3_best_0 rfl rfl ?_
  refine J_iconst (v := nI (0)) (pc := 1) dX3_best_1 rfl ?_
  refine J_putf (k := 0) (pc := 2) dX3_best_2 fpX3_best_34 (fun g => ⟨rfl, rfl⟩) a40 (Nat.le_of_ble_eq_true rfl) ?_
  obtain ⟨h_1, eh_1⟩ : ∃ z : MH, z = (h.1, hset h.2 (53) (oB 3 [.int (nI (0)), .int (nI (σ.1.1)), .ref (54), .ref (55), .int (nI (σ.1.2.1)), .int (nI (σ.2.1.2.1)), .int (nI (σ.2.1.2.2)), .int (nI (σ.2.1.1)), .ref (56), .ref (57), .ref (58)])) := ⟨_, rfl⟩
  refine J_heq (h2 := h_1) eh_1 ?_
  have zh_1 : h_1.1 = h.1 := by rw [eh_1]
  have H_2 : h_1.2 (53) = some (oB 3 [.int (nI (0)), .int (nI (σ.1.1)), .ref (54), .ref (55), .int (nI (σ.1.2.1)), .int (nI (σ.2.1.2.1)), .int (nI (σ.2.1.2.2)), .int (nI (σ.2.1.1)), .ref (56), .ref (57), .ref (58)]) := hs_s eh_1
  have hP1 : MP h_1 σ ρ (nI 0) := MP_53 hP eh_1
  have fm1 : FM h h_1 := FM_set eh_1 (by decide) (by decide)
  obtain ⟨a1, a2, a3, a4, ⟨mf, a5, a5b⟩, ⟨sf, a6, a6b⟩, ⟨rf, a7, a7b⟩, ⟨pf, a8, a8b⟩, ⟨lf, a9, a9b⟩, a10, a11⟩ := id hP1
  obtain ⟨o1, o2, o3, o4⟩ := id a2
  have hM := MP_MS hP1
  obtain ⟨hn, hc9, hm5, hs2⟩ := id a1
  have hp9 := pw_le hn
  have hc := (best_P ce).1
  refine J_iload_n (i := 1) (pc := 5) dX3_best_5 rfl rfl ?_
  refine J_iconst (v := nI (0)) (pc := 6) dX3_best_6 rfl ?_
  refine J_iconst (v := nI (1)) (pc := 7) dX3_best_7 rfl ?_
  refine J_cSi (st := []) (As := [.int (nI (0)), .int (nI (0)), .int (nI (1))]) (pc := 8) dX3_best_8 okX3_isIn q3_166 q3_167 rfl (Nat.le_of_ble_eq_true rfl) (Nat.le_of_ble_eq_true rfl) (m_inT (by omega) (by omega) (inZ_nI (by decide) (by decide) (by decide))) ?_
  refine J_if_neN (tgt := 20) (pc := 11) dX3_best_11 (by decide) (by omega) (fun c11 => ?_) (fun c11 => by exfalso; first | omega | simp_all)
  refine J_aload_n (i := 0) (pc := 20) dX3_best_20 rfl rfl ?_
  refine J_aload_n (i := 0) (pc := 21) dX3_best_21 rfl rfl ?_
  refine J_cVi (st := [.ref (53)]) (As := []) (pc := 22) dX3_best_22 okX3_growing q3_199 q3_201 qs1_14 (rfl : vwCl[3]? = some _) a4 rfl (Nat.le_of_ble_eq_true rfl) (Nat.le_of_ble_eq_true rfl) (m_growing hM) ?_
  refine J_aload_n (i := 0) (pc := 25) dX3_best_25 rfl rfl ?_
  refine J_getf (k := 6) (pc := 26) dX3_best_26 flX3_20 a4 rfl ?_
  refine J_cVB (st := []) (As := [.int (nI (gro σ.1)), .int (nI (σ.2.1.2.2))]) (v := some (.int (nI (c)))) (ca1 := 1 + 3 * (cnt (gro σ.1) - 1)) (sa1 := 2 + 2 * (3 * (cnt (gro σ.1) - 1))) (ca2 := 0) (sa2 := 0) (pc := 29) dX3_best_29 okX3_bestOf q3_223 q3_225 qs2_4 (rfl : vwCl[3]? = some _) a4 rfl (Nat.le_of_ble_eq_true rfl) (Nat.le_of_ble_eq_true rfl) ((by have r9 := m_bestOf (g := g) (d := dd) hM (by omega) (gro_n a1) (by omega) (by omega) (le := σ.2.1.2.2); rw [ce] at r9; exact r9)) (by omega) (by omega) (fun h_3 q_4 => ?_)
  have zh_3 := q_4.1
  have H_5 : h_3.2 (53) = some (oB 3 [.int (nI (0)), .int (nI (σ.1.1)), .ref (54), .ref (55), .int (nI (σ.1.2.1)), .int (nI (σ.2.1.2.1)), .int (nI (σ.2.1.2.2)), .int (nI (σ.2.1.1)), .ref (56), .ref (57), .ref (58)]) := (q_4.2 _ (by omega)).trans a4
  have H_6 : h_3.2 (54) = some (aI (60) (mf)) := (q_4.2 _ (by omega)).trans a5
  have H_7 : h_3.2 (55) = some (aI (20) (sf)) := (q_4.2 _ (by omega)).trans a6
  have H_8 : h_3.2 (56) = some (aG (5) (rf)) := (q_4.2 _ (by omega)).trans a7
  have H_9 : h_3.2 (57) = some (aI (5) (pf)) := (q_4.2 _ (by omega)).trans a8
  have H_10 : h_3.2 (58) = some (aI (5) (lf)) := (q_4.2 _ (by omega)).trans a9
  have H_11 : Ext h_1 h_3 := Ext_tr Ext_rfl q_4
  have H_12 : MS h_3 σ.1 := MS_ext q_4 (by omega) hM
  have H_13 : MP h_3 σ ρ (nI 0) := MP_ext q_4 hP1
  refine J_istore_n (i := 2) (lv' := [(2, .int (nI (c))), (0, .ref (53)), (1, .int (nI (0)))]) (pc := 32) dX3_best_32 rfl (by decide) rfl ?_
  refine J_iload_n (i := 2) (pc := 33) dX3_best_33 rfl rfl ?_
  refine J_iconst (v := (-1)) (pc := 34) dX3_best_34 rfl ?_
  refine J_icmp_ne (tgt := 42) (pc := 35) dX3_best_35 (by decide) (fun c35 => ?_) (fun c35 => absurd c35 (nI_nem1 (by omega)))
  refine J_iload_n (i := 1) (pc := 42) dX3_best_42 rfl rfl ?_
  refine J_if_neN (tgt := 53) (pc := 43) dX3_best_43 (by decide) (by omega) (fun c43 => by exfalso; first | omega | simp_all) (fun c43 => ?_)
  refine J_iload_n (i := 2) (pc := 46) dX3_best_46 rfl rfl ?_
  refine J_bipush (v := nI (51)) (pc := 47) dX3_best_47 rfl ?_
  refine J_idivN (pc := 49) dX3_best_49 (by omega) (by omega) (by omega) ?_
  refine J_goto (tgt := 57) (pc := 50) dX3_best_50 (by decide) ?_
  refine J_iret (ty := .int) (pc := 57) dX3_best_57 rfl rfl ?_
  exact ⟨congrArg (fun z : Int32 => (Sum.inl (some (Value.int z)) : RT)) (by unfold bsS; rw [ce]; rfl), FM_tr fm1 (FM_ext (by omega) H_11), ρ, H_13⟩

theorem m_best0 {g : GT} {dd : Nat} {h : MH} {σ : ST} {ρ : Nat → Nat} {th : Int32} (hP : MP h σ ρ th) : J g (dd + 5) (1 + 3 * (cnt (gro σ.1) - 1)) (2 + 2 * (3 * (cnt (gro σ.1) - 1))) mX3_best 0 (lv_args 0 [.ref 53, .int (nI 0)]) [] h (RMo (.int (enc (bsS σ.1 σ.2.1.2.2 0))) h σ (nI 0)) := by
  cases ce : bestS σ.1 (gro σ.1) σ.2.1.2.2 with
  | none => exact m_best0N hP ce
  | some c => exact m_best0S hP ce

set_option maxHeartbeats 2000000 in
set_option maxRecDepth 20000 in
theorem m_best1N {g : GT} {dd : Nat} {h : MH} {σ : ST} {ρ : Nat → Nat} {th : Int32} (hP : MP h σ ρ th) (ce : bestS σ.1 (gro σ.1) σ.2.1.2.2 = none) : J g (dd + 5) (1 + 3 * (cnt (gro σ.1) - 1)) (2 + 2 * (3 * (cnt (gro σ.1) - 1))) mX3_best 0 (lv_args 0 [.ref (53), .int (nI (1))]) [] h (RMo (.int (enc (bsS σ.1 σ.2.1.2.2 1))) h σ (nI 0)) := by
  have a40 := hP.2.2.2.1
  have hz0 := hP.2.2.1
  refine J_aload_n (i := 0) (pc := 0) dX3_best_0 rfl rfl ?_
  refine J_iconst (v := nI (0)) (pc := 1) dX3_best_1 rfl ?_
  refine J_putf (k := 0) (pc := 2) dX3_best_2 fpX3_best_34 (fun g => ⟨rfl, rfl⟩) a40 (Nat.le_of_ble_eq_true rfl) ?_
  obtain ⟨h_1, eh_1⟩ : ∃ z : MH, z = (h.1, hset h.2 (53) (oB 3 [.int (nI (0)), .int (nI (σ.1.1)), .ref (54), .ref (55), .int (nI (σ.1.2.1)), .int (nI (σ.2.1.2.1)), .int (nI (σ.2.1.2.2)), .int (nI (σ.2.1.1)), .ref (56), .ref (57), .ref (58)])) := ⟨_, rfl⟩
  refine J_heq (h2 := h_1) eh_1 ?_
  have zh_1 : h_1.1 = h.1 := by rw [eh_1]
  have H_2 : h_1.2 (53) = some (oB 3 [.int (nI (0)), .int (nI (σ.1.1)), .ref (54), .ref (55), .int (nI (σ.1.2.1)), .int (nI (σ.2.1.2.1)), .int (nI (σ.2.1.2.2)), .int (nI (σ.2.1.1)), .ref (56), .ref (57), .ref (58)]) := hs_s eh_1
  have hP1 : MP h_1 σ ρ (nI 0) := MP_53 hP eh_1
  have fm1 : FM h h_1 := FM_set eh_1 (by decide) (by decide)
  obtain ⟨a1, a2, a3, a4, ⟨mf, a5, a5b⟩, ⟨sf, a6, a6b⟩, ⟨rf, a7, a7b⟩, ⟨pf, a8, a8b⟩, ⟨lf, a9, a9b⟩, a10, a11⟩ := id hP1
  obtain ⟨o1, o2, o3, o4⟩ := id a2
  have hM := MP_MS hP1
  obtain ⟨hn, hc9, hm5, hs2⟩ := id a1
  have hp9 := pw_le hn
  refine J_iload_n (i := 1) (pc := 5) dX3_best_5 rfl rfl ?_
  refine J_iconst (v := nI (0)) (pc := 6) dX3_best_6 rfl ?_
  refine J_iconst (v := nI (1)) (pc := 7) dX3_best_7 rfl ?_
  refine J_cSi (st := []) (As := [.int (nI (1)), .int (nI (0)), .int (nI (1))]) (pc := 8) dX3_best_8 okX3_isIn q3_166 q3_167 rfl (Nat.le_of_ble_eq_true rfl) (Nat.le_of_ble_eq_true rfl) (m_inT (by omega) (by omega) (inZ_nI (by decide) (by decide) (by decide))) ?_
  refine J_if_neN (tgt := 20) (pc := 11) dX3_best_11 (by decide) (by omega) (fun c11 => ?_) (fun c11 => by exfalso; first | omega | simp_all)
  refine J_aload_n (i := 0) (pc := 20) dX3_best_20 rfl rfl ?_
  refine J_aload_n (i := 0) (pc := 21) dX3_best_21 rfl rfl ?_
  refine J_cVi (st := [.ref (53)]) (As := []) (pc := 22) dX3_best_22 okX3_growing q3_199 q3_201 qs1_14 (rfl : vwCl[3]? = some _) a4 rfl (Nat.le_of_ble_eq_true rfl) (Nat.le_of_ble_eq_true rfl) (m_growing hM) ?_
  refine J_aload_n (i := 0) (pc := 25) dX3_best_25 rfl rfl ?_
  refine J_getf (k := 6) (pc := 26) dX3_best_26 flX3_20 a4 rfl ?_
  refine J_cVB (st := []) (As := [.int (nI (gro σ.1)), .int (nI (σ.2.1.2.2))]) (v := some (.int (-1))) (ca1 := 1 + 3 * (cnt (gro σ.1) - 1)) (sa1 := 2 + 2 * (3 * (cnt (gro σ.1) - 1))) (ca2 := 0) (sa2 := 0) (pc := 29) dX3_best_29 okX3_bestOf q3_223 q3_225 qs2_4 (rfl : vwCl[3]? = some _) a4 rfl (Nat.le_of_ble_eq_true rfl) (Nat.le_of_ble_eq_true rfl) ((by have r9 := m_bestOf (g := g) (d := dd) hM (by omega) (gro_n a1) (by omega) (by omega) (le := σ.2.1.2.2); rw [ce] at r9; exact r9)) (by omega) (by omega) (fun h_3 q_4 => ?_)
  have zh_3 := q_4.1
  have H_5 : h_3.2 (53) = some (oB 3 [.int (nI (0)), .int (nI (σ.1.1)), .ref (54), .ref (55), .int (nI (σ.1.2.1)), .int (nI (σ.2.1.2.1)), .int (nI (σ.2.1.2.2)), .int (nI (σ.2.1.1)), .ref (56), .ref (57), .ref (58)]) := (q_4.2 _ (by omega)).trans a4
  have H_6 : h_3.2 (54) = some (aI (60) (mf)) := (q_4.2 _ (by omega)).trans a5
  have H_7 : h_3.2 (55) = some (aI (20) (sf)) := (q_4.2 _ (by omega)).trans a6
  have H_8 : h_3.2 (56) = some (aG (5) (rf)) := (q_4.2 _ (by omega)).trans a7
  have H_9 : h_3.2 (57) = some (aI (5) (pf)) := (q_4.2 _ (by omega)).trans a8
  have H_10 : h_3.2 (58) = some (aI (5) (lf)) := (q_4.2 _ (by omega)).trans a9
  have H_11 : Ext h_1 h_3 := Ext_tr Ext_rfl q_4
  have H_12 : MS h_3 σ.1 := MS_ext q_4 (by omega) hM
  have H_13 : MP h_3 σ ρ (nI 0) := MP_ext q_4 hP1
  refine J_istore_n (i := 2) (lv' := [(2, .int (-1)), (0, .ref (53)), (1, .int (nI (1)))]) (pc := 32) dX3_best_32 rfl (by decide) rfl ?_
  refine J_iload_n (i := 2) (pc := 33) dX3_best_33 rfl rfl ?_
  refine J_iconst (v := (-1)) (pc := 34) dX3_best_34 rfl ?_
  refine J_icmp_ne (tgt := 42) (pc := 35) dX3_best_35 (by decide) (fun c35 => absurd c35 (fun q => q rfl)) (fun c35 => ?_)
  refine J_iconst (v := (-1)) (pc := 38) dX3_best_38 rfl ?_
  refine J_goto (tgt := 57) (pc := 39) dX3_best_39 (by decide) ?_
  refine J_iret (ty := .int) (pc := 57) dX3_best_57 rfl rfl ?_
  exact ⟨congrArg (fun z : Int32 => (Sum.inl (some (Value.int z)) : RT)) (by unfold bsS; rw [ce]; rfl), FM_tr fm1 (FM_ext (by omega) H_11), ρ, H_13⟩

set_option maxHeartbeats 2000000 in
set_option maxRecDepth 20000 in
theorem m_best1S {g : GT} {dd : Nat} {h : MH} {σ : ST} {ρ : Nat → Nat} {th : Int32} (hP : MP h σ ρ th) {c : Nat} (ce : bestS σ.1 (gro σ.1) σ.2.1.2.2 = some c) : J g (dd + 5) (1 + 3 * (cnt (gro σ.1) - 1)) (2 + 2 * (3 * (cnt (gro σ.1) - 1))) mX3_best 0 (lv_args 0 [.ref (53), .int (nI (1))]) [] h (RMo (.int (enc (bsS σ.1 σ.2.1.2.2 1))) h σ (nI 0)) := by
  have a40 := hP.2.2.2.1
  have hz0 := hP.2.2.1
  refine J_aload_n (i := 0) (pc := 0) dX3_best_0 rfl rfl ?_
  refine J_iconst (v := nI (0)) (pc := 1) dX3_best_1 rfl ?_
  refine J_putf (k := 0) (pc := 2) dX3_best_2 fpX3_best_34 (fun g => ⟨rfl, rfl⟩) a40 (Nat.le_of_ble_eq_true rfl) ?_
  obtain ⟨h_1, eh_1⟩ : ∃ z : MH, z = (h.1, hset h.2 (53) (oB 3 [.int (nI (0)), .int (nI (σ.1.1)), .ref (54), .ref (55), .int (nI (σ.1.2.1)), .int (nI (σ.2.1.2.1)), .int (nI (σ.2.1.2.2)), .int (nI (σ.2.1.1)), .ref (56), .ref (57), .ref (58)])) := ⟨_, rfl⟩
  refine J_heq (h2 := h_1) eh_1 ?_
  have zh_1 : h_1.1 = h.1 := by rw [eh_1]
  have H_2 : h_1.2 (53) = some (oB 3 [.int (nI (0)), .int (nI (σ.1.1)), .ref (54), .ref (55), .int (nI (σ.1.2.1)), .int (nI (σ.2.1.2.1)), .int (nI (σ.2.1.2.2)), .int (nI (σ.2.1.1)), .ref (56), .ref (57), .ref (58)]) := hs_s eh_1
  have hP1 : MP h_1 σ ρ (nI 0) := MP_53 hP eh_1
  have fm1 : FM h h_1 := FM_set eh_1 (by decide) (by decide)
  obtain ⟨a1, a2, a3, a4, ⟨mf, a5, a5b⟩, ⟨sf, a6, a6b⟩, ⟨rf, a7, a7b⟩, ⟨pf, a8, a8b⟩, ⟨lf, a9, a9b⟩, a10, a11⟩ := id hP1
  obtain ⟨o1, o2, o3, o4⟩ := id a2
  have hM := MP_MS hP1
  obtain ⟨hn, hc9, hm5, hs2⟩ := id a1
  have hp9 := pw_le hn
  have hc := (best_P ce).1
  refine J_iload_n (i := 1) (pc := 5) dX3_best_5 rfl rfl ?_
  refine J_iconst (v := nI (0)) (pc := 6) dX3_best_6 rfl ?_
  refine J_iconst (v := nI (1)) (pc := 7) dX3_best_7 rfl ?_
  refine J_cSi (st := []) (As := [.int (nI (1)), .int (nI (0)), .int (nI (1))]) (pc := 8) dX3_best_8 okX3_isIn q3_166 q3_167 rfl (Nat.le_of_ble_eq_true rfl) (Nat.le_of_ble_eq_true rfl) (m_inT (by omega) (by omega) (inZ_nI (by decide) (by decide) (by decide))) ?_
  refine J_if_neN (tgt := 20) (pc := 11) dX3_best_11 (by decide) (by omega) (fun c11 => ?_) (fun c11 => by exfalso; first | omega | simp_all)
  refine J_aload_n (i := 0) (pc := 20) dX3_best_20 rfl rfl ?_
  refine J_aload_n (i := 0) (pc := 21) dX3_best_21 rfl rfl ?_
  refine J_cVi (st := [.ref (53)]) (As := []) (pc := 22) dX3_best_22 okX3_growing q3_199 q3_201 qs1_14 (rfl : vwCl[3]? = some _) a4 rfl (Nat.le_of_ble_eq_true rfl) (Nat.le_of_ble_eq_true rfl) (m_growing hM) ?_
  refine J_aload_n (i := 0) (pc := 25) dX3_best_25 rfl rfl ?_
  refine J_getf (k := 6) (pc := 26) dX3_best_26 flX3_20 a4 rfl ?_
  refine J_cVB (st := []) (As := [.int (nI (gro σ.1)), .int (nI (σ.2.1.2.2))]) (v := some (.int (nI (c)))) (ca1 := 1 + 3 * (cnt (gro σ.1) - 1)) (sa1 := 2 + 2 * (3 * (cnt (gro σ.1) - 1))) (ca2 := 0) (sa2 := 0) (pc := 29) dX3_best_29 okX3_bestOf q3_223 q3_225 qs2_4 (rfl : vwCl[3]? = some _) a4 rfl (Nat.le_of_ble_eq_true rfl) (Nat.le_of_ble_eq_true rfl) ((by have r9 := m_bestOf (g := g) (d := dd) hM (by omega) (gro_n a1) (by omega) (by omega) (le := σ.2.1.2.2); rw [ce] at r9; exact r9)) (by omega) (by omega) (fun h_3 q_4 => ?_)
  have zh_3 := q_4.1
  have H_5 : h_3.2 (53) = some (oB 3 [.int (nI (0)), .int (nI (σ.1.1)), .ref (54), .ref (55), .int (nI (σ.1.2.1)), .int (nI (σ.2.1.2.1)), .int (nI (σ.2.1.2.2)), .int (nI (σ.2.1.1)), .ref (56), .ref (57), .ref (58)]) := (q_4.2 _ (by omega)).trans a4
  have H_6 : h_3.2 (54) = some (aI (60) (mf)) := (q_4.2 _ (by omega)).trans a5
  have H_7 : h_3.2 (55) = some (aI (20) (sf)) := (q_4.2 _ (by omega)).trans a6
  have H_8 : h_3.2 (56) = some (aG (5) (rf)) := (q_4.2 _ (by omega)).trans a7
  have H_9 : h_3.2 (57) = some (aI (5) (pf)) := (q_4.2 _ (by omega)).trans a8
  have H_10 : h_3.2 (58) = some (aI (5) (lf)) := (q_4.2 _ (by omega)).trans a9
  have H_11 : Ext h_1 h_3 := Ext_tr Ext_rfl q_4
  have H_12 : MS h_3 σ.1 := MS_ext q_4 (by omega) hM
  have H_13 : MP h_3 σ ρ (nI 0) := MP_ext q_4 hP1
  refine J_istore_n (i := 2) (lv' := [(2, .int (nI (c))), (0, .ref (53)), (1, .int (nI (1)))]) (pc := 32) dX3_best_32 rfl (by decide) rfl ?_
  refine J_iload_n (i := 2) (pc := 33) dX3_best_33 rfl rfl ?_
  refine J_iconst (v := (-1)) (pc := 34) dX3_best_34 rfl ?_
  refine J_icmp_ne (tgt := 42) (pc := 35) dX3_best_35 (by decide) (fun c35 => ?_) (fun c35 => absurd c35 (nI_nem1 (by omega)))
  refine J_iload_n (i := 1) (pc := 42) dX3_best_42 rfl rfl ?_
  refine J_if_neN (tgt := 53) (pc := 43) dX3_best_43 (by decide) (by omega) (fun c43 => ?_) (fun c43 => by exfalso; first | omega | simp_all)
  refine J_iload_n (i := 2) (pc := 53) dX3_best_53 rfl rfl ?_
  refine J_bipush (v := nI (51)) (pc := 54) dX3_best_54 rfl ?_
  refine J_iremN (pc := 56) dX3_best_56 (by omega) (by omega) (by omega) ?_
  refine J_iret (ty := .int) (pc := 57) dX3_best_57 rfl rfl ?_
  exact ⟨congrArg (fun z : Int32 => (Sum.inl (some (Value.int z)) : RT)) (by unfold bsS; rw [ce]; rfl), FM_tr fm1 (FM_ext (by omega) H_11), ρ, H_13⟩

theorem m_best1 {g : GT} {dd : Nat} {h : MH} {σ : ST} {ρ : Nat → Nat} {th : Int32} (hP : MP h σ ρ th) : J g (dd + 5) (1 + 3 * (cnt (gro σ.1) - 1)) (2 + 2 * (3 * (cnt (gro σ.1) - 1))) mX3_best 0 (lv_args 0 [.ref 53, .int (nI 1)]) [] h (RMo (.int (enc (bsS σ.1 σ.2.1.2.2 1))) h σ (nI 0)) := by
  cases ce : bestS σ.1 (gro σ.1) σ.2.1.2.2 with
  | none => exact m_best1N hP ce
  | some c => exact m_best1S hP ce

set_option maxHeartbeats 2000000 in
set_option maxRecDepth 20000 in
theorem m_bestX1 {g : GT} {dd : Nat} {h : MH} {σ : ST} {ρ : Nat → Nat} {th : Int32} (hP : MP h σ ρ th) {what : Int32} (hw : ¬ inZ 0 1 what) : J g (dd + 5) 0 0 mX3_best 0 (lv_args 0 [.ref (53), .int (what)]) [] h (RMo (.int (nI 0)) h σ (nI 1)) := by
  have a40 := hP.2.2.2.1
  have hz0 := hP.2.2.1
  refine J_aload_n (i := 0) (pc := 0) dX3_best_0 rfl rfl ?_
  refine J_iconst (v := nI (0)) (pc := 1) dX3_best_1 rfl ?_
  refine J_putf (k := 0) (pc := 2) dX3_best_2 fpX3_best_34 (fun g => ⟨rfl, rfl⟩) a40 (Nat.le_of_ble_eq_true rfl) ?_
  obtain ⟨h_1, eh_1⟩ : ∃ z : MH, z = (h.1, hset h.2 (53) (oB 3 [.int (nI (0)), .int (nI (σ.1.1)), .ref (54), .ref (55), .int (nI (σ.1.2.1)), .int (nI (σ.2.1.2.1)), .int (nI (σ.2.1.2.2)), .int (nI (σ.2.1.1)), .ref (56), .ref (57), .ref (58)])) := ⟨_, rfl⟩
  refine J_heq (h2 := h_1) eh_1 ?_
  have zh_1 : h_1.1 = h.1 := by rw [eh_1]
  have H_2 : h_1.2 (53) = some (oB 3 [.int (nI (0)), .int (nI (σ.1.1)), .ref (54), .ref (55), .int (nI (σ.1.2.1)), .int (nI (σ.2.1.2.1)), .int (nI (σ.2.1.2.2)), .int (nI (σ.2.1.1)), .ref (56), .ref (57), .ref (58)]) := hs_s eh_1
  have hP1 : MP h_1 σ ρ (nI 0) := MP_53 hP eh_1
  have fm1 : FM h h_1 := FM_set eh_1 (by decide) (by decide)
  obtain ⟨a1, a2, a3, a4, ⟨mf, a5, a5b⟩, ⟨sf, a6, a6b⟩, ⟨rf, a7, a7b⟩, ⟨pf, a8, a8b⟩, ⟨lf, a9, a9b⟩, a10, a11⟩ := id hP1
  obtain ⟨o1, o2, o3, o4⟩ := id a2
  have hM := MP_MS hP1
  obtain ⟨hn, hc9, hm5, hs2⟩ := id a1
  have hp9 := pw_le hn
  refine J_iload_n (i := 1) (pc := 5) dX3_best_5 rfl rfl ?_
  refine J_iconst (v := nI (0)) (pc := 6) dX3_best_6 rfl ?_
  refine J_iconst (v := nI (1)) (pc := 7) dX3_best_7 rfl ?_
  refine J_cSi (st := []) (As := [.int (what), .int (nI (0)), .int (nI (1))]) (pc := 8) dX3_best_8 okX3_isIn q3_166 q3_167 rfl (Nat.le_of_ble_eq_true rfl) (Nat.le_of_ble_eq_true rfl) (m_inF (by omega) (by omega) (hw)) ?_
  refine J_if_neN (tgt := 20) (pc := 11) dX3_best_11 (by decide) (by omega) (fun c11 => by exfalso; first | omega | simp_all) (fun c11 => ?_)
  refine J_aload_n (i := 0) (pc := 14) dX3_best_14 rfl rfl ?_
  refine J_iconst (v := nI (1)) (pc := 15) dX3_best_15 rfl ?_
  refine J_cVh (st := []) (As := [.int (nI (1))]) (pc := 16) dX3_best_16 okX3_no q3_169 q3_171 qs1_13 (rfl : vwCl[3]? = some _) a4 rfl (Nat.le_of_ble_eq_true rfl) (Nat.le_of_ble_eq_true rfl) (m_no hP1) (fun h_3 q_4 => ?_)
  refine J_iret (ty := .int) (pc := 19) dX3_best_19 rfl rfl ?_
  exact ⟨rfl, FM_tr fm1 (FM_tr (FM_ext (by omega) Ext_rfl) q_4.1), ρ, q_4.2⟩

set_option maxHeartbeats 2000000 in
set_option maxRecDepth 20000 in
theorem m_would0 {g : GT} {dd : Nat} {h : MH} {σ : ST} {ρ : Nat → Nat} {th : Int32} (hP : MP h σ ρ th) {mo ls : Nat} (hm1 : 1 ≤ mo) (hm : mo ≤ 5) (hl1 : 1 ≤ ls) (hl : ls ≤ 6) (hg0 : gro σ.1 ≠ 0) : J g (dd + 12) (1 + (3 * (cnt (gro σ.1) * mo) + cnt (gro σ.1)) + (0)) (320 + (11 * (cnt (gro σ.1) * mo) + 5 * cnt (gro σ.1)) + (0)) mX3_would 0 (lv_args 0 [.ref (53), .int (nI (mo)), .int (nI (ls)), .int (nI (0))]) [] h (RMo (.int (nI (wdS σ.1 mo ls 0))) h σ (nI 0)) := by
  have a40 := hP.2.2.2.1
  have hz0 := hP.2.2.1
  refine J_aload_n (i := 0) (pc := 0) dX3_would_0 rfl rfl ?_
  refine J_iconst (v := nI (0)) (pc := 1) dX3_would_1 rfl ?_
  refine J_putf (k := 0) (pc := 2) dX3_would_2 fpX3_would_34 (fun g => ⟨rfl, rfl⟩) a40 (Nat.le_of_ble_eq_true rfl) ?_
  obtain ⟨h_1, eh_1⟩ : ∃ z : MH, z = (h.1, hset h.2 (53) (oB 3 [.int (nI (0)), .int (nI (σ.1.1)), .ref (54), .ref (55), .int (nI (σ.1.2.1)), .int (nI (σ.2.1.2.1)), .int (nI (σ.2.1.2.2)), .int (nI (σ.2.1.1)), .ref (56), .ref (57), .ref (58)])) := ⟨_, rfl⟩
  refine J_heq (h2 := h_1) eh_1 ?_
  have zh_1 : h_1.1 = h.1 := by rw [eh_1]
  have H_2 : h_1.2 (53) = some (oB 3 [.int (nI (0)), .int (nI (σ.1.1)), .ref (54), .ref (55), .int (nI (σ.1.2.1)), .int (nI (σ.2.1.2.1)), .int (nI (σ.2.1.2.2)), .int (nI (σ.2.1.1)), .ref (56), .ref (57), .ref (58)]) := hs_s eh_1
  have hP1 : MP h_1 σ ρ (nI 0) := MP_53 hP eh_1
  have fm1 : FM h h_1 := FM_set eh_1 (by decide) (by decide)
  obtain ⟨a1, a2, a3, a4, ⟨mf, a5, a5b⟩, ⟨sf, a6, a6b⟩, ⟨rf, a7, a7b⟩, ⟨pf, a8, a8b⟩, ⟨lf, a9, a9b⟩, a10, a11⟩ := id hP1
  obtain ⟨o1, o2, o3, o4⟩ := id a2
  have hM := MP_MS hP1
  obtain ⟨hn, hc9, hm5, hs2⟩ := id a1
  have hp9 := pw_le hn
  have hg20 := gro_lt a1
  have hc1 : 1 ≤ cnt (gro σ.1) := cnt_pos hg20 hg0
  refine J_iload_n (i := 1) (pc := 5) dX3_would_5 rfl rfl ?_
  refine J_iconst (v := nI (1)) (pc := 6) dX3_would_6 rfl ?_
  refine J_iconst (v := nI (5)) (pc := 7) dX3_would_7 rfl ?_
  refine J_cSi (st := []) (As := [.int (nI (mo)), .int (nI (1)), .int (nI (5))]) (pc := 8) dX3_would_8 okX3_isIn q3_166 q3_167 rfl (Nat.le_of_ble_eq_true rfl) (Nat.le_of_ble_eq_true rfl) (m_inT (by omega) (by omega) (inZ_nI (by omega) (by omega) (by decide))) ?_
  refine J_if_eqN (tgt := 24) (pc := 11) dX3_would_11 (by decide) (by omega) (fun c11 => by exfalso; first | omega | simp_all) (fun c11 => ?_)
  refine J_iload_n (i := 2) (pc := 14) dX3_would_14 rfl rfl ?_
  refine J_iconst (v := nI (1)) (pc := 15) dX3_would_15 rfl ?_
  refine J_bipush (v := nI (6)) (pc := 16) dX3_would_16 rfl ?_
  refine J_cSi (st := []) (As := [.int (nI (ls)), .int (nI (1)), .int (nI (6))]) (pc := 18) dX3_would_18 okX3_isIn q3_166 q3_167 rfl (Nat.le_of_ble_eq_true rfl) (Nat.le_of_ble_eq_true rfl) (m_inT (by omega) (by omega) (inZ_nI (by omega) (by omega) (by decide))) ?_
  refine J_if_neN (tgt := 30) (pc := 21) dX3_would_21 (by decide) (by omega) (fun c21 => ?_) (fun c21 => by exfalso; first | omega | simp_all)
  refine J_iload_n (i := 3) (pc := 30) dX3_would_30 rfl rfl ?_
  refine J_iconst (v := nI (0)) (pc := 31) dX3_would_31 rfl ?_
  refine J_iconst (v := nI (2)) (pc := 32) dX3_would_32 rfl ?_
  refine J_cSi (st := []) (As := [.int (nI (0)), .int (nI (0)), .int (nI (2))]) (pc := 33) dX3_would_33 okX3_isIn q3_166 q3_167 rfl (Nat.le_of_ble_eq_true rfl) (Nat.le_of_ble_eq_true rfl) (m_inT (by omega) (by omega) (inZ_nI (by decide) (by decide) (by decide))) ?_
  refine J_if_neN (tgt := 45) (pc := 36) dX3_would_36 (by decide) (by omega) (fun c36 => ?_) (fun c36 => by exfalso; first | omega | simp_all)
  refine J_aload_n (i := 0) (pc := 45) dX3_would_45 rfl rfl ?_
  refine J_cVi (st := []) (As := []) (pc := 46) dX3_would_46 okX3_growing q3_199 q3_201 qs1_14 (rfl : vwCl[3]? = some _) a4 rfl (Nat.le_of_ble_eq_true rfl) (Nat.le_of_ble_eq_true rfl) (m_growing hM) ?_
  refine J_if_neN (tgt := 54) (pc := 49) dX3_would_49 (by decide) (by omega) (fun c49 => ?_) (fun c49 => absurd c49 (fun q => hg0 q))
  refine J_aload_n (i := 0) (pc := 54) dX3_would_54 rfl rfl ?_
  refine J_aload_n (i := 0) (pc := 55) dX3_would_55 rfl rfl ?_
  refine J_cVi (st := [.ref (53)]) (As := []) (pc := 56) dX3_would_56 okX3_growing q3_199 q3_201 qs1_14 (rfl : vwCl[3]? = some _) a4 rfl (Nat.le_of_ble_eq_true rfl) (Nat.le_of_ble_eq_true rfl) (m_growing hM) ?_
  refine J_iload_n (i := 1) (pc := 59) dX3_would_59 rfl rfl ?_
  refine J_iload_n (i := 2) (pc := 60) dX3_would_60 rfl rfl ?_
  refine J_cVB (st := []) (As := [.int (nI (gro σ.1)), .int (nI (mo)), .int (nI (ls))]) (v := some (.ref (h_1.1))) (ca1 := 1 + (3 * (cnt (gro σ.1) * mo) + cnt (gro σ.1))) (sa1 := 320 + (11 * (cnt (gro σ.1) * mo) + 5 * cnt (gro σ.1))) (ca2 := 0) (sa2 := 0) (pc := 61) dX3_would_61 okX3_grown q3_203 q3_205 qs1_15 (rfl : vwCl[3]? = some _) a4 rfl (Nat.le_of_ble_eq_true rfl) (Nat.le_of_ble_eq_true rfl) (m_grown (dd := dd) hM (by omega) (by omega) (by omega) (gro_n a1) hc1 (by omega)) (by omega) (by omega) (fun h_3 q_4 => ?_)
  obtain ⟨B, eB⟩ : ∃ z : Nat, z = h_1.1 := ⟨_, rfl⟩
  rw [← eB]
  obtain ⟨xB, zB, fB, kB, rwB⟩ := q_4
  rw [← eB] at kB zB
  have zh_3 := xB.1
  have H_5 : h_3.2 (53) = some (oB 3 [.int (nI (0)), .int (nI (σ.1.1)), .ref (54), .ref (55), .int (nI (σ.1.2.1)), .int (nI (σ.2.1.2.1)), .int (nI (σ.2.1.2.2)), .int (nI (σ.2.1.1)), .ref (56), .ref (57), .ref (58)]) := (xB.2 _ (by omega)).trans a4
  have H_6 : h_3.2 (54) = some (aI (60) (mf)) := (xB.2 _ (by omega)).trans a5
  have H_7 : h_3.2 (55) = some (aI (20) (sf)) := (xB.2 _ (by omega)).trans a6
  have H_8 : h_3.2 (56) = some (aG (5) (rf)) := (xB.2 _ (by omega)).trans a7
  have H_9 : h_3.2 (57) = some (aI (5) (pf)) := (xB.2 _ (by omega)).trans a8
  have H_10 : h_3.2 (58) = some (aI (5) (lf)) := (xB.2 _ (by omega)).trans a9
  have H_11 : Ext h_1 h_3 := Ext_tr Ext_rfl xB
  have H_12 : MS h_3 σ.1 := MS_ext xB (by omega) hM
  have H_13 : MP h_3 σ ρ (nI 0) := MP_ext xB hP1
  refine J_astore (i := 4) (lv' := [(4, .ref (B)), (0, .ref (53)), (1, .int (nI (mo))), (2, .int (nI (ls))), (3, .int (nI (0)))]) (pc := 64) dX3_would_64 (by decide) rfl ?_
  refine J_iload_n (i := 3) (pc := 66) dX3_would_66 rfl rfl ?_
  refine J_if_neN (tgt := 79) (pc := 67) dX3_would_67 (by decide) (by omega) (fun c67 => by exfalso; first | omega | simp_all) (fun c67 => ?_)
  refine J_aload (i := 4) (pc := 70) dX3_would_70 rfl ?_
  refine J_iconst (v := nI (1)) (pc := 72) dX3_would_72 rfl ?_
  refine J_cSi (st := []) (As := [.ref (B), .int (nI (1))]) (pc := 73) dX3_would_73 okX3_nodes q4_38 q4_39 rfl (Nat.le_of_ble_eq_true rfl) (Nat.le_of_ble_eq_true rfl) (m_nodes (dd := dd + 5) kB 5 1 _ rwB (by decide) (by decide)) ?_
  refine J_goto (tgt := 102) (pc := 76) dX3_would_76 (by decide) ?_
  refine J_iret (ty := .int) (pc := 102) dX3_would_102 rfl rfl ?_
  exact ⟨congrArg (fun z : Int32 => (Sum.inl (some (Value.int z)) : RT)) (by unfold wdS; rw [if_neg hg0]; rfl), FM_tr fm1 (FM_ext (by omega) H_11), ρ, H_13⟩

set_option maxHeartbeats 2000000 in
set_option maxRecDepth 20000 in
theorem m_would1 {g : GT} {dd : Nat} {h : MH} {σ : ST} {ρ : Nat → Nat} {th : Int32} (hP : MP h σ ρ th) {mo ls : Nat} (hm1 : 1 ≤ mo) (hm : mo ≤ 5) (hl1 : 1 ≤ ls) (hl : ls ≤ 6) (hg0 : gro σ.1 ≠ 0) : J g (dd + 12) (1 + (3 * (cnt (gro σ.1) * mo) + cnt (gro σ.1)) + (cnt (gro σ.1))) (320 + (11 * (cnt (gro σ.1) * mo) + 5 * cnt (gro σ.1)) + (3 * cnt (gro σ.1))) mX3_would 0 (lv_args 0 [.ref (53), .int (nI (mo)), .int (nI (ls)), .int (nI (1))]) [] h (RMo (.int (nI (wdS σ.1 mo ls 1))) h σ (nI 0)) := by
  have a40 := hP.2.2.2.1
  have hz0 := hP.2.2.1
  refine J_aload_n (i := 0) (pc := 0) dX3_would_0 rfl rfl ?_
  refine J_iconst (v := nI (0)) (pc := 1) dX3_would_1 rfl ?_
  refine J_putf (k := 0) (pc := 2) dX3_would_2 fpX3_would_34 (fun g => ⟨rfl, rfl⟩) a40 (Nat.le_of_ble_eq_true rfl) ?_
  obtain ⟨h_1, eh_1⟩ : ∃ z : MH, z = (h.1, hset h.2 (53) (oB 3 [.int (nI (0)), .int (nI (σ.1.1)), .ref (54), .ref (55), .int (nI (σ.1.2.1)), .int (nI (σ.2.1.2.1)), .int (nI (σ.2.1.2.2)), .int (nI (σ.2.1.1)), .ref (56), .ref (57), .ref (58)])) := ⟨_, rfl⟩
  refine J_heq (h2 := h_1) eh_1 ?_
  have zh_1 : h_1.1 = h.1 := by rw [eh_1]
  have H_2 : h_1.2 (53) = some (oB 3 [.int (nI (0)), .int (nI (σ.1.1)), .ref (54), .ref (55), .int (nI (σ.1.2.1)), .int (nI (σ.2.1.2.1)), .int (nI (σ.2.1.2.2)), .int (nI (σ.2.1.1)), .ref (56), .ref (57), .ref (58)]) := hs_s eh_1
  have hP1 : MP h_1 σ ρ (nI 0) := MP_53 hP eh_1
  have fm1 : FM h h_1 := FM_set eh_1 (by decide) (by decide)
  obtain ⟨a1, a2, a3, a4, ⟨mf, a5, a5b⟩, ⟨sf, a6, a6b⟩, ⟨rf, a7, a7b⟩, ⟨pf, a8, a8b⟩, ⟨lf, a9, a9b⟩, a10, a11⟩ := id hP1
  obtain ⟨o1, o2, o3, o4⟩ := id a2
  have hM := MP_MS hP1
  obtain ⟨hn, hc9, hm5, hs2⟩ := id a1
  have hp9 := pw_le hn
  have hg20 := gro_lt a1
  have hc1 : 1 ≤ cnt (gro σ.1) := cnt_pos hg20 hg0
  refine J_iload_n (i := 1) (pc := 5) dX3_would_5 rfl rfl ?_
  refine J_iconst (v := nI (1)) (pc := 6) dX3_would_6 rfl ?_
  refine J_iconst (v := nI (5)) (pc := 7) dX3_would_7 rfl ?_
  refine J_cSi (st := []) (As := [.int (nI (mo)), .int (nI (1)), .int (nI (5))]) (pc := 8) dX3_would_8 okX3_isIn q3_166 q3_167 rfl (Nat.le_of_ble_eq_true rfl) (Nat.le_of_ble_eq_true rfl) (m_inT (by omega) (by omega) (inZ_nI (by omega) (by omega) (by decide))) ?_
  refine J_if_eqN (tgt := 24) (pc := 11) dX3_would_11 (by decide) (by omega) (fun c11 => by exfalso; first | omega | simp_all) (fun c11 => ?_)
  refine J_iload_n (i := 2) (pc := 14) dX3_would_14 rfl rfl ?_
  refine J_iconst (v := nI (1)) (pc := 15) dX3_would_15 rfl ?_
  refine J_bipush (v := nI (6)) (pc := 16) dX3_would_16 rfl ?_
  refine J_cSi (st := []) (As := [.int (nI (ls)), .int (nI (1)), .int (nI (6))]) (pc := 18) dX3_would_18 okX3_isIn q3_166 q3_167 rfl (Nat.le_of_ble_eq_true rfl) (Nat.le_of_ble_eq_true rfl) (m_inT (by omega) (by omega) (inZ_nI (by omega) (by omega) (by decide))) ?_
  refine J_if_neN (tgt := 30) (pc := 21) dX3_would_21 (by decide) (by omega) (fun c21 => ?_) (fun c21 => by exfalso; first | omega | simp_all)
  refine J_iload_n (i := 3) (pc := 30) dX3_would_30 rfl rfl ?_
  refine J_iconst (v := nI (0)) (pc := 31) dX3_would_31 rfl ?_
  refine J_iconst (v := nI (2)) (pc := 32) dX3_would_32 rfl ?_
  refine J_cSi (st := []) (As := [.int (nI (1)), .int (nI (0)), .int (nI (2))]) (pc := 33) dX3_would_33 okX3_isIn q3_166 q3_167 rfl (Nat.le_of_ble_eq_true rfl) (Nat.le_of_ble_eq_true rfl) (m_inT (by omega) (by omega) (inZ_nI (by decide) (by decide) (by decide))) ?_
  refine J_if_neN (tgt := 45) (pc := 36) dX3_would_36 (by decide) (by omega) (fun c36 => ?_) (fun c36 => by exfalso; first | omega | simp_all)
  refine J_aload_n (i := 0) (pc := 45) dX3_would_45 rfl rfl ?_
  refine J_cVi (st := []) (As := []) (pc := 46) dX3_would_46 okX3_growing q3_199 q3_201 qs1_14 (rfl : vwCl[3]? = some _) a4 rfl (Nat.le_of_ble_eq_true rfl) (Nat.le_of_ble_eq_true rfl) (m_growing hM) ?_
  refine J_if_neN (tgt := 54) (pc := 49) dX3_would_49 (by decide) (by omega) (fun c49 => ?_) (fun c49 => absurd c49 (fun q => hg0 q))
  refine J_aload_n (i := 0) (pc := 54) dX3_would_54 rfl rfl ?_
  refine J_aload_n (i := 0) (pc := 55) dX3_would_55 rfl rfl ?_
  refine J_cVi (st := [.ref (53)]) (As := []) (pc := 56) dX3_would_56 okX3_growing q3_199 q3_201 qs1_14 (rfl : vwCl[3]? = some _) a4 rfl (Nat.le_of_ble_eq_true rfl) (Nat.le_of_ble_eq_true rfl) (m_growing hM) ?_
  refine J_iload_n (i := 1) (pc := 59) dX3_would_59 rfl rfl ?_
  refine J_iload_n (i := 2) (pc := 60) dX3_would_60 rfl rfl ?_
  refine J_cVB (st := []) (As := [.int (nI (gro σ.1)), .int (nI (mo)), .int (nI (ls))]) (v := some (.ref (h_1.1))) (ca1 := 1 + (3 * (cnt (gro σ.1) * mo) + cnt (gro σ.1))) (sa1 := 320 + (11 * (cnt (gro σ.1) * mo) + 5 * cnt (gro σ.1))) (ca2 := cnt (gro σ.1)) (sa2 := 3 * cnt (gro σ.1)) (pc := 61) dX3_would_61 okX3_grown q3_203 q3_205 qs1_15 (rfl : vwCl[3]? = some _) a4 rfl (Nat.le_of_ble_eq_true rfl) (Nat.le_of_ble_eq_true rfl) (m_grown (dd := dd) hM (by omega) (by omega) (by omega) (gro_n a1) hc1 (by omega)) (by omega) (by omega) (fun h_3 q_4 => ?_)
  obtain ⟨B, eB⟩ : ∃ z : Nat, z = h_1.1 := ⟨_, rfl⟩
  rw [← eB]
  obtain ⟨xB, zB, fB, kB, rwB⟩ := q_4
  rw [← eB] at kB zB
  have zh_3 := xB.1
  have H_5 : h_3.2 (53) = some (oB 3 [.int (nI (0)), .int (nI (σ.1.1)), .ref (54), .ref (55), .int (nI (σ.1.2.1)), .int (nI (σ.2.1.2.1)), .int (nI (σ.2.1.2.2)), .int (nI (σ.2.1.1)), .ref (56), .ref (57), .ref (58)]) := (xB.2 _ (by omega)).trans a4
  have H_6 : h_3.2 (54) = some (aI (60) (mf)) := (xB.2 _ (by omega)).trans a5
  have H_7 : h_3.2 (55) = some (aI (20) (sf)) := (xB.2 _ (by omega)).trans a6
  have H_8 : h_3.2 (56) = some (aG (5) (rf)) := (xB.2 _ (by omega)).trans a7
  have H_9 : h_3.2 (57) = some (aI (5) (pf)) := (xB.2 _ (by omega)).trans a8
  have H_10 : h_3.2 (58) = some (aI (5) (lf)) := (xB.2 _ (by omega)).trans a9
  have H_11 : Ext h_1 h_3 := Ext_tr Ext_rfl xB
  have H_12 : MS h_3 σ.1 := MS_ext xB (by omega) hM
  have H_13 : MP h_3 σ ρ (nI 0) := MP_ext xB hP1
  refine J_astore (i := 4) (lv' := [(4, .ref (B)), (0, .ref (53)), (1, .int (nI (mo))), (2, .int (nI (ls))), (3, .int (nI (1)))]) (pc := 64) dX3_would_64 (by decide) rfl ?_
  refine J_iload_n (i := 3) (pc := 66) dX3_would_66 rfl rfl ?_
  refine J_if_neN (tgt := 79) (pc := 67) dX3_would_67 (by decide) (by omega) (fun c67 => ?_) (fun c67 => by exfalso; first | omega | simp_all)
  refine J_aload_n (i := 0) (pc := 79) dX3_would_79 rfl rfl ?_
  refine J_aload (i := 4) (pc := 80) dX3_would_80 rfl ?_
  refine J_iconst (v := nI (1)) (pc := 82) dX3_would_82 rfl ?_
  refine J_iload_n (i := 3) (pc := 83) dX3_would_83 rfl rfl ?_
  refine J_iconst (v := nI (1)) (pc := 84) dX3_would_84 rfl ?_
  refine J_icmp_neN (tgt := 95) (pc := 85) dX3_would_85 (by decide) (by omega) (by omega) (fun c85 => by exfalso; first | omega | simp_all) (fun c85 => ?_)
  refine J_aload_n (i := 0) (pc := 88) dX3_would_88 rfl rfl ?_
  refine J_cVi (st := [.int (nI (1)), .ref (B), .ref (53)]) (As := []) (pc := 89) dX3_would_89 okX3_growing q3_199 q3_201 qs1_14 (rfl : vwCl[3]? = some _) H_5 rfl (Nat.le_of_ble_eq_true rfl) (Nat.le_of_ble_eq_true rfl) (m_growing H_12) ?_
  refine J_goto (tgt := 99) (pc := 92) dX3_would_92 (by decide) ?_
  refine J_cVB (st := []) (As := [.ref (B), .int (nI (1)), .int (nI (gro σ.1))]) (v := some (.int (nI (rgT σ.1 5 (grT σ.1 ls 5 mo (gro σ.1)) (gro σ.1))))) (ca1 := cnt (gro σ.1)) (sa1 := 3 * cnt (gro σ.1)) (ca2 := 0) (sa2 := 0) (pc := 99) dX3_would_99 okX3_right q4_23 q4_25 qs2_11 (rfl : vwCl[3]? = some _) H_5 rfl (Nat.le_of_ble_eq_true rfl) (Nat.le_of_ble_eq_true rfl) (m_right (dd := dd + 9) H_12 (by omega) kB (by omega) hg20 rwB (ok_gr _ _ _ _ _) (by decide) (by decide)) (by omega) (by omega) (fun h_14 q_15 => ?_)
  have zh_14 := q_15.1
  have H_16 : h_14.2 (53) = some (oB 3 [.int (nI (0)), .int (nI (σ.1.1)), .ref (54), .ref (55), .int (nI (σ.1.2.1)), .int (nI (σ.2.1.2.1)), .int (nI (σ.2.1.2.2)), .int (nI (σ.2.1.1)), .ref (56), .ref (57), .ref (58)]) := (q_15.2 _ (by omega)).trans H_5
  have H_17 : h_14.2 (54) = some (aI (60) (mf)) := (q_15.2 _ (by omega)).trans H_6
  have H_18 : h_14.2 (55) = some (aI (20) (sf)) := (q_15.2 _ (by omega)).trans H_7
  have H_19 : h_14.2 (56) = some (aG (5) (rf)) := (q_15.2 _ (by omega)).trans H_8
  have H_20 : h_14.2 (57) = some (aI (5) (pf)) := (q_15.2 _ (by omega)).trans H_9
  have H_21 : h_14.2 (58) = some (aI (5) (lf)) := (q_15.2 _ (by omega)).trans H_10
  have H_22 : Ext h_1 h_14 := Ext_tr H_11 q_15
  have H_23 : MS h_14 σ.1 := MS_ext q_15 (by omega) H_12
  have H_24 : MP h_14 σ ρ (nI 0) := MP_ext q_15 H_13
  have H_25 : h_14.2 (B) = some (aI (320) (fB)) := (q_15.2 _ (by omega)).trans kB
  refine J_iret (ty := .int) (pc := 102) dX3_would_102 rfl rfl ?_
  exact ⟨congrArg (fun z : Int32 => (Sum.inl (some (Value.int z)) : RT)) (by unfold wdS; rw [if_neg hg0]; rfl), FM_tr fm1 (FM_ext (by omega) H_22), ρ, H_24⟩

set_option maxHeartbeats 2000000 in
set_option maxRecDepth 20000 in
theorem m_would2 {g : GT} {dd : Nat} {h : MH} {σ : ST} {ρ : Nat → Nat} {th : Int32} (hP : MP h σ ρ th) {mo ls : Nat} (hm1 : 1 ≤ mo) (hm : mo ≤ 5) (hl1 : 1 ≤ ls) (hl : ls ≤ 6) (hg0 : gro σ.1 ≠ 0) : J g (dd + 12) (1 + (3 * (cnt (gro σ.1) * mo) + cnt (gro σ.1)) + (cnt (σ.1.2.1))) (320 + (11 * (cnt (gro σ.1) * mo) + 5 * cnt (gro σ.1)) + (3 * cnt (σ.1.2.1))) mX3_would 0 (lv_args 0 [.ref (53), .int (nI (mo)), .int (nI (ls)), .int (nI (2))]) [] h (RMo (.int (nI (wdS σ.1 mo ls 2))) h σ (nI 0)) := by
  have a40 := hP.2.2.2.1
  have hz0 := hP.2.2.1
  refine J_aload_n (i := 0) (pc := 0) dX3_would_0 rfl rfl ?_
  refine J_iconst (v := nI (0)) (pc := 1) dX3_would_1 rfl ?_
  refine J_putf (k := 0) (pc := 2) dX3_would_2 fpX3_would_34 (fun g => ⟨rfl, rfl⟩) a40 (Nat.le_of_ble_eq_true rfl) ?_
  obtain ⟨h_1, eh_1⟩ : ∃ z : MH, z = (h.1, hset h.2 (53) (oB 3 [.int (nI (0)), .int (nI (σ.1.1)), .ref (54), .ref (55), .int (nI (σ.1.2.1)), .int (nI (σ.2.1.2.1)), .int (nI (σ.2.1.2.2)), .int (nI (σ.2.1.1)), .ref (56), .ref (57), .ref (58)])) := ⟨_, rfl⟩
  refine J_heq (h2 := h_1) eh_1 ?_
  have zh_1 : h_1.1 = h.1 := by rw [eh_1]
  have H_2 : h_1.2 (53) = some (oB 3 [.int (nI (0)), .int (nI (σ.1.1)), .ref (54), .ref (55), .int (nI (σ.1.2.1)), .int (nI (σ.2.1.2.1)), .int (nI (σ.2.1.2.2)), .int (nI (σ.2.1.1)), .ref (56), .ref (57), .ref (58)]) := hs_s eh_1
  have hP1 : MP h_1 σ ρ (nI 0) := MP_53 hP eh_1
  have fm1 : FM h h_1 := FM_set eh_1 (by decide) (by decide)
  obtain ⟨a1, a2, a3, a4, ⟨mf, a5, a5b⟩, ⟨sf, a6, a6b⟩, ⟨rf, a7, a7b⟩, ⟨pf, a8, a8b⟩, ⟨lf, a9, a9b⟩, a10, a11⟩ := id hP1
  obtain ⟨o1, o2, o3, o4⟩ := id a2
  have hM := MP_MS hP1
  obtain ⟨hn, hc9, hm5, hs2⟩ := id a1
  have hp9 := pw_le hn
  have hg20 := gro_lt a1
  have hc1 : 1 ≤ cnt (gro σ.1) := cnt_pos hg20 hg0
  refine J_iload_n (i := 1) (pc := 5) dX3_would_5 rfl rfl ?_
  refine J_iconst (v := nI (1)) (pc := 6) dX3_would_6 rfl ?_
  refine J_iconst (v := nI (5)) (pc := 7) dX3_would_7 rfl ?_
  refine J_cSi (st := []) (As := [.int (nI (mo)), .int (nI (1)), .int (nI (5))]) (pc := 8) dX3_would_8 okX3_isIn q3_166 q3_167 rfl (Nat.le_of_ble_eq_true rfl) (Nat.le_of_ble_eq_true rfl) (m_inT (by omega) (by omega) (inZ_nI (by omega) (by omega) (by decide))) ?_
  refine J_if_eqN (tgt := 24) (pc := 11) dX3_would_11 (by decide) (by omega) (fun c11 => by exfalso; first | omega | simp_all) (fun c11 => ?_)
  refine J_iload_n (i := 2) (pc := 14) dX3_would_14 rfl rfl ?_
  refine J_iconst (v := nI (1)) (pc := 15) dX3_would_15 rfl ?_
  refine J_bipush (v := nI (6)) (pc := 16) dX3_would_16 rfl ?_
  refine J_cSi (st := []) (As := [.int (nI (ls)), .int (nI (1)), .int (nI (6))]) (pc := 18) dX3_would_18 okX3_isIn q3_166 q3_167 rfl (Nat.le_of_ble_eq_true rfl) (Nat.le_of_ble_eq_true rfl) (m_inT (by omega) (by omega) (inZ_nI (by omega) (by omega) (by decide))) ?_
  refine J_if_neN (tgt := 30) (pc := 21) dX3_would_21 (by decide) (by omega) (fun c21 => ?_) (fun c21 => by exfalso; first | omega | simp_all)
  refine J_iload_n (i := 3) (pc := 30) dX3_would_30 rfl rfl ?_
  refine J_iconst (v := nI (0)) (pc := 31) dX3_would_31 rfl ?_
  refine J_iconst (v := nI (2)) (pc := 32) dX3_would_32 rfl ?_
  refine J_cSi (st := []) (As := [.int (nI (2)), .int (nI (0)), .int (nI (2))]) (pc := 33) dX3_would_33 okX3_isIn q3_166 q3_167 rfl (Nat.le_of_ble_eq_true rfl) (Nat.le_of_ble_eq_true rfl) (m_inT (by omega) (by omega) (inZ_nI (by decide) (by decide) (by decide))) ?_
  refine J_if_neN (tgt := 45) (pc := 36) dX3_would_36 (by decide) (by omega) (fun c36 => ?_) (fun c36 => by exfalso; first | omega | simp_all)
  refine J_aload_n (i := 0) (pc := 45) dX3_would_45 rfl rfl ?_
  refine J_cVi (st := []) (As := []) (pc := 46) dX3_would_46 okX3_growing q3_199 q3_201 qs1_14 (rfl : vwCl[3]? = some _) a4 rfl (Nat.le_of_ble_eq_true rfl) (Nat.le_of_ble_eq_true rfl) (m_growing hM) ?_
  refine J_if_neN (tgt := 54) (pc := 49) dX3_would_49 (by decide) (by omega) (fun c49 => ?_) (fun c49 => absurd c49 (fun q => hg0 q))
  refine J_aload_n (i := 0) (pc := 54) dX3_would_54 rfl rfl ?_
  refine J_aload_n (i := 0) (pc := 55) dX3_would_55 rfl rfl ?_
  refine J_cVi (st := [.ref (53)]) (As := []) (pc := 56) dX3_would_56 okX3_growing q3_199 q3_201 qs1_14 (rfl : vwCl[3]? = some _) a4 rfl (Nat.le_of_ble_eq_true rfl) (Nat.le_of_ble_eq_true rfl) (m_growing hM) ?_
  refine J_iload_n (i := 1) (pc := 59) dX3_would_59 rfl rfl ?_
  refine J_iload_n (i := 2) (pc := 60) dX3_would_60 rfl rfl ?_
  refine J_cVB (st := []) (As := [.int (nI (gro σ.1)), .int (nI (mo)), .int (nI (ls))]) (v := some (.ref (h_1.1))) (ca1 := 1 + (3 * (cnt (gro σ.1) * mo) + cnt (gro σ.1))) (sa1 := 320 + (11 * (cnt (gro σ.1) * mo) + 5 * cnt (gro σ.1))) (ca2 := cnt (σ.1.2.1)) (sa2 := 3 * cnt (σ.1.2.1)) (pc := 61) dX3_would_61 okX3_grown q3_203 q3_205 qs1_15 (rfl : vwCl[3]? = some _) a4 rfl (Nat.le_of_ble_eq_true rfl) (Nat.le_of_ble_eq_true rfl) (m_grown (dd := dd) hM (by omega) (by omega) (by omega) (gro_n a1) hc1 (by omega)) (by omega) (by omega) (fun h_3 q_4 => ?_)
  obtain ⟨B, eB⟩ : ∃ z : Nat, z = h_1.1 := ⟨_, rfl⟩
  rw [← eB]
  obtain ⟨xB, zB, fB, kB, rwB⟩ := q_4
  rw [← eB] at kB zB
  have zh_3 := xB.1
  have H_5 : h_3.2 (53) = some (oB 3 [.int (nI (0)), .int (nI (σ.1.1)), .ref (54), .ref (55), .int (nI (σ.1.2.1)), .int (nI (σ.2.1.2.1)), .int (nI (σ.2.1.2.2)), .int (nI (σ.2.1.1)), .ref (56), .ref (57), .ref (58)]) := (xB.2 _ (by omega)).trans a4
  have H_6 : h_3.2 (54) = some (aI (60) (mf)) := (xB.2 _ (by omega)).trans a5
  have H_7 : h_3.2 (55) = some (aI (20) (sf)) := (xB.2 _ (by omega)).trans a6
  have H_8 : h_3.2 (56) = some (aG (5) (rf)) := (xB.2 _ (by omega)).trans a7
  have H_9 : h_3.2 (57) = some (aI (5) (pf)) := (xB.2 _ (by omega)).trans a8
  have H_10 : h_3.2 (58) = some (aI (5) (lf)) := (xB.2 _ (by omega)).trans a9
  have H_11 : Ext h_1 h_3 := Ext_tr Ext_rfl xB
  have H_12 : MS h_3 σ.1 := MS_ext xB (by omega) hM
  have H_13 : MP h_3 σ ρ (nI 0) := MP_ext xB hP1
  refine J_astore (i := 4) (lv' := [(4, .ref (B)), (0, .ref (53)), (1, .int (nI (mo))), (2, .int (nI (ls))), (3, .int (nI (2)))]) (pc := 64) dX3_would_64 (by decide) rfl ?_
  refine J_iload_n (i := 3) (pc := 66) dX3_would_66 rfl rfl ?_
  refine J_if_neN (tgt := 79) (pc := 67) dX3_would_67 (by decide) (by omega) (fun c67 => ?_) (fun c67 => by exfalso; first | omega | simp_all)
  refine J_aload_n (i := 0) (pc := 79) dX3_would_79 rfl rfl ?_
  refine J_aload (i := 4) (pc := 80) dX3_would_80 rfl ?_
  refine J_iconst (v := nI (1)) (pc := 82) dX3_would_82 rfl ?_
  refine J_iload_n (i := 3) (pc := 83) dX3_would_83 rfl rfl ?_
  refine J_iconst (v := nI (1)) (pc := 84) dX3_would_84 rfl ?_
  refine J_icmp_neN (tgt := 95) (pc := 85) dX3_would_85 (by decide) (by omega) (by omega) (fun c85 => ?_) (fun c85 => by exfalso; first | omega | simp_all)
  refine J_aload_n (i := 0) (pc := 95) dX3_would_95 rfl rfl ?_
  refine J_getf (k := 4) (pc := 96) dX3_would_96 flX3_47 H_5 rfl ?_
  refine J_cVB (st := []) (As := [.ref (B), .int (nI (1)), .int (nI (σ.1.2.1))]) (v := some (.int (nI (rgT σ.1 5 (grT σ.1 ls 5 mo (gro σ.1)) (σ.1.2.1))))) (ca1 := cnt (σ.1.2.1)) (sa1 := 3 * cnt (σ.1.2.1)) (ca2 := 0) (sa2 := 0) (pc := 99) dX3_would_99 okX3_right q4_23 q4_25 qs2_11 (rfl : vwCl[3]? = some _) H_5 rfl (Nat.le_of_ble_eq_true rfl) (Nat.le_of_ble_eq_true rfl) (m_right (dd := dd + 9) H_12 (by omega) kB (by omega) (by omega) rwB (ok_gr _ _ _ _ _) (by decide) (by decide)) (by omega) (by omega) (fun h_14 q_15 => ?_)
  have zh_14 := q_15.1
  have H_16 : h_14.2 (53) = some (oB 3 [.int (nI (0)), .int (nI (σ.1.1)), .ref (54), .ref (55), .int (nI (σ.1.2.1)), .int (nI (σ.2.1.2.1)), .int (nI (σ.2.1.2.2)), .int (nI (σ.2.1.1)), .ref (56), .ref (57), .ref (58)]) := (q_15.2 _ (by omega)).trans H_5
  have H_17 : h_14.2 (54) = some (aI (60) (mf)) := (q_15.2 _ (by omega)).trans H_6
  have H_18 : h_14.2 (55) = some (aI (20) (sf)) := (q_15.2 _ (by omega)).trans H_7
  have H_19 : h_14.2 (56) = some (aG (5) (rf)) := (q_15.2 _ (by omega)).trans H_8
  have H_20 : h_14.2 (57) = some (aI (5) (pf)) := (q_15.2 _ (by omega)).trans H_9
  have H_21 : h_14.2 (58) = some (aI (5) (lf)) := (q_15.2 _ (by omega)).trans H_10
  have H_22 : Ext h_1 h_14 := Ext_tr H_11 q_15
  have H_23 : MS h_14 σ.1 := MS_ext q_15 (by omega) H_12
  have H_24 : MP h_14 σ ρ (nI 0) := MP_ext q_15 H_13
  have H_25 : h_14.2 (B) = some (aI (320) (fB)) := (q_15.2 _ (by omega)).trans kB
  refine J_iret (ty := .int) (pc := 102) dX3_would_102 rfl rfl ?_
  exact ⟨congrArg (fun z : Int32 => (Sum.inl (some (Value.int z)) : RT)) (by unfold wdS; rw [if_neg hg0]; rfl), FM_tr fm1 (FM_ext (by omega) H_22), ρ, H_24⟩

set_option maxHeartbeats 2000000 in
set_option maxRecDepth 20000 in
theorem m_wouldZ {g : GT} {dd : Nat} {h : MH} {σ : ST} {ρ : Nat → Nat} {th : Int32} (hP : MP h σ ρ th) {mo ls ww : Nat} (hm1 : 1 ≤ mo) (hm : mo ≤ 5) (hl1 : 1 ≤ ls) (hl : ls ≤ 6) (hww : ww ≤ 2) (hg0 : gro σ.1 = 0) : J g (dd + 12) 0 0 mX3_would 0 (lv_args 0 [.ref (53), .int (nI (mo)), .int (nI (ls)), .int (nI (ww))]) [] h (RMo (.int (nI 0)) h σ (nI 0)) := by
  have a40 := hP.2.2.2.1
  have hz0 := hP.2.2.1
  refine J_aload_n (i := 0) (pc := 0) dX3_would_0 rfl rfl ?_
  refine J_iconst (v := nI (0)) (pc := 1) dX3_would_1 rfl ?_
  refine J_putf (k := 0) (pc := 2) dX3_would_2 fpX3_would_34 (fun g => ⟨rfl, rfl⟩) a40 (Nat.le_of_ble_eq_true rfl) ?_
  obtain ⟨h_1, eh_1⟩ : ∃ z : MH, z = (h.1, hset h.2 (53) (oB 3 [.int (nI (0)), .int (nI (σ.1.1)), .ref (54), .ref (55), .int (nI (σ.1.2.1)), .int (nI (σ.2.1.2.1)), .int (nI (σ.2.1.2.2)), .int (nI (σ.2.1.1)), .ref (56), .ref (57), .ref (58)])) := ⟨_, rfl⟩
  refine J_heq (h2 := h_1) eh_1 ?_
  have zh_1 : h_1.1 = h.1 := by rw [eh_1]
  have H_2 : h_1.2 (53) = some (oB 3 [.int (nI (0)), .int (nI (σ.1.1)), .ref (54), .ref (55), .int (nI (σ.1.2.1)), .int (nI (σ.2.1.2.1)), .int (nI (σ.2.1.2.2)), .int (nI (σ.2.1.1)), .ref (56), .ref (57), .ref (58)]) := hs_s eh_1
  have hP1 : MP h_1 σ ρ (nI 0) := MP_53 hP eh_1
  have fm1 : FM h h_1 := FM_set eh_1 (by decide) (by decide)
  obtain ⟨a1, a2, a3, a4, ⟨mf, a5, a5b⟩, ⟨sf, a6, a6b⟩, ⟨rf, a7, a7b⟩, ⟨pf, a8, a8b⟩, ⟨lf, a9, a9b⟩, a10, a11⟩ := id hP1
  obtain ⟨o1, o2, o3, o4⟩ := id a2
  have hM := MP_MS hP1
  obtain ⟨hn, hc9, hm5, hs2⟩ := id a1
  have hp9 := pw_le hn
  have hg20 := gro_lt a1
  refine J_iload_n (i := 1) (pc := 5) dX3_would_5 rfl rfl ?_
  refine J_iconst (v := nI (1)) (pc := 6) dX3_would_6 rfl ?_
  refine J_iconst (v := nI (5)) (pc := 7) dX3_would_7 rfl ?_
  refine J_cSi (st := []) (As := [.int (nI (mo)), .int (nI (1)), .int (nI (5))]) (pc := 8) dX3_would_8 okX3_isIn q3_166 q3_167 rfl (Nat.le_of_ble_eq_true rfl) (Nat.le_of_ble_eq_true rfl) (m_inT (by omega) (by omega) (inZ_nI (by omega) (by omega) (by decide))) ?_
  refine J_if_eqN (tgt := 24) (pc := 11) dX3_would_11 (by decide) (by omega) (fun c11 => by exfalso; first | omega | simp_all) (fun c11 => ?_)
  refine J_iload_n (i := 2) (pc := 14) dX3_would_14 rfl rfl ?_
  refine J_iconst (v := nI (1)) (pc := 15) dX3_would_15 rfl ?_
  refine J_bipush (v := nI (6)) (pc := 16) dX3_would_16 rfl ?_
  refine J_cSi (st := []) (As := [.int (nI (ls)), .int (nI (1)), .int (nI (6))]) (pc := 18) dX3_would_18 okX3_isIn q3_166 q3_167 rfl (Nat.le_of_ble_eq_true rfl) (Nat.le_of_ble_eq_true rfl) (m_inT (by omega) (by omega) (inZ_nI (by omega) (by omega) (by decide))) ?_
  refine J_if_neN (tgt := 30) (pc := 21) dX3_would_21 (by decide) (by omega) (fun c21 => ?_) (fun c21 => by exfalso; first | omega | simp_all)
  refine J_iload_n (i := 3) (pc := 30) dX3_would_30 rfl rfl ?_
  refine J_iconst (v := nI (0)) (pc := 31) dX3_would_31 rfl ?_
  refine J_iconst (v := nI (2)) (pc := 32) dX3_would_32 rfl ?_
  refine J_cSi (st := []) (As := [.int (nI (ww)), .int (nI (0)), .int (nI (2))]) (pc := 33) dX3_would_33 okX3_isIn q3_166 q3_167 rfl (Nat.le_of_ble_eq_true rfl) (Nat.le_of_ble_eq_true rfl) (m_inT (by omega) (by omega) (inZ_nI (by omega) (by omega) (by decide))) ?_
  refine J_if_neN (tgt := 45) (pc := 36) dX3_would_36 (by decide) (by omega) (fun c36 => ?_) (fun c36 => by exfalso; first | omega | simp_all)
  refine J_aload_n (i := 0) (pc := 45) dX3_would_45 rfl rfl ?_
  refine J_cVi (st := []) (As := []) (pc := 46) dX3_would_46 okX3_growing q3_199 q3_201 qs1_14 (rfl : vwCl[3]? = some _) a4 rfl (Nat.le_of_ble_eq_true rfl) (Nat.le_of_ble_eq_true rfl) (m_growing hM) ?_
  refine J_if_neN (tgt := 54) (pc := 49) dX3_would_49 (by decide) (by omega) (fun c49 => absurd c49 (fun q => q hg0)) (fun c49 => ?_)
  refine J_iconst (v := nI (0)) (pc := 52) dX3_would_52 rfl ?_
  refine J_iret (ty := .int) (pc := 53) dX3_would_53 rfl rfl ?_
  exact ⟨rfl, FM_tr fm1 (FM_ext (by omega) Ext_rfl), ρ, hP1⟩

set_option maxHeartbeats 2000000 in
set_option maxRecDepth 20000 in
theorem m_wouldX1 {g : GT} {dd : Nat} {h : MH} {σ : ST} {ρ : Nat → Nat} {th : Int32} (hP : MP h σ ρ th) {mo ls what : Int32} (hx : ¬ inZ 1 5 mo) : J g (dd + 12) 0 0 mX3_would 0 (lv_args 0 [.ref (53), .int (mo), .int (ls), .int (what)]) [] h (RMo (.int (nI 0)) h σ (nI 1)) := by
  have a40 := hP.2.2.2.1
  have hz0 := hP.2.2.1
  refine J_aload_n (i := 0) (pc := 0) dX3_would_0 rfl rfl ?_
  refine J_iconst (v := nI (0)) (pc := 1) dX3_would_1 rfl ?_
  refine J_putf (k := 0) (pc := 2) dX3_would_2 fpX3_would_34 (fun g => ⟨rfl, rfl⟩) a40 (Nat.le_of_ble_eq_true rfl) ?_
  obtain ⟨h_1, eh_1⟩ : ∃ z : MH, z = (h.1, hset h.2 (53) (oB 3 [.int (nI (0)), .int (nI (σ.1.1)), .ref (54), .ref (55), .int (nI (σ.1.2.1)), .int (nI (σ.2.1.2.1)), .int (nI (σ.2.1.2.2)), .int (nI (σ.2.1.1)), .ref (56), .ref (57), .ref (58)])) := ⟨_, rfl⟩
  refine J_heq (h2 := h_1) eh_1 ?_
  have zh_1 : h_1.1 = h.1 := by rw [eh_1]
  have H_2 : h_1.2 (53) = some (oB 3 [.int (nI (0)), .int (nI (σ.1.1)), .ref (54), .ref (55), .int (nI (σ.1.2.1)), .int (nI (σ.2.1.2.1)), .int (nI (σ.2.1.2.2)), .int (nI (σ.2.1.1)), .ref (56), .ref (57), .ref (58)]) := hs_s eh_1
  have hP1 : MP h_1 σ ρ (nI 0) := MP_53 hP eh_1
  have fm1 : FM h h_1 := FM_set eh_1 (by decide) (by decide)
  obtain ⟨a1, a2, a3, a4, ⟨mf, a5, a5b⟩, ⟨sf, a6, a6b⟩, ⟨rf, a7, a7b⟩, ⟨pf, a8, a8b⟩, ⟨lf, a9, a9b⟩, a10, a11⟩ := id hP1
  obtain ⟨o1, o2, o3, o4⟩ := id a2
  have hM := MP_MS hP1
  obtain ⟨hn, hc9, hm5, hs2⟩ := id a1
  have hp9 := pw_le hn
  refine J_iload_n (i := 1) (pc := 5) dX3_would_5 rfl rfl ?_
  refine J_iconst (v := nI (1)) (pc := 6) dX3_would_6 rfl ?_
  refine J_iconst (v := nI (5)) (pc := 7) dX3_would_7 rfl ?_
  refine J_cSi (st := []) (As := [.int (mo), .int (nI (1)), .int (nI (5))]) (pc := 8) dX3_would_8 okX3_isIn q3_166 q3_167 rfl (Nat.le_of_ble_eq_true rfl) (Nat.le_of_ble_eq_true rfl) (m_inF (by omega) (by omega) (hx)) ?_
  refine J_if_eqN (tgt := 24) (pc := 11) dX3_would_11 (by decide) (by omega) (fun c11 => ?_) (fun c11 => by exfalso; first | omega | simp_all)
  refine J_aload_n (i := 0) (pc := 24) dX3_would_24 rfl rfl ?_
  refine J_iconst (v := nI (1)) (pc := 25) dX3_would_25 rfl ?_
  refine J_cVh (st := []) (As := [.int (nI (1))]) (pc := 26) dX3_would_26 okX3_no q3_169 q3_171 qs1_13 (rfl : vwCl[3]? = some _) a4 rfl (Nat.le_of_ble_eq_true rfl) (Nat.le_of_ble_eq_true rfl) (m_no hP1) (fun h_3 q_4 => ?_)
  refine J_iret (ty := .int) (pc := 29) dX3_would_29 rfl rfl ?_
  exact ⟨rfl, FM_tr fm1 (FM_tr (FM_ext (by omega) Ext_rfl) q_4.1), ρ, q_4.2⟩

set_option maxHeartbeats 2000000 in
set_option maxRecDepth 20000 in
theorem m_wouldX2 {g : GT} {dd : Nat} {h : MH} {σ : ST} {ρ : Nat → Nat} {th : Int32} (hP : MP h σ ρ th) {mo ls what : Int32} (hx : inZ 1 5 mo) (hl : ¬ inZ 1 6 ls) : J g (dd + 12) 0 0 mX3_would 0 (lv_args 0 [.ref (53), .int (mo), .int (ls), .int (what)]) [] h (RMo (.int (nI 0)) h σ (nI 1)) := by
  have a40 := hP.2.2.2.1
  have hz0 := hP.2.2.1
  refine J_aload_n (i := 0) (pc := 0) dX3_would_0 rfl rfl ?_
  refine J_iconst (v := nI (0)) (pc := 1) dX3_would_1 rfl ?_
  refine J_putf (k := 0) (pc := 2) dX3_would_2 fpX3_would_34 (fun g => ⟨rfl, rfl⟩) a40 (Nat.le_of_ble_eq_true rfl) ?_
  obtain ⟨h_1, eh_1⟩ : ∃ z : MH, z = (h.1, hset h.2 (53) (oB 3 [.int (nI (0)), .int (nI (σ.1.1)), .ref (54), .ref (55), .int (nI (σ.1.2.1)), .int (nI (σ.2.1.2.1)), .int (nI (σ.2.1.2.2)), .int (nI (σ.2.1.1)), .ref (56), .ref (57), .ref (58)])) := ⟨_, rfl⟩
  refine J_heq (h2 := h_1) eh_1 ?_
  have zh_1 : h_1.1 = h.1 := by rw [eh_1]
  have H_2 : h_1.2 (53) = some (oB 3 [.int (nI (0)), .int (nI (σ.1.1)), .ref (54), .ref (55), .int (nI (σ.1.2.1)), .int (nI (σ.2.1.2.1)), .int (nI (σ.2.1.2.2)), .int (nI (σ.2.1.1)), .ref (56), .ref (57), .ref (58)]) := hs_s eh_1
  have hP1 : MP h_1 σ ρ (nI 0) := MP_53 hP eh_1
  have fm1 : FM h h_1 := FM_set eh_1 (by decide) (by decide)
  obtain ⟨a1, a2, a3, a4, ⟨mf, a5, a5b⟩, ⟨sf, a6, a6b⟩, ⟨rf, a7, a7b⟩, ⟨pf, a8, a8b⟩, ⟨lf, a9, a9b⟩, a10, a11⟩ := id hP1
  obtain ⟨o1, o2, o3, o4⟩ := id a2
  have hM := MP_MS hP1
  obtain ⟨hn, hc9, hm5, hs2⟩ := id a1
  have hp9 := pw_le hn
  refine J_iload_n (i := 1) (pc := 5) dX3_would_5 rfl rfl ?_
  refine J_iconst (v := nI (1)) (pc := 6) dX3_would_6 rfl ?_
  refine J_iconst (v := nI (5)) (pc := 7) dX3_would_7 rfl ?_
  refine J_cSi (st := []) (As := [.int (mo), .int (nI (1)), .int (nI (5))]) (pc := 8) dX3_would_8 okX3_isIn q3_166 q3_167 rfl (Nat.le_of_ble_eq_true rfl) (Nat.le_of_ble_eq_true rfl) (m_inT (by omega) (by omega) (hx)) ?_
  refine J_if_eqN (tgt := 24) (pc := 11) dX3_would_11 (by decide) (by omega) (fun c11 => by exfalso; first | omega | simp_all) (fun c11 => ?_)
  refine J_iload_n (i := 2) (pc := 14) dX3_would_14 rfl rfl ?_
  refine J_iconst (v := nI (1)) (pc := 15) dX3_would_15 rfl ?_
  refine J_bipush (v := nI (6)) (pc := 16) dX3_would_16 rfl ?_
  refine J_cSi (st := []) (As := [.int (ls), .int (nI (1)), .int (nI (6))]) (pc := 18) dX3_would_18 okX3_isIn q3_166 q3_167 rfl (Nat.le_of_ble_eq_true rfl) (Nat.le_of_ble_eq_true rfl) (m_inF (by omega) (by omega) (hl)) ?_
  refine J_if_neN (tgt := 30) (pc := 21) dX3_would_21 (by decide) (by omega) (fun c21 => by exfalso; first | omega | simp_all) (fun c21 => ?_)
  refine J_aload_n (i := 0) (pc := 24) dX3_would_24 rfl rfl ?_
  refine J_iconst (v := nI (1)) (pc := 25) dX3_would_25 rfl ?_
  refine J_cVh (st := []) (As := [.int (nI (1))]) (pc := 26) dX3_would_26 okX3_no q3_169 q3_171 qs1_13 (rfl : vwCl[3]? = some _) a4 rfl (Nat.le_of_ble_eq_true rfl) (Nat.le_of_ble_eq_true rfl) (m_no hP1) (fun h_3 q_4 => ?_)
  refine J_iret (ty := .int) (pc := 29) dX3_would_29 rfl rfl ?_
  exact ⟨rfl, FM_tr fm1 (FM_tr (FM_ext (by omega) Ext_rfl) q_4.1), ρ, q_4.2⟩

set_option maxHeartbeats 2000000 in
set_option maxRecDepth 20000 in
theorem m_wouldX3 {g : GT} {dd : Nat} {h : MH} {σ : ST} {ρ : Nat → Nat} {th : Int32} (hP : MP h σ ρ th) {mo ls what : Int32} (hx : inZ 1 5 mo) (hl : inZ 1 6 ls) (hw : ¬ inZ 0 2 what) : J g (dd + 12) 0 0 mX3_would 0 (lv_args 0 [.ref (53), .int (mo), .int (ls), .int (what)]) [] h (RMo (.int (nI 0)) h σ (nI 2)) := by
  have a40 := hP.2.2.2.1
  have hz0 := hP.2.2.1
  refine J_aload_n (i := 0) (pc := 0) dX3_would_0 rfl rfl ?_
  refine J_iconst (v := nI (0)) (pc := 1) dX3_would_1 rfl ?_
  refine J_putf (k := 0) (pc := 2) dX3_would_2 fpX3_would_34 (fun g => ⟨rfl, rfl⟩) a40 (Nat.le_of_ble_eq_true rfl) ?_
  obtain ⟨h_1, eh_1⟩ : ∃ z : MH, z = (h.1, hset h.2 (53) (oB 3 [.int (nI (0)), .int (nI (σ.1.1)), .ref (54), .ref (55), .int (nI (σ.1.2.1)), .int (nI (σ.2.1.2.1)), .int (nI (σ.2.1.2.2)), .int (nI (σ.2.1.1)), .ref (56), .ref (57), .ref (58)])) := ⟨_, rfl⟩
  refine J_heq (h2 := h_1) eh_1 ?_
  have zh_1 : h_1.1 = h.1 := by rw [eh_1]
  have H_2 : h_1.2 (53) = some (oB 3 [.int (nI (0)), .int (nI (σ.1.1)), .ref (54), .ref (55), .int (nI (σ.1.2.1)), .int (nI (σ.2.1.2.1)), .int (nI (σ.2.1.2.2)), .int (nI (σ.2.1.1)), .ref (56), .ref (57), .ref (58)]) := hs_s eh_1
  have hP1 : MP h_1 σ ρ (nI 0) := MP_53 hP eh_1
  have fm1 : FM h h_1 := FM_set eh_1 (by decide) (by decide)
  obtain ⟨a1, a2, a3, a4, ⟨mf, a5, a5b⟩, ⟨sf, a6, a6b⟩, ⟨rf, a7, a7b⟩, ⟨pf, a8, a8b⟩, ⟨lf, a9, a9b⟩, a10, a11⟩ := id hP1
  obtain ⟨o1, o2, o3, o4⟩ := id a2
  have hM := MP_MS hP1
  obtain ⟨hn, hc9, hm5, hs2⟩ := id a1
  have hp9 := pw_le hn
  refine J_iload_n (i := 1) (pc := 5) dX3_would_5 rfl rfl ?_
  refine J_iconst (v := nI (1)) (pc := 6) dX3_would_6 rfl ?_
  refine J_iconst (v := nI (5)) (pc := 7) dX3_would_7 rfl ?_
  refine J_cSi (st := []) (As := [.int (mo), .int (nI (1)), .int (nI (5))]) (pc := 8) dX3_would_8 okX3_isIn q3_166 q3_167 rfl (Nat.le_of_ble_eq_true rfl) (Nat.le_of_ble_eq_true rfl) (m_inT (by omega) (by omega) (hx)) ?_
  refine J_if_eqN (tgt := 24) (pc := 11) dX3_would_11 (by decide) (by omega) (fun c11 => by exfalso; first | omega | simp_all) (fun c11 => ?_)
  refine J_iload_n (i := 2) (pc := 14) dX3_would_14 rfl rfl ?_
  refine J_iconst (v := nI (1)) (pc := 15) dX3_would_15 rfl ?_
  refine J_bipush (v := nI (6)) (pc := 16) dX3_would_16 rfl ?_
  refine J_cSi (st := []) (As := [.int (ls), .int (nI (1)), .int (nI (6))]) (pc := 18) dX3_would_18 okX3_isIn q3_166 q3_167 rfl (Nat.le_of_ble_eq_true rfl) (Nat.le_of_ble_eq_true rfl) (m_inT (by omega) (by omega) (hl)) ?_
  refine J_if_neN (tgt := 30) (pc := 21) dX3_would_21 (by decide) (by omega) (fun c21 => ?_) (fun c21 => by exfalso; first | omega | simp_all)
  refine J_iload_n (i := 3) (pc := 30) dX3_would_30 rfl rfl ?_
  refine J_iconst (v := nI (0)) (pc := 31) dX3_would_31 rfl ?_
  refine J_iconst (v := nI (2)) (pc := 32) dX3_would_32 rfl ?_
  refine J_cSi (st := []) (As := [.int (what), .int (nI (0)), .int (nI (2))]) (pc := 33) dX3_would_33 okX3_isIn q3_166 q3_167 rfl (Nat.le_of_ble_eq_true rfl) (Nat.le_of_ble_eq_true rfl) (m_inF (by omega) (by omega) (hw)) ?_
  refine J_if_neN (tgt := 45) (pc := 36) dX3_would_36 (by decide) (by omega) (fun c36 => by exfalso; first | omega | simp_all) (fun c36 => ?_)
  refine J_aload_n (i := 0) (pc := 39) dX3_would_39 rfl rfl ?_
  refine J_iconst (v := nI (2)) (pc := 40) dX3_would_40 rfl ?_
  refine J_cVh (st := []) (As := [.int (nI (2))]) (pc := 41) dX3_would_41 okX3_no q3_169 q3_171 qs1_13 (rfl : vwCl[3]? = some _) a4 rfl (Nat.le_of_ble_eq_true rfl) (Nat.le_of_ble_eq_true rfl) (m_no hP1) (fun h_3 q_4 => ?_)
  refine J_iret (ty := .int) (pc := 44) dX3_would_44 rfl rfl ?_
  exact ⟨rfl, FM_tr fm1 (FM_tr (FM_ext (by omega) Ext_rfl) q_4.1), ρ, q_4.2⟩

