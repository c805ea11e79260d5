-- the reference: its writers
theorem FM_st {h0 h h1 : MH} {i : Nat} {c : MC} (k : FM h0 h) (hi : 53 ≤ i) (h9 : i ≠ 59) (e : h1 = (h.1, hset h.2 i c)) : FM h0 h1 := FM_tr k (FM_set e hi h9)
theorem FM_new {h0 h h1 : MH} {A : Nat} {c : MC} (k : FM h0 h) (hz : 60 ≤ h.1) (eA : A = h.1) (e : h1 = (A + 1, hset h.2 A c)) : FM h0 h1 := FM_tr k (FM_ext hz (Ext_new Ext_rfl eA e))
/-- the state's pieces of another heap -/
theorem MP_mk {h h' : MH} {σ σ' : ST} {ρ ρ' : Nat → Nat} {th : Int32} (hW : WF σ'.1) (ok : okS σ') (hz : 60 ≤ h'.1) (c53 : h'.2 53 = some (oB 3 [.int th, .int (nI σ'.1.1), .ref 54, .ref 55, .int (nI σ'.1.2.1), .int (nI σ'.2.1.2.1), .int (nI σ'.2.1.2.2), .int (nI σ'.2.1.1), .ref 56, .ref 57, .ref 58]))
    (c54 : ∃ mf, h'.2 54 = some (aI 60 mf) ∧ ∀ m k, m < 3 → k < σ'.1.1 → mf (3 * k + m) = nI (σ'.1.2.2.1 m k)) (c55 : ∃ sf, h'.2 55 = some (aI 20 sf) ∧ ∀ k, k < σ'.1.1 → sf k = nI (σ'.1.2.2.2 k)) (c56 : ∃ rf, h'.2 56 = some (aG 5 rf) ∧ ∀ i, i < σ'.2.1.1 → rf i = some (ρ' i)) (c57 : ∃ pf, h'.2 57 = some (aI 5 pf) ∧ ∀ i, i < σ'.2.1.1 → pf i = σ'.2.2.2.1 i) (c58 : ∃ lf, h'.2 58 = some (aI 5 lf) ∧ ∀ i, i < σ'.2.1.1 → lf i = σ'.2.2.2.2 i)
    (hr : ∀ i, i < σ'.2.1.1 → 60 ≤ ρ' i ∧ ρ' i < h'.1 ∧ ∃ f, h'.2 (ρ' i) = some (aI 320 f) ∧ RW f 5 1 (σ'.2.2.1 i)) (hi : ∀ i j, i < σ'.2.1.1 → j < σ'.2.1.1 → ρ' i = ρ' j → i = j) : MP h' σ' ρ' th := ⟨hW, ok, hz, c53, c54, c55, c56, c57, c58, hr, hi⟩

set_option maxHeartbeats 2000000 in
set_option maxRecDepth 20000 in
theorem m_setDepth {g : GT} {dd : Nat} {h : MH} {σ : ST} {ρ : Nat → Nat} {th : Int32} (hP : MP h σ ρ th) {m : Nat} (hm1 : 1 ≤ m) (hm : m ≤ 5) : J g (dd + 1) 0 0 mX3_setDepth 0 (lv_args 0 [.ref (53), .int (nI (m))]) [] h (RMo (.int (nI σ.2.1.2.1)) h ((σ.1, (σ.2.1.1, m, σ.2.1.2.2), σ.2.2)) (nI 0)) := by
  have a40 := hP.2.2.2.1
  have hz0 := hP.2.2.1
  refine J_aload_n (i := 0) (pc := 0) dX3_setDepth_0 rfl rfl ?_
  refine J_iconst (v := nI (0)) (pc := 1) dX3_setDepth_1 rfl ?_
  refine J_putf (k := 0) (pc := 2) dX3_setDepth_2 fpX3_setDepth_34 (fun g => ⟨rfl, rfl⟩) a40 (Nat.le_of_ble_eq_true rfl) ?_
  obtain ⟨h_1, eh_1⟩ : ∃ z : MH, z = (h.1, hset h.2 (53) (oB 3 [.int (nI (0)), .int (nI (σ.1.1)), .ref (54), .ref (55), .int (nI (σ.1.2.1)), .int (nI (σ.2.1.2.1)), .int (nI (σ.2.1.2.2)), .int (nI (σ.2.1.1)), .ref (56), .ref (57), .ref (58)])) := ⟨_, rfl⟩
  refine J_heq (h2 := h_1) eh_1 ?_
  have zh_1 : h_1.1 = h.1 := by rw [eh_1]
  have H_2 : h_1.2 (53) = some (oB 3 [.int (nI (0)), .int (nI (σ.1.1)), .ref (54), .ref (55), .int (nI (σ.1.2.1)), .int (nI (σ.2.1.2.1)), .int (nI (σ.2.1.2.2)), .int (nI (σ.2.1.1)), .ref (56), .ref (57), .ref (58)]) := hs_s eh_1
  have hP1 : MP h_1 σ ρ (nI 0) := MP_53 hP eh_1
  have fm1 : FM h h_1 := FM_set eh_1 (by decide) (by decide)
  obtain ⟨a1, a2, a3, a4, ⟨mf, a5, a5b⟩, ⟨sf, a6, a6b⟩, ⟨rf, a7, a7b⟩, ⟨pf, a8, a8b⟩, ⟨lf, a9, a9b⟩, a10, a11⟩ := id hP1
  obtain ⟨o1, o2, o3, o4⟩ := id a2
  have hM := MP_MS hP1
  obtain ⟨hn, hc9, hm5, hs2⟩ := id a1
  have hp9 := pw_le hn
  refine J_iload_n (i := 1) (pc := 5) dX3_setDepth_5 rfl rfl ?_
  refine J_iconst (v := nI (1)) (pc := 6) dX3_setDepth_6 rfl ?_
  refine J_iconst (v := nI (5)) (pc := 7) dX3_setDepth_7 rfl ?_
  refine J_cSi (st := []) (As := [.int (nI (m)), .int (nI (1)), .int (nI (5))]) (pc := 8) dX3_setDepth_8 okX3_isIn q3_166 q3_167 rfl (Nat.le_of_ble_eq_true rfl) (Nat.le_of_ble_eq_true rfl) (m_inT (by omega) (by omega) (inZ_nI (by omega) (by omega) (by decide))) ?_
  refine J_if_neN (tgt := 20) (pc := 11) dX3_setDepth_11 (by decide) (by omega) (fun c11 => ?_) (fun c11 => by exfalso; first | omega | simp_all)
  refine J_aload_n (i := 0) (pc := 20) dX3_setDepth_20 rfl rfl ?_
  refine J_getf (k := 5) (pc := 21) dX3_setDepth_21 flX3_16 a4 rfl ?_
  refine J_istore_n (i := 2) (lv' := [(2, .int (nI (σ.2.1.2.1))), (0, .ref (53)), (1, .int (nI (m)))]) (pc := 24) dX3_setDepth_24 rfl (by decide) rfl ?_
  refine J_aload_n (i := 0) (pc := 25) dX3_setDepth_25 rfl rfl ?_
  refine J_iload_n (i := 1) (pc := 26) dX3_setDepth_26 rfl rfl ?_
  refine J_putf (k := 5) (pc := 27) dX3_setDepth_27 fpX3_setDepth_16 (fun g => ⟨rfl, rfl⟩) a4 (Nat.le_of_ble_eq_true rfl) ?_
  obtain ⟨h_3, eh_3⟩ : ∃ z : MH, z = (h_1.1, hset h_1.2 (53) (oB 3 [.int (nI (0)), .int (nI (σ.1.1)), .ref (54), .ref (55), .int (nI (σ.1.2.1)), .int (nI (m)), .int (nI (σ.2.1.2.2)), .int (nI (σ.2.1.1)), .ref (56), .ref (57), .ref (58)])) := ⟨_, rfl⟩
  refine J_heq (h2 := h_3) eh_3 ?_
  have zh_3 : h_3.1 = h_1.1 := by rw [eh_3]
  have H_4 : h_3.2 (53) = some (oB 3 [.int (nI (0)), .int (nI (σ.1.1)), .ref (54), .ref (55), .int (nI (σ.1.2.1)), .int (nI (m)), .int (nI (σ.2.1.2.2)), .int (nI (σ.2.1.1)), .ref (56), .ref (57), .ref (58)]) := hs_s eh_3
  have H_5 : h_3.2 (54) = some (aI (60) (mf)) := (hs_n eh_3 (by omega)).trans a5
  have H_6 : h_3.2 (55) = some (aI (20) (sf)) := (hs_n eh_3 (by omega)).trans a6
  have H_7 : h_3.2 (56) = some (aG (5) (rf)) := (hs_n eh_3 (by omega)).trans a7
  have H_8 : h_3.2 (57) = some (aI (5) (pf)) := (hs_n eh_3 (by omega)).trans a8
  have H_9 : h_3.2 (58) = some (aI (5) (lf)) := (hs_n eh_3 (by omega)).trans a9
  have H_10 : FM h h_3 := by rw [eh_3]; exact FM_st fm1 (by omega) (by omega) rfl
  have H_11 : (∀ i, 60 ≤ i → i < h_1.1 → h_3.2 i = h_1.2 i) := by rw [eh_3]; exact (fun i i1 i2 => (hset_n (by omega)).trans ((fun i _ _ => rfl) i i1 i2))
  refine J_iload_n (i := 2) (pc := 30) dX3_setDepth_30 rfl rfl ?_
  refine J_iret (ty := .int) (pc := 31) dX3_setDepth_31 rfl rfl ?_
  exact ⟨rfl, H_10, ρ, MP_mk (h := h) (σ := σ) (σ' := (σ.1, (σ.2.1.1, m, σ.2.1.2.2), σ.2.2)) (ρ := ρ) a1 ⟨o1, ⟨hm1, hm⟩, o3, o4⟩ (by omega) H_4 ⟨mf, H_5, a5b⟩ ⟨sf, H_6, a6b⟩ ⟨rf, H_7, a7b⟩ ⟨pf, H_8, a8b⟩ ⟨lf, H_9, a9b⟩ (fun i hi => by obtain ⟨b1, b2, f, b3, b4⟩ := a10 i hi; exact ⟨b1, by omega, f, (H_11 _ b1 b2).trans b3, b4⟩) a11⟩

set_option maxHeartbeats 2000000 in
set_option maxRecDepth 20000 in
theorem m_setDepthX1 {g : GT} {dd : Nat} {h : MH} {σ : ST} {ρ : Nat → Nat} {th : Int32} (hP : MP h σ ρ th) {x : Int32} (hx : ¬ inZ 1 5 x) : J g (dd + 1) 0 0 mX3_setDepth 0 (lv_args 0 [.ref (53), .int (x)]) [] h (RMo (.int (nI 0)) h σ (nI 1)) := by
  have a40 := hP.2.2.2.1
  have hz0 := hP.2.2.1
  refine J_aload_n (i := 0) (pc := 0) dX3_setDepth_0 rfl rfl ?_
  refine J_iconst (v := nI (0)) (pc := 1) dX3_setDepth_1 rfl ?_
  refine J_putf (k := 0) (pc := 2) dX3_setDepth_2 fpX3_setDepth_34 (fun g => ⟨rfl, rfl⟩) a40 (Nat.le_of_ble_eq_true rfl) ?_
  obtain ⟨h_1, eh_1⟩ : ∃ z : MH, z = (h.1, hset h.2 (53) (oB 3 [.int (nI (0)), .int (nI (σ.1.1)), .ref (54), .ref (55), .int (nI (σ.1.2.1)), .int (nI (σ.2.1.2.1)), .int (nI (σ.2.1.2.2)), .int (nI (σ.2.1.1)), .ref (56), .ref (57), .ref (58)])) := ⟨_, rfl⟩
  refine J_heq (h2 := h_1) eh_1 ?_
  have zh_1 : h_1.1 = h.1 := by rw [eh_1]
  have H_2 : h_1.2 (53) = some (oB 3 [.int (nI (0)), .int (nI (σ.1.1)), .ref (54), .ref (55), .int (nI (σ.1.2.1)), .int (nI (σ.2.1.2.1)), .int (nI (σ.2.1.2.2)), .int (nI (σ.2.1.1)), .ref (56), .ref (57), .ref (58)]) := hs_s eh_1
  have hP1 : MP h_1 σ ρ (nI 0) := MP_53 hP eh_1
  have fm1 : FM h h_1 := FM_set eh_1 (by decide) (by decide)
  obtain ⟨a1, a2, a3, a4, ⟨mf, a5, a5b⟩, ⟨sf, a6, a6b⟩, ⟨rf, a7, a7b⟩, ⟨pf, a8, a8b⟩, ⟨lf, a9, a9b⟩, a10, a11⟩ := id hP1
  obtain ⟨o1, o2, o3, o4⟩ := id a2
  have hM := MP_MS hP1
  obtain ⟨hn, hc9, hm5, hs2⟩ := id a1
  have hp9 := pw_le hn
  refine J_iload_n (i := 1) (pc := 5) dX3_setDepth_5 rfl rfl ?_
  refine J_iconst (v := nI (1)) (pc := 6) dX3_setDepth_6 rfl ?_
  refine J_iconst (v := nI (5)) (pc := 7) dX3_setDepth_7 rfl ?_
  refine J_cSi (st := []) (As := [.int (x), .int (nI (1)), .int (nI (5))]) (pc := 8) dX3_setDepth_8 okX3_isIn q3_166 q3_167 rfl (Nat.le_of_ble_eq_true rfl) (Nat.le_of_ble_eq_true rfl) (m_inF (by omega) (by omega) (hx)) ?_
  refine J_if_neN (tgt := 20) (pc := 11) dX3_setDepth_11 (by decide) (by omega) (fun c11 => by exfalso; first | omega | simp_all) (fun c11 => ?_)
  refine J_aload_n (i := 0) (pc := 14) dX3_setDepth_14 rfl rfl ?_
  refine J_iconst (v := nI (1)) (pc := 15) dX3_setDepth_15 rfl ?_
  refine J_cVh (st := []) (As := [.int (nI (1))]) (pc := 16) dX3_setDepth_16 okX3_no q3_169 q3_171 qs1_13 (rfl : vwCl[3]? = some _) a4 rfl (Nat.le_of_ble_eq_true rfl) (Nat.le_of_ble_eq_true rfl) (m_no hP1) (fun h_3 q_4 => ?_)
  refine J_iret (ty := .int) (pc := 19) dX3_setDepth_19 rfl rfl ?_
  exact ⟨rfl, FM_tr fm1 q_4.1, ρ, q_4.2⟩

set_option maxHeartbeats 2000000 in
set_option maxRecDepth 20000 in
theorem m_setLeast {g : GT} {dd : Nat} {h : MH} {σ : ST} {ρ : Nat → Nat} {th : Int32} (hP : MP h σ ρ th) {m : Nat} (hm1 : 1 ≤ m) (hm : m ≤ 6) : J g (dd + 1) 0 0 mX3_setLeast 0 (lv_args 0 [.ref (53), .int (nI (m))]) [] h (RMo (.int (nI σ.2.1.2.2)) h ((σ.1, (σ.2.1.1, σ.2.1.2.1, m), σ.2.2)) (nI 0)) := by
  have a40 := hP.2.2.2.1
  have hz0 := hP.2.2.1
  refine J_aload_n (i := 0) (pc := 0) dX3_setLeast_0 rfl rfl ?_
  refine J_iconst (v := nI (0)) (pc := 1) dX3_setLeast_1 rfl ?_
  refine J_putf (k := 0) (pc := 2) dX3_setLeast_2 fpX3_setLeast_34 (fun g => ⟨rfl, rfl⟩) a40 (Nat.le_of_ble_eq_true rfl) ?_
  obtain ⟨h_1, eh_1⟩ : ∃ z : MH, z = (h.1, hset h.2 (53) (oB 3 [.int (nI (0)), .int (nI (σ.1.1)), .ref (54), .ref (55), .int (nI (σ.1.2.1)), .int (nI (σ.2.1.2.1)), .int (nI (σ.2.1.2.2)), .int (nI (σ.2.1.1)), .ref (56), .ref (57), .ref (58)])) := ⟨_, rfl⟩
  refine J_heq (h2 := h_1) eh_1 ?_
  have zh_1 : h_1.1 = h.1 := by rw [eh_1]
  have H_2 : h_1.2 (53) = some (oB 3 [.int (nI (0)), .int (nI (σ.1.1)), .ref (54), .ref (55), .int (nI (σ.1.2.1)), .int (nI (σ.2.1.2.1)), .int (nI (σ.2.1.2.2)), .int (nI (σ.2.1.1)), .ref (56), .ref (57), .ref (58)]) := hs_s eh_1
  have hP1 : MP h_1 σ ρ (nI 0) := MP_53 hP eh_1
  have fm1 : FM h h_1 := FM_set eh_1 (by decide) (by decide)
  obtain ⟨a1, a2, a3, a4, ⟨mf, a5, a5b⟩, ⟨sf, a6, a6b⟩, ⟨rf, a7, a7b⟩, ⟨pf, a8, a8b⟩, ⟨lf, a9, a9b⟩, a10, a11⟩ := id hP1
  obtain ⟨o1, o2, o3, o4⟩ := id a2
  have hM := MP_MS hP1
  obtain ⟨hn, hc9, hm5, hs2⟩ := id a1
  have hp9 := pw_le hn
  refine J_iload_n (i := 1) (pc := 5) dX3_setLeast_5 rfl rfl ?_
  refine J_iconst (v := nI (1)) (pc := 6) dX3_setLeast_6 rfl ?_
  refine J_bipush (v := nI (6)) (pc := 7) dX3_setLeast_7 rfl ?_
  refine J_cSi (st := []) (As := [.int (nI (m)), .int (nI (1)), .int (nI (6))]) (pc := 9) dX3_setLeast_9 okX3_isIn q3_166 q3_167 rfl (Nat.le_of_ble_eq_true rfl) (Nat.le_of_ble_eq_true rfl) (m_inT (by omega) (by omega) (inZ_nI (by omega) (by omega) (by decide))) ?_
  refine J_if_neN (tgt := 21) (pc := 12) dX3_setLeast_12 (by decide) (by omega) (fun c12 => ?_) (fun c12 => by exfalso; first | omega | simp_all)
  refine J_aload_n (i := 0) (pc := 21) dX3_setLeast_21 rfl rfl ?_
  refine J_getf (k := 6) (pc := 22) dX3_setLeast_22 flX3_20 a4 rfl ?_
  refine J_istore_n (i := 2) (lv' := [(2, .int (nI (σ.2.1.2.2))), (0, .ref (53)), (1, .int (nI (m)))]) (pc := 25) dX3_setLeast_25 rfl (by decide) rfl ?_
  refine J_aload_n (i := 0) (pc := 26) dX3_setLeast_26 rfl rfl ?_
  refine J_iload_n (i := 1) (pc := 27) dX3_setLeast_27 rfl rfl ?_
  refine J_putf (k := 6) (pc := 28) dX3_setLeast_28 fpX3_setLeast_20 (fun g => ⟨rfl, rfl⟩) a4 (Nat.le_of_ble_eq_true rfl) ?_
  obtain ⟨h_3, eh_3⟩ : ∃ z : MH, z = (h_1.1, hset h_1.2 (53) (oB 3 [.int (nI (0)), .int (nI (σ.1.1)), .ref (54), .ref (55), .int (nI (σ.1.2.1)), .int (nI (σ.2.1.2.1)), .int (nI (m)), .int (nI (σ.2.1.1)), .ref (56), .ref (57), .ref (58)])) := ⟨_, rfl⟩
  refine J_heq (h2 := h_3) eh_3 ?_
  have zh_3 : h_3.1 = h_1.1 := by rw [eh_3]
  have H_4 : h_3.2 (53) = some (oB 3 [.int (nI (0)), .int (nI (σ.1.1)), .ref (54), .ref (55), .int (nI (σ.1.2.1)), .int (nI (σ.2.1.2.1)), .int (nI (m)), .int (nI (σ.2.1.1)), .ref (56), .ref (57), .ref (58)]) := hs_s eh_3
  have H_5 : h_3.2 (54) = some (aI (60) (mf)) := (hs_n eh_3 (by omega)).trans a5
  have H_6 : h_3.2 (55) = some (aI (20) (sf)) := (hs_n eh_3 (by omega)).trans a6
  have H_7 : h_3.2 (56) = some (aG (5) (rf)) := (hs_n eh_3 (by omega)).trans a7
  have H_8 : h_3.2 (57) = some (aI (5) (pf)) := (hs_n eh_3 (by omega)).trans a8
  have H_9 : h_3.2 (58) = some (aI (5) (lf)) := (hs_n eh_3 (by omega)).trans a9
  have H_10 : FM h h_3 := by rw [eh_3]; exact FM_st fm1 (by omega) (by omega) rfl
  have H_11 : (∀ i, 60 ≤ i → i < h_1.1 → h_3.2 i = h_1.2 i) := by rw [eh_3]; exact (fun i i1 i2 => (hset_n (by omega)).trans ((fun i _ _ => rfl) i i1 i2))
  refine J_iload_n (i := 2) (pc := 31) dX3_setLeast_31 rfl rfl ?_
  refine J_iret (ty := .int) (pc := 32) dX3_setLeast_32 rfl rfl ?_
  exact ⟨rfl, H_10, ρ, MP_mk (h := h) (σ := σ) (σ' := (σ.1, (σ.2.1.1, σ.2.1.2.1, m), σ.2.2)) (ρ := ρ) a1 ⟨o1, o2, ⟨hm1, hm⟩, o4⟩ (by omega) H_4 ⟨mf, H_5, a5b⟩ ⟨sf, H_6, a6b⟩ ⟨rf, H_7, a7b⟩ ⟨pf, H_8, a8b⟩ ⟨lf, H_9, a9b⟩ (fun i hi => by obtain ⟨b1, b2, f, b3, b4⟩ := a10 i hi; exact ⟨b1, by omega, f, (H_11 _ b1 b2).trans b3, b4⟩) a11⟩

set_option maxHeartbeats 2000000 in
set_option maxRecDepth 20000 in
theorem m_setLeastX1 {g : GT} {dd : Nat} {h : MH} {σ : ST} {ρ : Nat → Nat} {th : Int32} (hP : MP h σ ρ th) {x : Int32} (hx : ¬ inZ 1 6 x) : J g (dd + 1) 0 0 mX3_setLeast 0 (lv_args 0 [.ref (53), .int (x)]) [] h (RMo (.int (nI 0)) h σ (nI 1)) := by
  have a40 := hP.2.2.2.1
  have hz0 := hP.2.2.1
  refine J_aload_n (i := 0) (pc := 0) dX3_setLeast_0 rfl rfl ?_
  refine J_iconst (v := nI (0)) (pc := 1) dX3_setLeast_1 rfl ?_
  refine J_putf (k := 0) (pc := 2) dX3_setLeast_2 fpX3_setLeast_34 (fun g => ⟨rfl, rfl⟩) a40 (Nat.le_of_ble_eq_true rfl) ?_
  obtain ⟨h_1, eh_1⟩ : ∃ z : MH, z = (h.1, hset h.2 (53) (oB 3 [.int (nI (0)), .int (nI (σ.1.1)), .ref (54), .ref (55), .int (nI (σ.1.2.1)), .int (nI (σ.2.1.2.1)), .int (nI (σ.2.1.2.2)), .int (nI (σ.2.1.1)), .ref (56), .ref (57), .ref (58)])) := ⟨_, rfl⟩
  refine J_heq (h2 := h_1) eh_1 ?_
  have zh_1 : h_1.1 = h.1 := by rw [eh_1]
  have H_2 : h_1.2 (53) = some (oB 3 [.int (nI (0)), .int (nI (σ.1.1)), .ref (54), .ref (55), .int (nI (σ.1.2.1)), .int (nI (σ.2.1.2.1)), .int (nI (σ.2.1.2.2)), .int (nI (σ.2.1.1)), .ref (56), .ref (57), .ref (58)]) := hs_s eh_1
  have hP1 : MP h_1 σ ρ (nI 0) := MP_53 hP eh_1
  have fm1 : FM h h_1 := FM_set eh_1 (by decide) (by decide)
  obtain ⟨a1, a2, a3, a4, ⟨mf, a5, a5b⟩, ⟨sf, a6, a6b⟩, ⟨rf, a7, a7b⟩, ⟨pf, a8, a8b⟩, ⟨lf, a9, a9b⟩, a10, a11⟩ := id hP1
  obtain ⟨o1, o2, o3, o4⟩ := id a2
  have hM := MP_MS hP1
  obtain ⟨hn, hc9, hm5, hs2⟩ := id a1
  have hp9 := pw_le hn
  refine J_iload_n (i := 1) (pc := 5) dX3_setLeast_5 rfl rfl ?_
  refine J_iconst (v := nI (1)) (pc := 6) dX3_setLeast_6 rfl ?_
  refine J_bipush (v := nI (6)) (pc := 7) dX3_setLeast_7 rfl ?_
  refine J_cSi (st := []) (As := [.int (x), .int (nI (1)), .int (nI (6))]) (pc := 9) dX3_setLeast_9 okX3_isIn q3_166 q3_167 rfl (Nat.le_of_ble_eq_true rfl) (Nat.le_of_ble_eq_true rfl) (m_inF (by omega) (by omega) (hx)) ?_
  refine J_if_neN (tgt := 21) (pc := 12) dX3_setLeast_12 (by decide) (by omega) (fun c12 => by exfalso; first | omega | simp_all) (fun c12 => ?_)
  refine J_aload_n (i := 0) (pc := 15) dX3_setLeast_15 rfl rfl ?_
  refine J_iconst (v := nI (1)) (pc := 16) dX3_setLeast_16 rfl ?_
  refine J_cVh (st := []) (As := [.int (nI (1))]) (pc := 17) dX3_setLeast_17 okX3_no q3_169 q3_171 qs1_13 (rfl : vwCl[3]? = some _) a4 rfl (Nat.le_of_ble_eq_true rfl) (Nat.le_of_ble_eq_true rfl) (m_no hP1) (fun h_3 q_4 => ?_)
  refine J_iret (ty := .int) (pc := 20) dX3_setLeast_20 rfl rfl ?_
  exact ⟨rfl, FM_tr fm1 q_4.1, ρ, q_4.2⟩

set_option maxHeartbeats 2000000 in
set_option maxRecDepth 20000 in
theorem m_setSort {g : GT} {dd : Nat} {h : MH} {σ : ST} {ρ : Nat → Nat} {th : Int32} (hP : MP h σ ρ th) {k s : Nat} (hk : k < σ.1.1) (hs : s ≤ 2) : J g (dd + 1) 0 0 mX3_setSort 0 (lv_args 0 [.ref (53), .int (nI (k)), .int (nI (s))]) [] h (RMo (.int (nI (σ.1.2.2.2 k))) h ((sortB σ.1 k s, σ.2)) (nI 0)) := by
  have a40 := hP.2.2.2.1
  have hz0 := hP.2.2.1
  refine J_aload_n (i := 0) (pc := 0) dX3_setSort_0 rfl rfl ?_
  refine J_iconst (v := nI (0)) (pc := 1) dX3_setSort_1 rfl ?_
  refine J_putf (k := 0) (pc := 2) dX3_setSort_2 fpX3_setSort_34 (fun g => ⟨rfl, rfl⟩) a40 (Nat.le_of_ble_eq_true rfl) ?_
  obtain ⟨h_1, eh_1⟩ : ∃ z : MH, z = (h.1, hset h.2 (53) (oB 3 [.int (nI (0)), .int (nI (σ.1.1)), .ref (54), .ref (55), .int (nI (σ.1.2.1)), .int (nI (σ.2.1.2.1)), .int (nI (σ.2.1.2.2)), .int (nI (σ.2.1.1)), .ref (56), .ref (57), .ref (58)])) := ⟨_, rfl⟩
  refine J_heq (h2 := h_1) eh_1 ?_
  have zh_1 : h_1.1 = h.1 := by rw [eh_1]
  have H_2 : h_1.2 (53) = some (oB 3 [.int (nI (0)), .int (nI (σ.1.1)), .ref (54), .ref (55), .int (nI (σ.1.2.1)), .int (nI (σ.2.1.2.1)), .int (nI (σ.2.1.2.2)), .int (nI (σ.2.1.1)), .ref (56), .ref (57), .ref (58)]) := hs_s eh_1
  have hP1 : MP h_1 σ ρ (nI 0) := MP_53 hP eh_1
  have fm1 : FM h h_1 := FM_set eh_1 (by decide) (by decide)
  obtain ⟨a1, a2, a3, a4, ⟨mf, a5, a5b⟩, ⟨sf, a6, a6b⟩, ⟨rf, a7, a7b⟩, ⟨pf, a8, a8b⟩, ⟨lf, a9, a9b⟩, a10, a11⟩ := id hP1
  obtain ⟨o1, o2, o3, o4⟩ := id a2
  have hM := MP_MS hP1
  obtain ⟨hn, hc9, hm5, hs2⟩ := id a1
  have hp9 := pw_le hn
  refine J_iload_n (i := 1) (pc := 5) dX3_setSort_5 rfl rfl ?_
  refine J_iconst (v := nI (0)) (pc := 6) dX3_setSort_6 rfl ?_
  refine J_aload_n (i := 0) (pc := 7) dX3_setSort_7 rfl rfl ?_
  refine J_getf (k := 1) (pc := 8) dX3_setSort_8 flX3_44 a4 rfl ?_
  refine J_iconst (v := nI (1)) (pc := 11) dX3_setSort_11 rfl ?_
  refine J_isub (pc := 12) dX3_setSort_12 ?_
  refine J_cSi (st := []) (As := [.int (nI (k)), .int (nI (0)), .int (nI (σ.1.1) - nI (1))]) (pc := 13) dX3_setSort_13 okX3_isIn q3_166 q3_167 rfl (Nat.le_of_ble_eq_true rfl) (Nat.le_of_ble_eq_true rfl) (m_isInT ⟨by rw [nI_toInt (by omega), nI_toInt (by omega)]; omega, by rw [pk_sub (by omega), nI_toInt (by omega), nI_toInt (by omega)]; omega⟩) ?_
  refine J_if_neN (tgt := 25) (pc := 16) dX3_setSort_16 (by decide) (by omega) (fun c16 => ?_) (fun c16 => by exfalso; first | omega | simp_all)
  refine J_iload_n (i := 2) (pc := 25) dX3_setSort_25 rfl rfl ?_
  refine J_iconst (v := nI (0)) (pc := 26) dX3_setSort_26 rfl ?_
  refine J_iconst (v := nI (2)) (pc := 27) dX3_setSort_27 rfl ?_
  refine J_cSi (st := []) (As := [.int (nI (s)), .int (nI (0)), .int (nI (2))]) (pc := 28) dX3_setSort_28 okX3_isIn q3_166 q3_167 rfl (Nat.le_of_ble_eq_true rfl) (Nat.le_of_ble_eq_true rfl) (m_inT (by omega) (by omega) (inZ_nI (by omega) (by omega) (by decide))) ?_
  refine J_if_neN (tgt := 40) (pc := 31) dX3_setSort_31 (by decide) (by omega) (fun c31 => ?_) (fun c31 => by exfalso; first | omega | simp_all)
  refine J_aload_n (i := 0) (pc := 40) dX3_setSort_40 rfl rfl ?_
  refine J_getf (k := 3) (pc := 41) dX3_setSort_41 flX3_13 a4 rfl ?_
  refine J_iload_n (i := 1) (pc := 44) dX3_setSort_44 rfl rfl ?_
  refine J_iald (j := k) (pc := 45) dX3_setSort_45 a6 rfl (by omega) (by omega) ?_
  rw [show sf k = nI (σ.1.2.2.2 k) from a6b k hk]
  refine J_istore_n (i := 3) (lv' := [(3, .int (nI (σ.1.2.2.2 k))), (0, .ref (53)), (1, .int (nI (k))), (2, .int (nI (s)))]) (pc := 46) dX3_setSort_46 rfl (by decide) rfl ?_
  refine J_aload_n (i := 0) (pc := 47) dX3_setSort_47 rfl rfl ?_
  refine J_getf (k := 3) (pc := 48) dX3_setSort_48 flX3_13 a4 rfl ?_
  refine J_iload_n (i := 1) (pc := 51) dX3_setSort_51 rfl rfl ?_
  refine J_iload_n (i := 2) (pc := 52) dX3_setSort_52 rfl rfl ?_
  refine J_iast (j := k) (pc := 53) dX3_setSort_53 a6 rfl (by omega) (by omega) ?_
  obtain ⟨h_3, eh_3⟩ : ∃ z : MH, z = (h_1.1, hset h_1.2 (55) (aI (20) (upd sf (k) (nI (s))))) := ⟨_, rfl⟩
  refine J_heq (h2 := h_3) eh_3 ?_
  have zh_3 : h_3.1 = h_1.1 := by rw [eh_3]
  have H_4 : h_3.2 (53) = some (oB 3 [.int (nI (0)), .int (nI (σ.1.1)), .ref (54), .ref (55), .int (nI (σ.1.2.1)), .int (nI (σ.2.1.2.1)), .int (nI (σ.2.1.2.2)), .int (nI (σ.2.1.1)), .ref (56), .ref (57), .ref (58)]) := (hs_n eh_3 (by omega)).trans a4
  have H_5 : h_3.2 (54) = some (aI (60) (mf)) := (hs_n eh_3 (by omega)).trans a5
  have H_6 : h_3.2 (55) = some (aI (20) (upd sf (k) (nI (s)))) := hs_s eh_3
  have H_7 : h_3.2 (56) = some (aG (5) (rf)) := (hs_n eh_3 (by omega)).trans a7
  have H_8 : h_3.2 (57) = some (aI (5) (pf)) := (hs_n eh_3 (by omega)).trans a8
  have H_9 : h_3.2 (58) = some (aI (5) (lf)) := (hs_n eh_3 (by omega)).trans a9
  have H_10 : FM h h_3 := by rw [eh_3]; exact FM_st fm1 (by omega) (by omega) rfl
  have H_11 : (∀ i, 60 ≤ i → i < h_1.1 → h_3.2 i = h_1.2 i) := by rw [eh_3]; exact (fun i i1 i2 => (hset_n (by omega)).trans ((fun i _ _ => rfl) i i1 i2))
  refine J_iload_n (i := 3) (pc := 54) dX3_setSort_54 rfl rfl ?_
  refine J_iret (ty := .int) (pc := 55) dX3_setSort_55 rfl rfl ?_
  refine ⟨rfl, H_10, ρ, MP_mk (h := h) (σ := σ) (σ' := (sortB σ.1 k s, σ.2)) (ρ := ρ) ⟨hn, hc9, hm5, ?_⟩ a2 (by omega) H_4 ⟨mf, H_5, a5b⟩ ⟨_, H_6, ?_⟩ ⟨rf, H_7, a7b⟩ ⟨pf, H_8, a8b⟩ ⟨lf, H_9, a9b⟩ (fun i hi => by obtain ⟨b1, b2, f, b3, b4⟩ := a10 i hi; exact ⟨b1, by omega, f, (H_11 _ b1 b2).trans b3, b4⟩) a11⟩
  · intro q hq
    show (if q = k then s else σ.1.2.2.2 q) ≤ 2
    split
    · omega
    · exact hs2 q hq
  · intro q hq
    show (if q = k then _ else _) = nI (if q = k then s else σ.1.2.2.2 q)
    split
    · rfl
    · exact a6b q hq

set_option maxHeartbeats 2000000 in
set_option maxRecDepth 20000 in
theorem m_setSortX1 {g : GT} {dd : Nat} {h : MH} {σ : ST} {ρ : Nat → Nat} {th : Int32} (hP : MP h σ ρ th) {x s : Int32} (hx : ¬ (0 ≤ x.toInt ∧ x.toInt < (σ.1.1 : Int))) : J g (dd + 1) 0 0 mX3_setSort 0 (lv_args 0 [.ref (53), .int (x), .int (s)]) [] h (RMo (.int (nI 0)) h σ (nI 1)) := by
  have a40 := hP.2.2.2.1
  have hz0 := hP.2.2.1
  refine J_aload_n (i := 0) (pc := 0) dX3_setSort_0 rfl rfl ?_
  refine J_iconst (v := nI (0)) (pc := 1) dX3_setSort_1 rfl ?_
  refine J_putf (k := 0) (pc := 2) dX3_setSort_2 fpX3_setSort_34 (fun g => ⟨rfl, rfl⟩) a40 (Nat.le_of_ble_eq_true rfl) ?_
  obtain ⟨h_1, eh_1⟩ : ∃ z : MH, z = (h.1, hset h.2 (53) (oB 3 [.int (nI (0)), .int (nI (σ.1.1)), .ref (54), .ref (55), .int (nI (σ.1.2.1)), .int (nI (σ.2.1.2.1)), .int (nI (σ.2.1.2.2)), .int (nI (σ.2.1.1)), .ref (56), .ref (57), .ref (58)])) := ⟨_, rfl⟩
  refine J_heq (h2 := h_1) eh_1 ?_
  have zh_1 : h_1.1 = h.1 := by rw [eh_1]
  have H_2 : h_1.2 (53) = some (oB 3 [.int (nI (0)), .int (nI (σ.1.1)), .ref (54), .ref (55), .int (nI (σ.1.2.1)), .int (nI (σ.2.1.2.1)), .int (nI (σ.2.1.2.2)), .int (nI (σ.2.1.1)), .ref (56), .ref (57), .ref (58)]) := hs_s eh_1
  have hP1 : MP h_1 σ ρ (nI 0) := MP_53 hP eh_1
  have fm1 : FM h h_1 := FM_set eh_1 (by decide) (by decide)
  obtain ⟨a1, a2, a3, a4, ⟨mf, a5, a5b⟩, ⟨sf, a6, a6b⟩, ⟨rf, a7, a7b⟩, ⟨pf, a8, a8b⟩, ⟨lf, a9, a9b⟩, a10, a11⟩ := id hP1
  obtain ⟨o1, o2, o3, o4⟩ := id a2
  have hM := MP_MS hP1
  obtain ⟨hn, hc9, hm5, hs2⟩ := id a1
  have hp9 := pw_le hn
  refine J_iload_n (i := 1) (pc := 5) dX3_setSort_5 rfl rfl ?_
  refine J_iconst (v := nI (0)) (pc := 6) dX3_setSort_6 rfl ?_
  refine J_aload_n (i := 0) (pc := 7) dX3_setSort_7 rfl rfl ?_
  refine J_getf (k := 1) (pc := 8) dX3_setSort_8 flX3_44 a4 rfl ?_
  refine J_iconst (v := nI (1)) (pc := 11) dX3_setSort_11 rfl ?_
  refine J_isub (pc := 12) dX3_setSort_12 ?_
  refine J_cSi (st := []) (As := [.int (x), .int (nI (0)), .int (nI (σ.1.1) - nI (1))]) (pc := 13) dX3_setSort_13 okX3_isIn q3_166 q3_167 rfl (Nat.le_of_ble_eq_true rfl) (Nat.le_of_ble_eq_true rfl) (m_isInF (fun q => hx ⟨by have := q.1; rw [nI_toInt (by omega)] at this; exact this, by have := q.2; rw [pk_sub_toInt (by omega) (by omega)] at this; omega⟩)) ?_
  refine J_if_neN (tgt := 25) (pc := 16) dX3_setSort_16 (by decide) (by omega) (fun c16 => by exfalso; first | omega | simp_all) (fun c16 => ?_)
  refine J_aload_n (i := 0) (pc := 19) dX3_setSort_19 rfl rfl ?_
  refine J_iconst (v := nI (1)) (pc := 20) dX3_setSort_20 rfl ?_
  refine J_cVh (st := []) (As := [.int (nI (1))]) (pc := 21) dX3_setSort_21 okX3_no q3_169 q3_171 qs1_13 (rfl : vwCl[3]? = some _) a4 rfl (Nat.le_of_ble_eq_true rfl) (Nat.le_of_ble_eq_true rfl) (m_no hP1) (fun h_3 q_4 => ?_)
  refine J_iret (ty := .int) (pc := 24) dX3_setSort_24 rfl rfl ?_
  exact ⟨rfl, FM_tr fm1 q_4.1, ρ, q_4.2⟩

set_option maxHeartbeats 2000000 in
set_option maxRecDepth 20000 in
theorem m_setSortX2 {g : GT} {dd : Nat} {h : MH} {σ : ST} {ρ : Nat → Nat} {th : Int32} (hP : MP h σ ρ th) {k : Nat} {s : Int32} (hk : k < σ.1.1) (hs : ¬ inZ 0 2 s) : J g (dd + 1) 0 0 mX3_setSort 0 (lv_args 0 [.ref (53), .int (nI (k)), .int (s)]) [] h (RMo (.int (nI 0)) h σ (nI 2)) := by
  have a40 := hP.2.2.2.1
  have hz0 := hP.2.2.1
  refine J_aload_n (i := 0) (pc := 0) dX3_setSort_0 rfl rfl ?_
  refine J_iconst (v := nI (0)) (pc := 1) dX3_setSort_1 rfl ?_
  refine J_putf (k := 0) (pc := 2) dX3_setSort_2 fpX3_setSort_34 (fun g => ⟨rfl, rfl⟩) a40 (Nat.le_of_ble_eq_true rfl) ?_
  obtain ⟨h_1, eh_1⟩ : ∃ z : MH, z = (h.1, hset h.2 (53) (oB 3 [.int (nI (0)), .int (nI (σ.1.1)), .ref (54), .ref (55), .int (nI (σ.1.2.1)), .int (nI (σ.2.1.2.1)), .int (nI (σ.2.1.2.2)), .int (nI (σ.2.1.1)), .ref (56), .ref (57), .ref (58)])) := ⟨_, rfl⟩
  refine J_heq (h2 := h_1) eh_1 ?_
  have zh_1 : h_1.1 = h.1 := by rw [eh_1]
  have H_2 : h_1.2 (53) = some (oB 3 [.int (nI (0)), .int (nI (σ.1.1)), .ref (54), .ref (55), .int (nI (σ.1.2.1)), .int (nI (σ.2.1.2.1)), .int (nI (σ.2.1.2.2)), .int (nI (σ.2.1.1)), .ref (56), .ref (57), .ref (58)]) := hs_s eh_1
  have hP1 : MP h_1 σ ρ (nI 0) := MP_53 hP eh_1
  have fm1 : FM h h_1 := FM_set eh_1 (by decide) (by decide)
  obtain ⟨a1, a2, a3, a4, ⟨mf, a5, a5b⟩, ⟨sf, a6, a6b⟩, ⟨rf, a7, a7b⟩, ⟨pf, a8, a8b⟩, ⟨lf, a9, a9b⟩, a10, a11⟩ := id hP1
  obtain ⟨o1, o2, o3, o4⟩ := id a2
  have hM := MP_MS hP1
  obtain ⟨hn, hc9, hm5, hs2⟩ := id a1
  have hp9 := pw_le hn
  refine J_iload_n (i := 1) (pc := 5) dX3_setSort_5 rfl rfl ?_
  refine J_iconst (v := nI (0)) (pc := 6) dX3_setSort_6 rfl ?_
  refine J_aload_n (i := 0) (pc := 7) dX3_setSort_7 rfl rfl ?_
  refine J_getf (k := 1) (pc := 8) dX3_setSort_8 flX3_44 a4 rfl ?_
  refine J_iconst (v := nI (1)) (pc := 11) dX3_setSort_11 rfl ?_
  refine J_isub (pc := 12) dX3_setSort_12 ?_
  refine J_cSi (st := []) (As := [.int (nI (k)), .int (nI (0)), .int (nI (σ.1.1) - nI (1))]) (pc := 13) dX3_setSort_13 okX3_isIn q3_166 q3_167 rfl (Nat.le_of_ble_eq_true rfl) (Nat.le_of_ble_eq_true rfl) (m_isInT ⟨by rw [nI_toInt (by omega), nI_toInt (by omega)]; omega, by rw [pk_sub (by omega), nI_toInt (by omega), nI_toInt (by omega)]; omega⟩) ?_
  refine J_if_neN (tgt := 25) (pc := 16) dX3_setSort_16 (by decide) (by omega) (fun c16 => ?_) (fun c16 => by exfalso; first | omega | simp_all)
  refine J_iload_n (i := 2) (pc := 25) dX3_setSort_25 rfl rfl ?_
  refine J_iconst (v := nI (0)) (pc := 26) dX3_setSort_26 rfl ?_
  refine J_iconst (v := nI (2)) (pc := 27) dX3_setSort_27 rfl ?_
  refine J_cSi (st := []) (As := [.int (s), .int (nI (0)), .int (nI (2))]) (pc := 28) dX3_setSort_28 okX3_isIn q3_166 q3_167 rfl (Nat.le_of_ble_eq_true rfl) (Nat.le_of_ble_eq_true rfl) (m_inF (by omega) (by omega) (hs)) ?_
  refine J_if_neN (tgt := 40) (pc := 31) dX3_setSort_31 (by decide) (by omega) (fun c31 => by exfalso; first | omega | simp_all) (fun c31 => ?_)
  refine J_aload_n (i := 0) (pc := 34) dX3_setSort_34 rfl rfl ?_
  refine J_iconst (v := nI (2)) (pc := 35) dX3_setSort_35 rfl ?_
  refine J_cVh (st := []) (As := [.int (nI (2))]) (pc := 36) dX3_setSort_36 okX3_no q3_169 q3_171 qs1_13 (rfl : vwCl[3]? = some _) a4 rfl (Nat.le_of_ble_eq_true rfl) (Nat.le_of_ble_eq_true rfl) (m_no hP1) (fun h_3 q_4 => ?_)
  refine J_iret (ty := .int) (pc := 39) dX3_setSort_39 rfl rfl ?_
  exact ⟨rfl, FM_tr fm1 q_4.1, ρ, q_4.2⟩

theorem ck_same {c k : Nat} {v : Bool} (h : c.testBit k = v) : (if v then c ||| 2 ^ k else sdf c (2 ^ k)) = c := by
  apply Nat.eq_of_testBit_eq
  intro i
  cases v
  · show (sdf c (2 ^ k)).testBit i = _
    rw [sdf_bit, Nat.testBit_two_pow]
    by_cases e : k = i
    · subst e
      rw [h]
      rfl
    · simp [e]
  · show (c ||| 2 ^ k).testBit i = _
    rw [Nat.testBit_or, Nat.testBit_two_pow]
    by_cases e : k = i
    · subst e
      rw [h]
      rfl
    · simp [e]
theorem ck_flip {c k : Nat} {v : Bool} (h : c.testBit k ≠ v) : (if v then c ||| 2 ^ k else sdf c (2 ^ k)) = c ^^^ 2 ^ k := by
  apply Nat.eq_of_testBit_eq
  intro i
  cases v
  · show (sdf c (2 ^ k)).testBit i = _
    rw [sdf_bit, Nat.testBit_xor, Nat.testBit_two_pow]
    by_cases e : k = i
    · subst e
      have h1 : c.testBit k = true := by simpa using h
      rw [h1]
      simp
    · simp [e]
  · show (c ||| 2 ^ k).testBit i = _
    rw [Nat.testBit_or, Nat.testBit_xor, Nat.testBit_two_pow]
    by_cases e : k = i
    · subst e
      have h1 : c.testBit k = false := by simpa using h
      rw [h1]
      simp
    · simp [e]
theorem bI_inj {a b : Bool} : bI a = bI b ↔ a = b := by cases a <;> cases b <;> decide
theorem WF_check {β : BT} (hW : WF β) {b : Nat} (hb : b < β.1) (v : Bool) : WF (checkB β b v) := by
  refine ⟨hW.1, ?_, hW.2.2⟩
  show (if v then β.2.1 ||| 2 ^ b else sdf β.2.1 (2 ^ b)) < 2 ^ β.1
  have h1 := hW.2.1
  split
  · exact Nat.or_lt_two_pow h1 (Nat.pow_lt_pow_right (by decide) hb)
  · exact Nat.lt_of_le_of_lt (sdf_le _ _) h1

set_option maxHeartbeats 2000000 in
set_option maxRecDepth 20000 in
theorem m_check {g : GT} {dd : Nat} {h : MH} {σ : ST} {ρ : Nat → Nat} {th : Int32} (hP : MP h σ ρ th) {k : Nat} {v : Bool} (hk : k < σ.1.1) : J g (dd + 1) 0 0 mX3_check 0 (lv_args 0 [.ref (53), .int (nI (k)), .int (bI (v))]) [] h (RMo (.int (bI (σ.1.2.1.testBit k))) h ((checkB σ.1 k v, σ.2)) (nI 0)) := by
  have a40 := hP.2.2.2.1
  have hz0 := hP.2.2.1
  refine J_aload_n (i := 0) (pc := 0) dX3_check_0 rfl rfl ?_
  refine J_iconst (v := nI (0)) (pc := 1) dX3_check_1 rfl ?_
  refine J_putf (k := 0) (pc := 2) dX3_check_2 fpX3_check_34 (fun g => ⟨rfl, rfl⟩) a40 (Nat.le_of_ble_eq_true rfl) ?_
  obtain ⟨h_1, eh_1⟩ : ∃ z : MH, z = (h.1, hset h.2 (53) (oB 3 [.int (nI (0)), .int (nI (σ.1.1)), .ref (54), .ref (55), .int (nI (σ.1.2.1)), .int (nI (σ.2.1.2.1)), .int (nI (σ.2.1.2.2)), .int (nI (σ.2.1.1)), .ref (56), .ref (57), .ref (58)])) := ⟨_, rfl⟩
  refine J_heq (h2 := h_1) eh_1 ?_
  have zh_1 : h_1.1 = h.1 := by rw [eh_1]
  have H_2 : h_1.2 (53) = some (oB 3 [.int (nI (0)), .int (nI (σ.1.1)), .ref (54), .ref (55), .int (nI (σ.1.2.1)), .int (nI (σ.2.1.2.1)), .int (nI (σ.2.1.2.2)), .int (nI (σ.2.1.1)), .ref (56), .ref (57), .ref (58)]) := hs_s eh_1
  have hP1 : MP h_1 σ ρ (nI 0) := MP_53 hP eh_1
  have fm1 : FM h h_1 := FM_set eh_1 (by decide) (by decide)
  obtain ⟨a1, a2, a3, a4, ⟨mf, a5, a5b⟩, ⟨sf, a6, a6b⟩, ⟨rf, a7, a7b⟩, ⟨pf, a8, a8b⟩, ⟨lf, a9, a9b⟩, a10, a11⟩ := id hP1
  obtain ⟨o1, o2, o3, o4⟩ := id a2
  have hM := MP_MS hP1
  obtain ⟨hn, hc9, hm5, hs2⟩ := id a1
  have hp9 := pw_le hn
  refine J_iload_n (i := 1) (pc := 5) dX3_check_5 rfl rfl ?_
  refine J_iconst (v := nI (0)) (pc := 6) dX3_check_6 rfl ?_
  refine J_aload_n (i := 0) (pc := 7) dX3_check_7 rfl rfl ?_
  refine J_getf (k := 1) (pc := 8) dX3_check_8 flX3_44 a4 rfl ?_
  refine J_iconst (v := nI (1)) (pc := 11) dX3_check_11 rfl ?_
  refine J_isub (pc := 12) dX3_check_12 ?_
  refine J_cSi (st := []) (As := [.int (nI (k)), .int (nI (0)), .int (nI (σ.1.1) - nI (1))]) (pc := 13) dX3_check_13 okX3_isIn q3_166 q3_167 rfl (Nat.le_of_ble_eq_true rfl) (Nat.le_of_ble_eq_true rfl) (m_isInT ⟨by rw [nI_toInt (by omega), nI_toInt (by omega)]; omega, by rw [pk_sub (by omega), nI_toInt (by omega), nI_toInt (by omega)]; omega⟩) ?_
  refine J_if_neN (tgt := 33) (pc := 16) dX3_check_16 (by decide) (by omega) (fun c16 => ?_) (fun c16 => by exfalso; first | omega | simp_all)
  refine J_aload_n (i := 0) (pc := 33) dX3_check_33 rfl rfl ?_
  refine J_getf (k := 4) (pc := 34) dX3_check_34 flX3_47 a4 rfl ?_
  refine J_iload_n (i := 1) (pc := 37) dX3_check_37 rfl rfl ?_
  refine J_cSi (st := []) (As := [.int (nI (σ.1.2.1)), .int (nI (k))]) (pc := 38) dX3_check_38 okX3_has q3_184 q3_185 rfl (Nat.le_of_ble_eq_true rfl) (Nat.le_of_ble_eq_true rfl) (m_has (by omega) (by omega)) ?_
  refine J_istore_n (i := 3) (lv' := [(3, .int (bI ((σ.1.2.1).testBit (k)))), (0, .ref (53)), (1, .int (nI (k))), (2, .int (bI (v)))]) (pc := 41) dX3_check_41 rfl (by decide) rfl ?_
  refine J_iload_n (i := 3) (pc := 42) dX3_check_42 rfl rfl ?_
  refine J_iload_n (i := 2) (pc := 43) dX3_check_43 rfl rfl ?_
  refine J_icmp_eq (tgt := 59) (pc := 44) dX3_check_44 (by decide) (fun c44 => ?_) (fun c44 => ?_)
  · skip
    refine J_iload_n (i := 3) (pc := 59) dX3_check_59 rfl rfl ?_
    refine J_iret (ty := .boolean) (pc := 60) dX3_check_60 rfl (nar_b _) ?_
    have e9 : (if v then σ.1.2.1 ||| 2 ^ k else sdf σ.1.2.1 (2 ^ k)) = σ.1.2.1 := ck_same (bI_inj.mp c44)
    refine ⟨rfl, fm1, ρ, MP_mk (h := h) (σ := σ) (σ' := (checkB σ.1 k v, σ.2)) (ρ := ρ) (WF_check a1 hk v) a2 (by omega) ?_ ⟨mf, a5, a5b⟩ ⟨sf, a6, a6b⟩ ⟨rf, a7, a7b⟩ ⟨pf, a8, a8b⟩ ⟨lf, a9, a9b⟩ (fun i hi => by obtain ⟨b1, b2, f, b3, b4⟩ := a10 i hi; exact ⟨b1, by omega, f, ((fun i _ _ => rfl) _ b1 b2).trans b3, b4⟩) a11⟩
    show _ = some (oB 3 [.int (nI 0), .int (nI σ.1.1), .ref 54, .ref 55, .int (nI (if v then σ.1.2.1 ||| 2 ^ k else sdf σ.1.2.1 (2 ^ k))), .int (nI σ.2.1.2.1), .int (nI σ.2.1.2.2), .int (nI σ.2.1.1), .ref 56, .ref 57, .ref 58])
    rw [e9]
    exact a4
  · skip
    refine J_aload_n (i := 0) (pc := 47) dX3_check_47 rfl rfl ?_
    refine J_dup (pc := 48) dX3_check_48 rfl ?_
    refine J_getf (k := 4) (pc := 49) dX3_check_49 flX3_47 a4 rfl ?_
    refine J_iconst (v := nI (1)) (pc := 52) dX3_check_52 rfl ?_
    refine J_iload_n (i := 1) (pc := 53) dX3_check_53 rfl rfl ?_
    refine J_ishlN (pc := 54) dX3_check_54 (by omega) ?_
    refine J_ixorN (pc := 55) dX3_check_55 ?_
    refine J_putf (k := 4) (pc := 56) dX3_check_56 fpX3_check_47 (fun g => ⟨rfl, rfl⟩) a4 (Nat.le_of_ble_eq_true rfl) ?_
    obtain ⟨h_3, eh_3⟩ : ∃ z : MH, z = (h_1.1, hset h_1.2 (53) (oB 3 [.int (nI (0)), .int (nI (σ.1.1)), .ref (54), .ref (55), .int (nI ((σ.1.2.1) ^^^ (2 ^ (k)))), .int (nI (σ.2.1.2.1)), .int (nI (σ.2.1.2.2)), .int (nI (σ.2.1.1)), .ref (56), .ref (57), .ref (58)])) := ⟨_, rfl⟩
    refine J_heq (h2 := h_3) eh_3 ?_
    have zh_3 : h_3.1 = h_1.1 := by rw [eh_3]
    have H_4 : h_3.2 (53) = some (oB 3 [.int (nI (0)), .int (nI (σ.1.1)), .ref (54), .ref (55), .int (nI ((σ.1.2.1) ^^^ (2 ^ (k)))), .int (nI (σ.2.1.2.1)), .int (nI (σ.2.1.2.2)), .int (nI (σ.2.1.1)), .ref (56), .ref (57), .ref (58)]) := hs_s eh_3
    have H_5 : h_3.2 (54) = some (aI (60) (mf)) := (hs_n eh_3 (by omega)).trans a5
    have H_6 : h_3.2 (55) = some (aI (20) (sf)) := (hs_n eh_3 (by omega)).trans a6
    have H_7 : h_3.2 (56) = some (aG (5) (rf)) := (hs_n eh_3 (by omega)).trans a7
    have H_8 : h_3.2 (57) = some (aI (5) (pf)) := (hs_n eh_3 (by omega)).trans a8
    have H_9 : h_3.2 (58) = some (aI (5) (lf)) := (hs_n eh_3 (by omega)).trans a9
    have H_10 : FM h h_3 := by rw [eh_3]; exact FM_st fm1 (by omega) (by omega) rfl
    have H_11 : (∀ i, 60 ≤ i → i < h_1.1 → h_3.2 i = h_1.2 i) := by rw [eh_3]; exact (fun i i1 i2 => (hset_n (by omega)).trans ((fun i _ _ => rfl) i i1 i2))
    refine J_iload_n (i := 3) (pc := 59) dX3_check_59 rfl rfl ?_
    refine J_iret (ty := .boolean) (pc := 60) dX3_check_60 rfl (nar_b _) ?_
    have e9 : (if v then σ.1.2.1 ||| 2 ^ k else sdf σ.1.2.1 (2 ^ k)) = σ.1.2.1 ^^^ 2 ^ k := ck_flip (fun q => c44 (bI_inj.mpr q))
    refine ⟨rfl, H_10, ρ, MP_mk (h := h) (σ := σ) (σ' := (checkB σ.1 k v, σ.2)) (ρ := ρ) (WF_check a1 hk v) a2 (by omega) ?_ ⟨mf, H_5, a5b⟩ ⟨sf, H_6, a6b⟩ ⟨rf, H_7, a7b⟩ ⟨pf, H_8, a8b⟩ ⟨lf, H_9, a9b⟩ (fun i hi => by obtain ⟨b1, b2, f, b3, b4⟩ := a10 i hi; exact ⟨b1, by omega, f, (H_11 _ b1 b2).trans b3, b4⟩) a11⟩
    show _ = some (oB 3 [.int (nI 0), .int (nI σ.1.1), .ref 54, .ref 55, .int (nI (if v then σ.1.2.1 ||| 2 ^ k else sdf σ.1.2.1 (2 ^ k))), .int (nI σ.2.1.2.1), .int (nI σ.2.1.2.2), .int (nI σ.2.1.1), .ref 56, .ref 57, .ref 58])
    rw [e9]
    exact H_4

set_option maxHeartbeats 2000000 in
set_option maxRecDepth 20000 in
theorem m_checkX1 {g : GT} {dd : Nat} {h : MH} {σ : ST} {ρ : Nat → Nat} {th : Int32} (hP : MP h σ ρ th) {x : Int32} {v : Bool} (hx : ¬ (0 ≤ x.toInt ∧ x.toInt < (σ.1.1 : Int))) : J g (dd + 1) 0 0 mX3_check 0 (lv_args 0 [.ref (53), .int (x), .int (bI (v))]) [] h (RMo (.int (nI 0)) h σ (nI 1)) := by
  have a40 := hP.2.2.2.1
  have hz0 := hP.2.2.1
  refine J_aload_n (i := 0) (pc := 0) dX3_check_0 rfl rfl ?_
  refine J_iconst (v := nI (0)) (pc := 1) dX3_check_1 rfl ?_
  refine J_putf (k := 0) (pc := 2) dX3_check_2 fpX3_check_34 (fun g => ⟨rfl, rfl⟩) a40 (Nat.le_of_ble_eq_true rfl) ?_
  obtain ⟨h_1, eh_1⟩ : ∃ z : MH, z = (h.1, hset h.2 (53) (oB 3 [.int (nI (0)), .int (nI (σ.1.1)), .ref (54), .ref (55), .int (nI (σ.1.2.1)), .int (nI (σ.2.1.2.1)), .int (nI (σ.2.1.2.2)), .int (nI (σ.2.1.1)), .ref (56), .ref (57), .ref (58)])) := ⟨_, rfl⟩
  refine J_heq (h2 := h_1) eh_1 ?_
  have zh_1 : h_1.1 = h.1 := by rw [eh_1]
  have H_2 : h_1.2 (53) = some (oB 3 [.int (nI (0)), .int (nI (σ.1.1)), .ref (54), .ref (55), .int (nI (σ.1.2.1)), .int (nI (σ.2.1.2.1)), .int (nI (σ.2.1.2.2)), .int (nI (σ.2.1.1)), .ref (56), .ref (57), .ref (58)]) := hs_s eh_1
  have hP1 : MP h_1 σ ρ (nI 0) := MP_53 hP eh_1
  have fm1 : FM h h_1 := FM_set eh_1 (by decide) (by decide)
  obtain ⟨a1, a2, a3, a4, ⟨mf, a5, a5b⟩, ⟨sf, a6, a6b⟩, ⟨rf, a7, a7b⟩, ⟨pf, a8, a8b⟩, ⟨lf, a9, a9b⟩, a10, a11⟩ := id hP1
  obtain ⟨o1, o2, o3, o4⟩ := id a2
  have hM := MP_MS hP1
  obtain ⟨hn, hc9, hm5, hs2⟩ := id a1
  have hp9 := pw_le hn
  refine J_iload_n (i := 1) (pc := 5) dX3_check_5 rfl rfl ?_
  refine J_iconst (v := nI (0)) (pc := 6) dX3_check_6 rfl ?_
  refine J_aload_n (i := 0) (pc := 7) dX3_check_7 rfl rfl ?_
  refine J_getf (k := 1) (pc := 8) dX3_check_8 flX3_44 a4 rfl ?_
  refine J_iconst (v := nI (1)) (pc := 11) dX3_check_11 rfl ?_
  refine J_isub (pc := 12) dX3_check_12 ?_
  refine J_cSi (st := []) (As := [.int (x), .int (nI (0)), .int (nI (σ.1.1) - nI (1))]) (pc := 13) dX3_check_13 okX3_isIn q3_166 q3_167 rfl (Nat.le_of_ble_eq_true rfl) (Nat.le_of_ble_eq_true rfl) (m_isInF (fun q => hx ⟨by have := q.1; rw [nI_toInt (by omega)] at this; exact this, by have := q.2; rw [pk_sub_toInt (by omega) (by omega)] at this; omega⟩)) ?_
  refine J_if_neN (tgt := 33) (pc := 16) dX3_check_16 (by decide) (by omega) (fun c16 => by exfalso; first | omega | simp_all) (fun c16 => ?_)
  refine J_aload_n (i := 0) (pc := 19) dX3_check_19 rfl rfl ?_
  refine J_iconst (v := nI (1)) (pc := 20) dX3_check_20 rfl ?_
  refine J_cVh (st := []) (As := [.int (nI (1))]) (pc := 21) dX3_check_21 okX3_no q3_169 q3_171 qs1_13 (rfl : vwCl[3]? = some _) a4 rfl (Nat.le_of_ble_eq_true rfl) (Nat.le_of_ble_eq_true rfl) (m_no hP1) (fun h_3 q_4 => ?_)
  refine J_if_le (tgt := 31) (pc := 24) dX3_check_24 (by decide) (fun c24 => ?_) (fun c24 => absurd c24 (fun q => q (by decide)))
  refine J_iconst (v := nI (0)) (pc := 31) dX3_check_31 rfl ?_
  refine J_iret (ty := .boolean) (pc := 32) dX3_check_32 rfl rfl ?_
  exact ⟨rfl, FM_tr fm1 q_4.1, ρ, q_4.2⟩

set_option maxHeartbeats 2000000 in
set_option maxRecDepth 20000 in
theorem m_bean {g : GT} {dd : Nat} {h : MH} {σ : ST} {ρ : Nat → Nat} {th : Int32} (hP : MP h σ ρ th) {a b c s : Nat} (hk : σ.1.1 < 20) (ha : a ≤ 50) (hb : b ≤ 50) (hc : c ≤ 50) (hs : s ≤ 2) : J g (dd + 2) 1 3 mX3_bean 0 (lv_args 0 [.ref (53), .int (nI (a)), .int (nI (b)), .int (nI (c)), .int (nI (s))]) [] h (RMo (.int (nI σ.1.1)) h ((addB σ.1 a b c s, σ.2)) (nI 0)) := by
  have a40 := hP.2.2.2.1
  have hz0 := hP.2.2.1
  refine J_aload_n (i := 0) (pc := 0) dX3_bean_0 rfl rfl ?_
  refine J_iconst (v := nI (0)) (pc := 1) dX3_bean_1 rfl ?_
  refine J_putf (k := 0) (pc := 2) dX3_bean_2 fpX3_bean_34 (fun g => ⟨rfl, rfl⟩) a40 (Nat.le_of_ble_eq_true rfl) ?_
  obtain ⟨h_1, eh_1⟩ : ∃ z : MH, z = (h.1, hset h.2 (53) (oB 3 [.int (nI (0)), .int (nI (σ.1.1)), .ref (54), .ref (55), .int (nI (σ.1.2.1)), .int (nI (σ.2.1.2.1)), .int (nI (σ.2.1.2.2)), .int (nI (σ.2.1.1)), .ref (56), .ref (57), .ref (58)])) := ⟨_, rfl⟩
  refine J_heq (h2 := h_1) eh_1 ?_
  have zh_1 : h_1.1 = h.1 := by rw [eh_1]
  have H_2 : h_1.2 (53) = some (oB 3 [.int (nI (0)), .int (nI (σ.1.1)), .ref (54), .ref (55), .int (nI (σ.1.2.1)), .int (nI (σ.2.1.2.1)), .int (nI (σ.2.1.2.2)), .int (nI (σ.2.1.1)), .ref (56), .ref (57), .ref (58)]) := hs_s eh_1
  have hP1 : MP h_1 σ ρ (nI 0) := MP_53 hP eh_1
  have fm1 : FM h h_1 := FM_set eh_1 (by decide) (by decide)
  obtain ⟨a1, a2, a3, a4, ⟨mf, a5, a5b⟩, ⟨sf, a6, a6b⟩, ⟨rf, a7, a7b⟩, ⟨pf, a8, a8b⟩, ⟨lf, a9, a9b⟩, a10, a11⟩ := id hP1
  obtain ⟨o1, o2, o3, o4⟩ := id a2
  have hM := MP_MS hP1
  obtain ⟨hn, hc9, hm5, hs2⟩ := id a1
  have hp9 := pw_le hn
  refine J_iload_n (i := 1) (pc := 5) dX3_bean_5 rfl rfl ?_
  refine J_iload_n (i := 2) (pc := 6) dX3_bean_6 rfl rfl ?_
  refine J_iload_n (i := 3) (pc := 7) dX3_bean_7 rfl rfl ?_
  refine J_cSi (st := []) (As := [.int (nI (a)), .int (nI (b)), .int (nI (c))]) (pc := 8) dX3_bean_8 okX3_isMeasure q3_163 q3_164 rfl (Nat.le_of_ble_eq_true rfl) (Nat.le_of_ble_eq_true rfl) (m_isMeasureT ⟨inZ_nI (by omega) (by omega) (by decide), inZ_nI (by omega) (by omega) (by decide), inZ_nI (by omega) (by omega) (by decide)⟩) ?_
  refine J_if_eqN (tgt := 24) (pc := 11) dX3_bean_11 (by decide) (by omega) (fun c11 => by exfalso; first | omega | simp_all) (fun c11 => ?_)
  refine J_iload (i := 4) (pc := 14) dX3_bean_14 rfl ?_
  refine J_iconst (v := nI (0)) (pc := 16) dX3_bean_16 rfl ?_
  refine J_iconst (v := nI (2)) (pc := 17) dX3_bean_17 rfl ?_
  refine J_cSi (st := []) (As := [.int (nI (s)), .int (nI (0)), .int (nI (2))]) (pc := 18) dX3_bean_18 okX3_isIn q3_166 q3_167 rfl (Nat.le_of_ble_eq_true rfl) (Nat.le_of_ble_eq_true rfl) (m_inT (by omega) (by omega) (inZ_nI (by omega) (by omega) (by decide))) ?_
  refine J_if_neN (tgt := 30) (pc := 21) dX3_bean_21 (by decide) (by omega) (fun c21 => ?_) (fun c21 => by exfalso; first | omega | simp_all)
  refine J_aload_n (i := 0) (pc := 30) dX3_bean_30 rfl rfl ?_
  refine J_getf (k := 1) (pc := 31) dX3_bean_31 flX3_44 a4 rfl ?_
  refine J_bipush (v := nI (20)) (pc := 34) dX3_bean_34 rfl ?_
  refine J_icmp_neN (tgt := 45) (pc := 36) dX3_bean_36 (by decide) (by omega) (by omega) (fun c36 => ?_) (fun c36 => by exfalso; first | omega | simp_all)
  refine J_iconst (v := nI (3)) (pc := 45) dX3_bean_45 rfl ?_
  obtain ⟨A_3, eA_3⟩ : ∃ z : Nat, z = h_1.1 := ⟨_, rfl⟩
  obtain ⟨h_4, eh_4⟩ : ∃ z : MH, z = (A_3 + 1, hset h_1.2 A_3 (aI (3) (fun _ => 0))) := ⟨_, rfl⟩
  refine J_newIA (A := A_3) (h' := h_4) (n := 3) (ca' := 0) (sa' := 0) (pc := 46) dX3_bean_46 rfl (by decide) (by omega) (by omega) eA_3 eh_4 ?_
  have zh_4 : h_4.1 = A_3 + 1 := by rw [eh_4]
  have H_5 : h_4.2 (53) = some (oB 3 [.int (nI (0)), .int (nI (σ.1.1)), .ref (54), .ref (55), .int (nI (σ.1.2.1)), .int (nI (σ.2.1.2.1)), .int (nI (σ.2.1.2.2)), .int (nI (σ.2.1.1)), .ref (56), .ref (57), .ref (58)]) := (ha_n eh_4 (by omega)).trans a4
  have H_6 : h_4.2 (54) = some (aI (60) (mf)) := (ha_n eh_4 (by omega)).trans a5
  have H_7 : h_4.2 (55) = some (aI (20) (sf)) := (ha_n eh_4 (by omega)).trans a6
  have H_8 : h_4.2 (56) = some (aG (5) (rf)) := (ha_n eh_4 (by omega)).trans a7
  have H_9 : h_4.2 (57) = some (aI (5) (pf)) := (ha_n eh_4 (by omega)).trans a8
  have H_10 : h_4.2 (58) = some (aI (5) (lf)) := (ha_n eh_4 (by omega)).trans a9
  have H_11 : FM h h_4 := FM_new fm1 (by omega) eA_3 eh_4
  have H_12 : (∀ i, 60 ≤ i → i < h_1.1 → h_4.2 i = h_1.2 i) := (fun i i1 i2 => (ha_n eh_4 (by omega)).trans ((fun i _ _ => rfl) i i1 i2))
  have H_13 : h_4.2 (A_3) = some (aI (3) (fun _ => 0)) := ha_s eh_4
  refine J_dup (pc := 48) dX3_bean_48 rfl ?_
  refine J_iconst (v := nI (0)) (pc := 49) dX3_bean_49 rfl ?_
  refine J_iload_n (i := 1) (pc := 50) dX3_bean_50 rfl rfl ?_
  refine J_iast (j := 0) (pc := 51) dX3_bean_51 H_13 rfl (by omega) (by omega) ?_
  obtain ⟨h_14, eh_14⟩ : ∃ z : MH, z = (h_4.1, hset h_4.2 (A_3) (aI (3) (upd ((fun _ => 0)) (0) (nI (a))))) := ⟨_, rfl⟩
  refine J_heq (h2 := h_14) eh_14 ?_
  have zh_14 : h_14.1 = h_4.1 := by rw [eh_14]
  have H_15 : h_14.2 (53) = some (oB 3 [.int (nI (0)), .int (nI (σ.1.1)), .ref (54), .ref (55), .int (nI (σ.1.2.1)), .int (nI (σ.2.1.2.1)), .int (nI (σ.2.1.2.2)), .int (nI (σ.2.1.1)), .ref (56), .ref (57), .ref (58)]) := (hs_n eh_14 (by omega)).trans H_5
  have H_16 : h_14.2 (54) = some (aI (60) (mf)) := (hs_n eh_14 (by omega)).trans H_6
  have H_17 : h_14.2 (55) = some (aI (20) (sf)) := (hs_n eh_14 (by omega)).trans H_7
  have H_18 : h_14.2 (56) = some (aG (5) (rf)) := (hs_n eh_14 (by omega)).trans H_8
  have H_19 : h_14.2 (57) = some (aI (5) (pf)) := (hs_n eh_14 (by omega)).trans H_9
  have H_20 : h_14.2 (58) = some (aI (5) (lf)) := (hs_n eh_14 (by omega)).trans H_10
  have H_21 : FM h h_14 := by rw [eh_14]; exact FM_st H_11 (by omega) (by omega) rfl
  have H_22 : (∀ i, 60 ≤ i → i < h_1.1 → h_14.2 i = h_1.2 i) := by rw [eh_14]; exact (fun i i1 i2 => (hset_n (by omega)).trans (H_12 i i1 i2))
  have H_23 : h_14.2 (A_3) = some (aI (3) (upd ((fun _ => 0)) (0) (nI (a)))) := hs_s eh_14
  refine J_dup (pc := 52) dX3_bean_52 rfl ?_
  refine J_iconst (v := nI (1)) (pc := 53) dX3_bean_53 rfl ?_
  refine J_iload_n (i := 2) (pc := 54) dX3_bean_54 rfl rfl ?_
  refine J_iast (j := 1) (pc := 55) dX3_bean_55 H_23 rfl (by omega) (by omega) ?_
  obtain ⟨h_24, eh_24⟩ : ∃ z : MH, z = (h_14.1, hset h_14.2 (A_3) (aI (3) (upd (upd ((fun _ => 0)) (0) (nI (a))) (1) (nI (b))))) := ⟨_, rfl⟩
  refine J_heq (h2 := h_24) eh_24 ?_
  have zh_24 : h_24.1 = h_14.1 := by rw [eh_24]
  have H_25 : h_24.2 (53) = some (oB 3 [.int (nI (0)), .int (nI (σ.1.1)), .ref (54), .ref (55), .int (nI (σ.1.2.1)), .int (nI (σ.2.1.2.1)), .int (nI (σ.2.1.2.2)), .int (nI (σ.2.1.1)), .ref (56), .ref (57), .ref (58)]) := (hs_n eh_24 (by omega)).trans H_15
  have H_26 : h_24.2 (54) = some (aI (60) (mf)) := (hs_n eh_24 (by omega)).trans H_16
  have H_27 : h_24.2 (55) = some (aI (20) (sf)) := (hs_n eh_24 (by omega)).trans H_17
  have H_28 : h_24.2 (56) = some (aG (5) (rf)) := (hs_n eh_24 (by omega)).trans H_18
  have H_29 : h_24.2 (57) = some (aI (5) (pf)) := (hs_n eh_24 (by omega)).trans H_19
  have H_30 : h_24.2 (58) = some (aI (5) (lf)) := (hs_n eh_24 (by omega)).trans H_20
  have H_31 : FM h h_24 := by rw [eh_24]; exact FM_st H_21 (by omega) (by omega) rfl
  have H_32 : (∀ i, 60 ≤ i → i < h_1.1 → h_24.2 i = h_1.2 i) := by rw [eh_24]; exact (fun i i1 i2 => (hset_n (by omega)).trans (H_22 i i1 i2))
  have H_33 : h_24.2 (A_3) = some (aI (3) (upd (upd ((fun _ => 0)) (0) (nI (a))) (1) (nI (b)))) := hs_s eh_24
  refine J_dup (pc := 56) dX3_bean_56 rfl ?_
  refine J_iconst (v := nI (2)) (pc := 57) dX3_bean_57 rfl ?_
  refine J_iload_n (i := 3) (pc := 58) dX3_bean_58 rfl rfl ?_
  refine J_iast (j := 2) (pc := 59) dX3_bean_59 H_33 rfl (by omega) (by omega) ?_
  obtain ⟨h_34, eh_34⟩ : ∃ z : MH, z = (h_24.1, hset h_24.2 (A_3) (aI (3) (upd (upd (upd ((fun _ => 0)) (0) (nI (a))) (1) (nI (b))) (2) (nI (c))))) := ⟨_, rfl⟩
  refine J_heq (h2 := h_34) eh_34 ?_
  have zh_34 : h_34.1 = h_24.1 := by rw [eh_34]
  have H_35 : h_34.2 (53) = some (oB 3 [.int (nI (0)), .int (nI (σ.1.1)), .ref (54), .ref (55), .int (nI (σ.1.2.1)), .int (nI (σ.2.1.2.1)), .int (nI (σ.2.1.2.2)), .int (nI (σ.2.1.1)), .ref (56), .ref (57), .ref (58)]) := (hs_n eh_34 (by omega)).trans H_25
  have H_36 : h_34.2 (54) = some (aI (60) (mf)) := (hs_n eh_34 (by omega)).trans H_26
  have H_37 : h_34.2 (55) = some (aI (20) (sf)) := (hs_n eh_34 (by omega)).trans H_27
  have H_38 : h_34.2 (56) = some (aG (5) (rf)) := (hs_n eh_34 (by omega)).trans H_28
  have H_39 : h_34.2 (57) = some (aI (5) (pf)) := (hs_n eh_34 (by omega)).trans H_29
  have H_40 : h_34.2 (58) = some (aI (5) (lf)) := (hs_n eh_34 (by omega)).trans H_30
  have H_41 : FM h h_34 := by rw [eh_34]; exact FM_st H_31 (by omega) (by omega) rfl
  have H_42 : (∀ i, 60 ≤ i → i < h_1.1 → h_34.2 i = h_1.2 i) := by rw [eh_34]; exact (fun i i1 i2 => (hset_n (by omega)).trans (H_32 i i1 i2))
  have H_43 : h_34.2 (A_3) = some (aI (3) (upd (upd (upd ((fun _ => 0)) (0) (nI (a))) (1) (nI (b))) (2) (nI (c)))) := hs_s eh_34
  refine J_astore (i := 5) (lv' := [(5, .ref (A_3)), (0, .ref (53)), (1, .int (nI (a))), (2, .int (nI (b))), (3, .int (nI (c))), (4, .int (nI (s)))]) (pc := 60) dX3_bean_60 (by decide) rfl ?_
  refine J_aload (i := 5) (pc := 62) dX3_bean_62 rfl ?_
  refine J_iconst (v := nI (0)) (pc := 64) dX3_bean_64 rfl ?_
  refine J_aload_n (i := 0) (pc := 65) dX3_bean_65 rfl rfl ?_
  refine J_getf (k := 2) (pc := 66) dX3_bean_66 flX3_9 H_35 rfl ?_
  refine J_iconst (v := nI (3)) (pc := 69) dX3_bean_69 rfl ?_
  refine J_aload_n (i := 0) (pc := 70) dX3_bean_70 rfl rfl ?_
  refine J_getf (k := 1) (pc := 71) dX3_bean_71 flX3_44 H_35 rfl ?_
  refine J_imulN (pc := 74) dX3_bean_74 ?_
  refine J_iconst (v := nI (3)) (pc := 75) dX3_bean_75 rfl ?_
  refine J_copyI (st := []) (pc := 76) dX3_bean_76 q3_173 H_43 H_36 rfl rfl rfl (by omega) (by omega) (by omega) (by omega) (Nat.le_of_ble_eq_true rfl) ?_
  obtain ⟨h_44, eh_44⟩ : ∃ z : MH, z = (h_34.1, hset h_34.2 (54) (aI (60) (va_cpy (upd (upd (upd ((fun _ => 0)) (0) (nI (a))) (1) (nI (b))) (2) (nI (c))) mf (0) ((3) * (σ.1.1)) (3)))) := ⟨_, rfl⟩
  refine J_heq (h2 := h_44) eh_44 ?_
  have zh_44 : h_44.1 = h_34.1 := by rw [eh_44]
  have H_45 : h_44.2 (53) = some (oB 3 [.int (nI (0)), .int (nI (σ.1.1)), .ref (54), .ref (55), .int (nI (σ.1.2.1)), .int (nI (σ.2.1.2.1)), .int (nI (σ.2.1.2.2)), .int (nI (σ.2.1.1)), .ref (56), .ref (57), .ref (58)]) := (hs_n eh_44 (by omega)).trans H_35
  have H_46 : h_44.2 (54) = some (aI (60) (va_cpy (upd (upd (upd ((fun _ => 0)) (0) (nI (a))) (1) (nI (b))) (2) (nI (c))) mf (0) ((3) * (σ.1.1)) (3))) := hs_s eh_44
  have H_47 : h_44.2 (55) = some (aI (20) (sf)) := (hs_n eh_44 (by omega)).trans H_37
  have H_48 : h_44.2 (56) = some (aG (5) (rf)) := (hs_n eh_44 (by omega)).trans H_38
  have H_49 : h_44.2 (57) = some (aI (5) (pf)) := (hs_n eh_44 (by omega)).trans H_39
  have H_50 : h_44.2 (58) = some (aI (5) (lf)) := (hs_n eh_44 (by omega)).trans H_40
  have H_51 : FM h h_44 := by rw [eh_44]; exact FM_st H_41 (by omega) (by omega) rfl
  have H_52 : (∀ i, 60 ≤ i → i < h_1.1 → h_44.2 i = h_1.2 i) := by rw [eh_44]; exact (fun i i1 i2 => (hset_n (by omega)).trans (H_42 i i1 i2))
  have H_53 : h_44.2 (A_3) = some (aI (3) (upd (upd (upd ((fun _ => 0)) (0) (nI (a))) (1) (nI (b))) (2) (nI (c)))) := (hs_n eh_44 (by omega)).trans H_43
  refine J_aload_n (i := 0) (pc := 79) dX3_bean_79 rfl rfl ?_
  refine J_getf (k := 3) (pc := 80) dX3_bean_80 flX3_13 H_45 rfl ?_
  refine J_aload_n (i := 0) (pc := 83) dX3_bean_83 rfl rfl ?_
  refine J_getf (k := 1) (pc := 84) dX3_bean_84 flX3_44 H_45 rfl ?_
  refine J_iload (i := 4) (pc := 87) dX3_bean_87 rfl ?_
  refine J_iast (j := σ.1.1) (pc := 89) dX3_bean_89 H_47 rfl (by omega) (by omega) ?_
  obtain ⟨h_54, eh_54⟩ : ∃ z : MH, z = (h_44.1, hset h_44.2 (55) (aI (20) (upd sf (σ.1.1) (nI (s))))) := ⟨_, rfl⟩
  refine J_heq (h2 := h_54) eh_54 ?_
  have zh_54 : h_54.1 = h_44.1 := by rw [eh_54]
  have H_55 : h_54.2 (53) = some (oB 3 [.int (nI (0)), .int (nI (σ.1.1)), .ref (54), .ref (55), .int (nI (σ.1.2.1)), .int (nI (σ.2.1.2.1)), .int (nI (σ.2.1.2.2)), .int (nI (σ.2.1.1)), .ref (56), .ref (57), .ref (58)]) := (hs_n eh_54 (by omega)).trans H_45
  have H_56 : h_54.2 (54) = some (aI (60) (va_cpy (upd (upd (upd ((fun _ => 0)) (0) (nI (a))) (1) (nI (b))) (2) (nI (c))) mf (0) ((3) * (σ.1.1)) (3))) := (hs_n eh_54 (by omega)).trans H_46
  have H_57 : h_54.2 (55) = some (aI (20) (upd sf (σ.1.1) (nI (s)))) := hs_s eh_54
  have H_58 : h_54.2 (56) = some (aG (5) (rf)) := (hs_n eh_54 (by omega)).trans H_48
  have H_59 : h_54.2 (57) = some (aI (5) (pf)) := (hs_n eh_54 (by omega)).trans H_49
  have H_60 : h_54.2 (58) = some (aI (5) (lf)) := (hs_n eh_54 (by omega)).trans H_50
  have H_61 : FM h h_54 := by rw [eh_54]; exact FM_st H_51 (by omega) (by omega) rfl
  have H_62 : (∀ i, 60 ≤ i → i < h_1.1 → h_54.2 i = h_1.2 i) := by rw [eh_54]; exact (fun i i1 i2 => (hset_n (by omega)).trans (H_52 i i1 i2))
  have H_63 : h_54.2 (A_3) = some (aI (3) (upd (upd (upd ((fun _ => 0)) (0) (nI (a))) (1) (nI (b))) (2) (nI (c)))) := (hs_n eh_54 (by omega)).trans H_53
  refine J_aload_n (i := 0) (pc := 90) dX3_bean_90 rfl rfl ?_
  refine J_dup (pc := 91) dX3_bean_91 rfl ?_
  refine J_getf (k := 1) (pc := 92) dX3_bean_92 flX3_44 H_55 rfl ?_
  refine J_iconst (v := nI (1)) (pc := 95) dX3_bean_95 rfl ?_
  refine J_iaddN (pc := 96) dX3_bean_96 ?_
  refine J_putf (k := 1) (pc := 97) dX3_bean_97 fpX3_bean_44 (fun g => ⟨rfl, rfl⟩) H_55 (Nat.le_of_ble_eq_true rfl) ?_
  obtain ⟨h_64, eh_64⟩ : ∃ z : MH, z = (h_54.1, hset h_54.2 (53) (oB 3 [.int (nI (0)), .int (nI (σ.1.1 + 1)), .ref (54), .ref (55), .int (nI (σ.1.2.1)), .int (nI (σ.2.1.2.1)), .int (nI (σ.2.1.2.2)), .int (nI (σ.2.1.1)), .ref (56), .ref (57), .ref (58)])) := ⟨_, rfl⟩
  refine J_heq (h2 := h_64) eh_64 ?_
  have zh_64 : h_64.1 = h_54.1 := by rw [eh_64]
  have H_65 : h_64.2 (53) = some (oB 3 [.int (nI (0)), .int (nI (σ.1.1 + 1)), .ref (54), .ref (55), .int (nI (σ.1.2.1)), .int (nI (σ.2.1.2.1)), .int (nI (σ.2.1.2.2)), .int (nI (σ.2.1.1)), .ref (56), .ref (57), .ref (58)]) := hs_s eh_64
  have H_66 : h_64.2 (54) = some (aI (60) (va_cpy (upd (upd (upd ((fun _ => 0)) (0) (nI (a))) (1) (nI (b))) (2) (nI (c))) mf (0) ((3) * (σ.1.1)) (3))) := (hs_n eh_64 (by omega)).trans H_56
  have H_67 : h_64.2 (55) = some (aI (20) (upd sf (σ.1.1) (nI (s)))) := (hs_n eh_64 (by omega)).trans H_57
  have H_68 : h_64.2 (56) = some (aG (5) (rf)) := (hs_n eh_64 (by omega)).trans H_58
  have H_69 : h_64.2 (57) = some (aI (5) (pf)) := (hs_n eh_64 (by omega)).trans H_59
  have H_70 : h_64.2 (58) = some (aI (5) (lf)) := (hs_n eh_64 (by omega)).trans H_60
  have H_71 : FM h h_64 := by rw [eh_64]; exact FM_st H_61 (by omega) (by omega) rfl
  have H_72 : (∀ i, 60 ≤ i → i < h_1.1 → h_64.2 i = h_1.2 i) := by rw [eh_64]; exact (fun i i1 i2 => (hset_n (by omega)).trans (H_62 i i1 i2))
  have H_73 : h_64.2 (A_3) = some (aI (3) (upd (upd (upd ((fun _ => 0)) (0) (nI (a))) (1) (nI (b))) (2) (nI (c)))) := (hs_n eh_64 (by omega)).trans H_63
  refine J_aload_n (i := 0) (pc := 100) dX3_bean_100 rfl rfl ?_
  refine J_getf (k := 1) (pc := 101) dX3_bean_101 flX3_44 H_65 rfl ?_
  refine J_iconst (v := nI (1)) (pc := 104) dX3_bean_104 rfl ?_
  refine J_isubN (pc := 105) dX3_bean_105 (by omega) ?_
  refine J_iret (ty := .int) (pc := 106) dX3_bean_106 rfl rfl ?_
  refine ⟨congrArg (fun z : Nat => (Sum.inl (some (Value.int (nI z))) : RT)) (by omega), H_71, ρ, MP_mk (h := h) (σ := σ) (σ' := (addB σ.1 a b c s, σ.2)) (ρ := ρ) (WF_add a1 hk (by omega) (by omega) (by omega) (by omega)) a2 (by omega) H_65 ⟨_, H_66, ?_⟩ ⟨_, H_67, ?_⟩ ⟨rf, H_68, a7b⟩ ⟨pf, H_69, a8b⟩ ⟨lf, H_70, a9b⟩ (fun i hi => by obtain ⟨b1, b2, f, b3, b4⟩ := a10 i hi; exact ⟨b1, by omega, f, (H_72 _ b1 b2).trans b3, b4⟩) a11⟩
  · intro m k hm hk9
    show _ = nI (if k = σ.1.1 then (if m = 0 then a else if m = 1 then b else c) else σ.1.2.2.1 m k)
    have hk2 : k < σ.1.1 + 1 := hk9
    by_cases e : k = σ.1.1
    · subst e
      rw [if_pos rfl, pk_cpy_in (by omega) (by omega), show 0 + (3 * σ.1.1 + m - 3 * σ.1.1) = m by omega]
      obtain rfl | rfl | rfl : m = 0 ∨ m = 1 ∨ m = 2 := by omega
      · rfl
      · rfl
      · rfl
    · rw [if_neg e, pk_cpy_out (by omega)]
      exact a5b m k hm (by omega)
  · intro k hk9
    have hk2 : k < σ.1.1 + 1 := hk9
    show (if k = σ.1.1 then _ else _) = nI (if k = σ.1.1 then s else σ.1.2.2.2 k)
    by_cases e : k = σ.1.1
    · rw [if_pos e, if_pos e]
    · rw [if_neg e, if_neg e]
      exact a6b k (by omega)

set_option maxHeartbeats 2000000 in
set_option maxRecDepth 20000 in
theorem m_beanX1 {g : GT} {dd : Nat} {h : MH} {σ : ST} {ρ : Nat → Nat} {th : Int32} (hP : MP h σ ρ th) {a b c s : Int32} (hm : ¬ inM a b c) : J g (dd + 2) 0 0 mX3_bean 0 (lv_args 0 [.ref (53), .int (a), .int (b), .int (c), .int (s)]) [] h (RMo (.int (nI 0)) h σ (nI 1)) := by
  have a40 := hP.2.2.2.1
  have hz0 := hP.2.2.1
  refine J_aload_n (i := 0) (pc := 0) dX3_bean_0 rfl rfl ?_
  refine J_iconst (v := nI (0)) (pc := 1) dX3_bean_1 rfl ?_
  refine J_putf (k := 0) (pc := 2) dX3_bean_2 fpX3_bean_34 (fun g => ⟨rfl, rfl⟩) a40 (Nat.le_of_ble_eq_true rfl) ?_
  obtain ⟨h_1, eh_1⟩ : ∃ z : MH, z = (h.1, hset h.2 (53) (oB 3 [.int (nI (0)), .int (nI (σ.1.1)), .ref (54), .ref (55), .int (nI (σ.1.2.1)), .int (nI (σ.2.1.2.1)), .int (nI (σ.2.1.2.2)), .int (nI (σ.2.1.1)), .ref (56), .ref (57), .ref (58)])) := ⟨_, rfl⟩
  refine J_heq (h2 := h_1) eh_1 ?_
  have zh_1 : h_1.1 = h.1 := by rw [eh_1]
  have H_2 : h_1.2 (53) = some (oB 3 [.int (nI (0)), .int (nI (σ.1.1)), .ref (54), .ref (55), .int (nI (σ.1.2.1)), .int (nI (σ.2.1.2.1)), .int (nI (σ.2.1.2.2)), .int (nI (σ.2.1.1)), .ref (56), .ref (57), .ref (58)]) := hs_s eh_1
  have hP1 : MP h_1 σ ρ (nI 0) := MP_53 hP eh_1
  have fm1 : FM h h_1 := FM_set eh_1 (by decide) (by decide)
  obtain ⟨a1, a2, a3, a4, ⟨mf, a5, a5b⟩, ⟨sf, a6, a6b⟩, ⟨rf, a7, a7b⟩, ⟨pf, a8, a8b⟩, ⟨lf, a9, a9b⟩, a10, a11⟩ := id hP1
  obtain ⟨o1, o2, o3, o4⟩ := id a2
  have hM := MP_MS hP1
  obtain ⟨hn, hc9, hm5, hs2⟩ := id a1
  have hp9 := pw_le hn
  refine J_iload_n (i := 1) (pc := 5) dX3_bean_5 rfl rfl ?_
  refine J_iload_n (i := 2) (pc := 6) dX3_bean_6 rfl rfl ?_
  refine J_iload_n (i := 3) (pc := 7) dX3_bean_7 rfl rfl ?_
  refine J_cSi (st := []) (As := [.int (a), .int (b), .int (c)]) (pc := 8) dX3_bean_8 okX3_isMeasure q3_163 q3_164 rfl (Nat.le_of_ble_eq_true rfl) (Nat.le_of_ble_eq_true rfl) (m_isMeasureF hm) ?_
  refine J_if_eqN (tgt := 24) (pc := 11) dX3_bean_11 (by decide) (by omega) (fun c11 => ?_) (fun c11 => by exfalso; first | omega | simp_all)
  refine J_aload_n (i := 0) (pc := 24) dX3_bean_24 rfl rfl ?_
  refine J_iconst (v := nI (1)) (pc := 25) dX3_bean_25 rfl ?_
  refine J_cVh (st := []) (As := [.int (nI (1))]) (pc := 26) dX3_bean_26 okX3_no q3_169 q3_171 qs1_13 (rfl : vwCl[3]? = some _) a4 rfl (Nat.le_of_ble_eq_true rfl) (Nat.le_of_ble_eq_true rfl) (m_no hP1) (fun h_3 q_4 => ?_)
  refine J_iret (ty := .int) (pc := 29) dX3_bean_29 rfl rfl ?_
  exact ⟨rfl, FM_tr fm1 q_4.1, ρ, q_4.2⟩

set_option maxHeartbeats 2000000 in
set_option maxRecDepth 20000 in
theorem m_beanX2 {g : GT} {dd : Nat} {h : MH} {σ : ST} {ρ : Nat → Nat} {th : Int32} (hP : MP h σ ρ th) {a b c s : Int32} (hm : inM a b c) (hs : ¬ inZ 0 2 s) : J g (dd + 2) 0 0 mX3_bean 0 (lv_args 0 [.ref (53), .int (a), .int (b), .int (c), .int (s)]) [] h (RMo (.int (nI 0)) h σ (nI 1)) := by
  have a40 := hP.2.2.2.1
  have hz0 := hP.2.2.1
  refine J_aload_n (i := 0) (pc := 0) dX3_bean_0 rfl rfl ?_
  refine J_iconst (v := nI (0)) (pc := 1) dX3_bean_1 rfl ?_
  refine J_putf (k := 0) (pc := 2) dX3_bean_2 fpX3_bean_34 (fun g => ⟨rfl, rfl⟩) a40 (Nat.le_of_ble_eq_true rfl) ?_
  obtain ⟨h_1, eh_1⟩ : ∃ z : MH, z = (h.1, hset h.2 (53) (oB 3 [.int (nI (0)), .int (nI (σ.1.1)), .ref (54), .ref (55), .int (nI (σ.1.2.1)), .int (nI (σ.2.1.2.1)), .int (nI (σ.2.1.2.2)), .int (nI (σ.2.1.1)), .ref (56), .ref (57), .ref (58)])) := ⟨_, rfl⟩
  refine J_heq (h2 := h_1) eh_1 ?_
  have zh_1 : h_1.1 = h.1 := by rw [eh_1]
  have H_2 : h_1.2 (53) = some (oB 3 [.int (nI (0)), .int (nI (σ.1.1)), .ref (54), .ref (55), .int (nI (σ.1.2.1)), .int (nI (σ.2.1.2.1)), .int (nI (σ.2.1.2.2)), .int (nI (σ.2.1.1)), .ref (56), .ref (57), .ref (58)]) := hs_s eh_1
  have hP1 : MP h_1 σ ρ (nI 0) := MP_53 hP eh_1
  have fm1 : FM h h_1 := FM_set eh_1 (by decide) (by decide)
  obtain ⟨a1, a2, a3, a4, ⟨mf, a5, a5b⟩, ⟨sf, a6, a6b⟩, ⟨rf, a7, a7b⟩, ⟨pf, a8, a8b⟩, ⟨lf, a9, a9b⟩, a10, a11⟩ := id hP1
  obtain ⟨o1, o2, o3, o4⟩ := id a2
  have hM := MP_MS hP1
  obtain ⟨hn, hc9, hm5, hs2⟩ := id a1
  have hp9 := pw_le hn
  refine J_iload_n (i := 1) (pc := 5) dX3_bean_5 rfl rfl ?_
  refine J_iload_n (i := 2) (pc := 6) dX3_bean_6 rfl rfl ?_
  refine J_iload_n (i := 3) (pc := 7) dX3_bean_7 rfl rfl ?_
  refine J_cSi (st := []) (As := [.int (a), .int (b), .int (c)]) (pc := 8) dX3_bean_8 okX3_isMeasure q3_163 q3_164 rfl (Nat.le_of_ble_eq_true rfl) (Nat.le_of_ble_eq_true rfl) (m_isMeasureT hm) ?_
  refine J_if_eqN (tgt := 24) (pc := 11) dX3_bean_11 (by decide) (by omega) (fun c11 => by exfalso; first | omega | simp_all) (fun c11 => ?_)
  refine J_iload (i := 4) (pc := 14) dX3_bean_14 rfl ?_
  refine J_iconst (v := nI (0)) (pc := 16) dX3_bean_16 rfl ?_
  refine J_iconst (v := nI (2)) (pc := 17) dX3_bean_17 rfl ?_
  refine J_cSi (st := []) (As := [.int (s), .int (nI (0)), .int (nI (2))]) (pc := 18) dX3_bean_18 okX3_isIn q3_166 q3_167 rfl (Nat.le_of_ble_eq_true rfl) (Nat.le_of_ble_eq_true rfl) (m_inF (by omega) (by omega) (hs)) ?_
  refine J_if_neN (tgt := 30) (pc := 21) dX3_bean_21 (by decide) (by omega) (fun c21 => by exfalso; first | omega | simp_all) (fun c21 => ?_)
  refine J_aload_n (i := 0) (pc := 24) dX3_bean_24 rfl rfl ?_
  refine J_iconst (v := nI (1)) (pc := 25) dX3_bean_25 rfl ?_
  refine J_cVh (st := []) (As := [.int (nI (1))]) (pc := 26) dX3_bean_26 okX3_no q3_169 q3_171 qs1_13 (rfl : vwCl[3]? = some _) a4 rfl (Nat.le_of_ble_eq_true rfl) (Nat.le_of_ble_eq_true rfl) (m_no hP1) (fun h_3 q_4 => ?_)
  refine J_iret (ty := .int) (pc := 29) dX3_bean_29 rfl rfl ?_
  exact ⟨rfl, FM_tr fm1 q_4.1, ρ, q_4.2⟩

set_option maxHeartbeats 2000000 in
set_option maxRecDepth 20000 in
theorem m_beanX3 {g : GT} {dd : Nat} {h : MH} {σ : ST} {ρ : Nat → Nat} {th : Int32} (hP : MP h σ ρ th) {a b c s : Int32} (hm : inM a b c) (hs : inZ 0 2 s) (hk : 20 ≤ σ.1.1) : J g (dd + 2) 0 0 mX3_bean 0 (lv_args 0 [.ref (53), .int (a), .int (b), .int (c), .int (s)]) [] h (RMo (.int (nI 0)) h σ (nI 2)) := by
  have a40 := hP.2.2.2.1
  have hz0 := hP.2.2.1
  refine J_aload_n (i := 0) (pc := 0) dX3_bean_0 rfl rfl ?_
  refine J_iconst (v := nI (0)) (pc := 1) dX3_bean_1 rfl ?_
  refine J_putf (k := 0) (pc := 2) dX3_bean_2 fpX3_bean_34 (fun g => ⟨rfl, rfl⟩) a40 (Nat.le_of_ble_eq_true rfl) ?_
  obtain ⟨h_1, eh_1⟩ : ∃ z : MH, z = (h.1, hset h.2 (53) (oB 3 [.int (nI (0)), .int (nI (σ.1.1)), .ref (54), .ref (55), .int (nI (σ.1.2.1)), .int (nI (σ.2.1.2.1)), .int (nI (σ.2.1.2.2)), .int (nI (σ.2.1.1)), .ref (56), .ref (57), .ref (58)])) := ⟨_, rfl⟩
  refine J_heq (h2 := h_1) eh_1 ?_
  have zh_1 : h_1.1 = h.1 := by rw [eh_1]
  have H_2 : h_1.2 (53) = some (oB 3 [.int (nI (0)), .int (nI (σ.1.1)), .ref (54), .ref (55), .int (nI (σ.1.2.1)), .int (nI (σ.2.1.2.1)), .int (nI (σ.2.1.2.2)), .int (nI (σ.2.1.1)), .ref (56), .ref (57), .ref (58)]) := hs_s eh_1
  have hP1 : MP h_1 σ ρ (nI 0) := MP_53 hP eh_1
  have fm1 : FM h h_1 := FM_set eh_1 (by decide) (by decide)
  obtain ⟨a1, a2, a3, a4, ⟨mf, a5, a5b⟩, ⟨sf, a6, a6b⟩, ⟨rf, a7, a7b⟩, ⟨pf, a8, a8b⟩, ⟨lf, a9, a9b⟩, a10, a11⟩ := id hP1
  obtain ⟨o1, o2, o3, o4⟩ := id a2
  have hM := MP_MS hP1
  obtain ⟨hn, hc9, hm5, hs2⟩ := id a1
  have hp9 := pw_le hn
  refine J_iload_n (i := 1) (pc := 5) dX3_bean_5 rfl rfl ?_
  refine J_iload_n (i := 2) (pc := 6) dX3_bean_6 rfl rfl ?_
  refine J_iload_n (i := 3) (pc := 7) dX3_bean_7 rfl rfl ?_
  refine J_cSi (st := []) (As := [.int (a), .int (b), .int (c)]) (pc := 8) dX3_bean_8 okX3_isMeasure q3_163 q3_164 rfl (Nat.le_of_ble_eq_true rfl) (Nat.le_of_ble_eq_true rfl) (m_isMeasureT hm) ?_
  refine J_if_eqN (tgt := 24) (pc := 11) dX3_bean_11 (by decide) (by omega) (fun c11 => by exfalso; first | omega | simp_all) (fun c11 => ?_)
  refine J_iload (i := 4) (pc := 14) dX3_bean_14 rfl ?_
  refine J_iconst (v := nI (0)) (pc := 16) dX3_bean_16 rfl ?_
  refine J_iconst (v := nI (2)) (pc := 17) dX3_bean_17 rfl ?_
  refine J_cSi (st := []) (As := [.int (s), .int (nI (0)), .int (nI (2))]) (pc := 18) dX3_bean_18 okX3_isIn q3_166 q3_167 rfl (Nat.le_of_ble_eq_true rfl) (Nat.le_of_ble_eq_true rfl) (m_inT (by omega) (by omega) (hs)) ?_
  refine J_if_neN (tgt := 30) (pc := 21) dX3_bean_21 (by decide) (by omega) (fun c21 => ?_) (fun c21 => by exfalso; first | omega | simp_all)
  refine J_aload_n (i := 0) (pc := 30) dX3_bean_30 rfl rfl ?_
  refine J_getf (k := 1) (pc := 31) dX3_bean_31 flX3_44 a4 rfl ?_
  refine J_bipush (v := nI (20)) (pc := 34) dX3_bean_34 rfl ?_
  refine J_icmp_neN (tgt := 45) (pc := 36) dX3_bean_36 (by decide) (by omega) (by omega) (fun c36 => by exfalso; first | omega | simp_all) (fun c36 => ?_)
  refine J_aload_n (i := 0) (pc := 39) dX3_bean_39 rfl rfl ?_
  refine J_iconst (v := nI (2)) (pc := 40) dX3_bean_40 rfl ?_
  refine J_cVh (st := []) (As := [.int (nI (2))]) (pc := 41) dX3_bean_41 okX3_no q3_169 q3_171 qs1_13 (rfl : vwCl[3]? = some _) a4 rfl (Nat.le_of_ble_eq_true rfl) (Nat.le_of_ble_eq_true rfl) (m_no hP1) (fun h_3 q_4 => ?_)
  refine J_iret (ty := .int) (pc := 44) dX3_bean_44 rfl rfl ?_
  exact ⟨rfl, FM_tr fm1 q_4.1, ρ, q_4.2⟩

set_option maxHeartbeats 2000000 in
set_option maxRecDepth 20000 in
theorem m_prune {g : GT} {dd : Nat} {h : MH} {σ : ST} {ρ : Nat → Nat} {th : Int32} (hP : MP h σ ρ th) {j : Nat} (hj : j < σ.2.1.1) : J g (dd + 9) (5 * cnt σ.1.2.1) (3 * (5 * cnt σ.1.2.1)) mX3_prune 0 (lv_args 0 [.ref (53), .int (nI (j))]) [] h (RMo (.int (nI (tuP σ.1 5 (σ.2.2.1 j) σ.1.2.1))) h ((σ.1, σ.2.1, va_up σ.2.2.1 j (prT σ.1 5 (σ.2.2.1 j) σ.1.2.1), σ.2.2.2)) (nI 0)) := by
  have a40 := hP.2.2.2.1
  have hz0 := hP.2.2.1
  refine J_aload_n (i := 0) (pc := 0) dX3_prune_0 rfl rfl ?_
  refine J_iconst (v := nI (0)) (pc := 1) dX3_prune_1 rfl ?_
  refine J_putf (k := 0) (pc := 2) dX3_prune_2 fpX3_prune_34 (fun g => ⟨rfl, rfl⟩) a40 (Nat.le_of_ble_eq_true rfl) ?_
  obtain ⟨h_1, eh_1⟩ : ∃ z : MH, z = (h.1, hset h.2 (53) (oB 3 [.int (nI (0)), .int (nI (σ.1.1)), .ref (54), .ref (55), .int (nI (σ.1.2.1)), .int (nI (σ.2.1.2.1)), .int (nI (σ.2.1.2.2)), .int (nI (σ.2.1.1)), .ref (56), .ref (57), .ref (58)])) := ⟨_, rfl⟩
  refine J_heq (h2 := h_1) eh_1 ?_
  have zh_1 : h_1.1 = h.1 := by rw [eh_1]
  have H_2 : h_1.2 (53) = some (oB 3 [.int (nI (0)), .int (nI (σ.1.1)), .ref (54), .ref (55), .int (nI (σ.1.2.1)), .int (nI (σ.2.1.2.1)), .int (nI (σ.2.1.2.2)), .int (nI (σ.2.1.1)), .ref (56), .ref (57), .ref (58)]) := hs_s eh_1
  have hP1 : MP h_1 σ ρ (nI 0) := MP_53 hP eh_1
  have fm1 : FM h h_1 := FM_set eh_1 (by decide) (by decide)
  obtain ⟨a1, a2, a3, a4, ⟨mf, a5, a5b⟩, ⟨sf, a6, a6b⟩, ⟨rf, a7, a7b⟩, ⟨pf, a8, a8b⟩, ⟨lf, a9, a9b⟩, a10, a11⟩ := id hP1
  obtain ⟨o1, o2, o3, o4⟩ := id a2
  have hM := MP_MS hP1
  obtain ⟨hn, hc9, hm5, hs2⟩ := id a1
  have hp9 := pw_le hn
  obtain ⟨p60, plt, f, pc, prw⟩ := a10 j hj
  obtain ⟨okj, n39⟩ := o4 j hj
  refine J_aload_n (i := 0) (pc := 5) dX3_prune_5 rfl rfl ?_
  refine J_iload_n (i := 1) (pc := 6) dX3_prune_6 rfl rfl ?_
  refine J_cVi (st := []) (As := [.int (nI (j))]) (pc := 7) dX3_prune_7 okX3_isTree q4_8 q4_10 qs2_9 (rfl : vwCl[3]? = some _) a4 rfl (Nat.le_of_ble_eq_true rfl) (Nat.le_of_ble_eq_true rfl) (m_isTreeT hP1 hj) ?_
  refine J_if_eqN (tgt := 31) (pc := 10) dX3_prune_10 (by decide) (by omega) (fun c10 => by exfalso; first | omega | simp_all) (fun c10 => ?_)
  refine J_aload_n (i := 0) (pc := 13) dX3_prune_13 rfl rfl ?_
  refine J_aload_n (i := 0) (pc := 14) dX3_prune_14 rfl rfl ?_
  refine J_getf (k := 8) (pc := 15) dX3_prune_15 flX3_24 a4 rfl ?_
  refine J_iload_n (i := 1) (pc := 18) dX3_prune_18 rfl rfl ?_
  refine J_aald (j := j) (b := ρ j) (pc := 19) dX3_prune_19 (by decide) a7 rfl (by omega) (by omega) (a7b j hj) ?_
  refine J_iconst (v := nI (1)) (pc := 20) dX3_prune_20 rfl ?_
  refine J_aload_n (i := 0) (pc := 21) dX3_prune_21 rfl rfl ?_
  refine J_getf (k := 4) (pc := 22) dX3_prune_22 flX3_47 a4 rfl ?_
  refine J_cVB (st := []) (As := [.ref (ρ j), .int (nI (1)), .int (nI (σ.1.2.1))]) (v := some (.int (nI (tuP σ.1 5 (σ.2.2.1 j) σ.1.2.1)))) (ca1 := 5 * cnt σ.1.2.1) (sa1 := 3 * (5 * cnt σ.1.2.1)) (ca2 := 0) (sa2 := 0) (pc := 25) dX3_prune_25 okX3_pruned q4_16 q4_18 qs2_10 (rfl : vwCl[3]? = some _) a4 rfl (Nat.le_of_ble_eq_true rfl) (Nat.le_of_ble_eq_true rfl) (m_pruned (dd := dd) 5 1 (σ.2.2.1 j) σ.1.2.1 _ f hM a3 pc p60 plt prw okj (by decide) (by decide) (by decide) (by omega)) (by omega) (by omega) (fun h_3 q_4 => ?_)
  obtain ⟨xa, f2, hA2, rw2, fr2⟩ := q_4
  refine J_goto (tgt := 36) (pc := 28) dX3_prune_28 (by decide) ?_
  refine J_iret (ty := .int) (pc := 36) dX3_prune_36 rfl rfl ?_
  have xs : ∀ i, i < 60 → h_3.2 i = h_1.2 i := fun i hi => xa.2 i (by omega) (by omega)
  have z9 := xa.1
  have hnp := nN_pr σ.1 5 (σ.2.2.1 j) σ.1.2.1
  refine ⟨rfl, FM_tr fm1 (FM_EA (by omega) p60 xa), ρ, MP_mk (h := h) (σ := σ) (σ' := (σ.1, σ.2.1, va_up σ.2.2.1 j (prT σ.1 5 (σ.2.2.1 j) σ.1.2.1), σ.2.2.2)) (ρ := ρ) a1 ⟨o1, o2, o3, ?_⟩ (by omega) ((xs _ (by omega)).trans a4) ⟨mf, (xs _ (by omega)).trans a5, a5b⟩ ⟨sf, (xs _ (by omega)).trans a6, a6b⟩ ⟨rf, (xs _ (by omega)).trans a7, a7b⟩ ⟨pf, (xs _ (by omega)).trans a8, a8b⟩ ⟨lf, (xs _ (by omega)).trans a9, a9b⟩ ?_ a11⟩
  · intro i hi
    show okT 5 (va_up σ.2.2.1 j _ i) ∧ nN 5 (va_up σ.2.2.1 j _ i) ≤ 39
    by_cases e : i = j
    · rw [e, va_up_self]
      exact ⟨ok_pr σ.1 5 _ _ okj, by omega⟩
    · rw [va_up_ne _ _ e]
      exact o4 i hi
  · intro i hi
    have hi2 : i < σ.2.1.1 := hi
    show 60 ≤ ρ i ∧ ρ i < h_3.1 ∧ ∃ f', h_3.2 (ρ i) = some (aI 320 f') ∧ RW f' 5 1 (va_up σ.2.2.1 j _ i)
    by_cases e : i = j
    · rw [e, va_up_self]
      exact ⟨p60, by omega, f2, hA2, rw2⟩
    · rw [va_up_ne _ _ e]
      obtain ⟨b1, b2, f9, b3, b4⟩ := a10 i hi2
      exact ⟨b1, by omega, f9, (xa.2 _ b2 (fun q => e (a11 i j hi2 hj q))).trans b3, b4⟩

set_option maxHeartbeats 2000000 in
set_option maxRecDepth 20000 in
theorem m_pruneX1 {g : GT} {dd : Nat} {h : MH} {σ : ST} {ρ : Nat → Nat} {th : Int32} (hP : MP h σ ρ th) {x : Int32} (hx : ¬ (0 ≤ x.toInt ∧ x.toInt < (σ.2.1.1 : Int))) : J g (dd + 9) 0 0 mX3_prune 0 (lv_args 0 [.ref (53), .int (x)]) [] h (RMo (.int (nI 0)) h σ (nI 1)) := by
  have a40 := hP.2.2.2.1
  have hz0 := hP.2.2.1
  refine J_aload_n (i := 0) (pc := 0) dX3_prune_0 rfl rfl ?_
  refine J_iconst (v := nI (0)) (pc := 1) dX3_prune_1 rfl ?_
  refine J_putf (k := 0) (pc := 2) dX3_prune_2 fpX3_prune_34 (fun g => ⟨rfl, rfl⟩) a40 (Nat.le_of_ble_eq_true rfl) ?_
  obtain ⟨h_1, eh_1⟩ : ∃ z : MH, z = (h.1, hset h.2 (53) (oB 3 [.int (nI (0)), .int (nI (σ.1.1)), .ref (54), .ref (55), .int (nI (σ.1.2.1)), .int (nI (σ.2.1.2.1)), .int (nI (σ.2.1.2.2)), .int (nI (σ.2.1.1)), .ref (56), .ref (57), .ref (58)])) := ⟨_, rfl⟩
  refine J_heq (h2 := h_1) eh_1 ?_
  have zh_1 : h_1.1 = h.1 := by rw [eh_1]
  have H_2 : h_1.2 (53) = some (oB 3 [.int (nI (0)), .int (nI (σ.1.1)), .ref (54), .ref (55), .int (nI (σ.1.2.1)), .int (nI (σ.2.1.2.1)), .int (nI (σ.2.1.2.2)), .int (nI (σ.2.1.1)), .ref (56), .ref (57), .ref (58)]) := hs_s eh_1
  have hP1 : MP h_1 σ ρ (nI 0) := MP_53 hP eh_1
  have fm1 : FM h h_1 := FM_set eh_1 (by decide) (by decide)
  obtain ⟨a1, a2, a3, a4, ⟨mf, a5, a5b⟩, ⟨sf, a6, a6b⟩, ⟨rf, a7, a7b⟩, ⟨pf, a8, a8b⟩, ⟨lf, a9, a9b⟩, a10, a11⟩ := id hP1
  obtain ⟨o1, o2, o3, o4⟩ := id a2
  have hM := MP_MS hP1
  obtain ⟨hn, hc9, hm5, hs2⟩ := id a1
  have hp9 := pw_le hn
  refine J_aload_n (i := 0) (pc := 5) dX3_prune_5 rfl rfl ?_
  refine J_iload_n (i := 1) (pc := 6) dX3_prune_6 rfl rfl ?_
  refine J_cVi (st := []) (As := [.int (x)]) (pc := 7) dX3_prune_7 okX3_isTree q4_8 q4_10 qs2_9 (rfl : vwCl[3]? = some _) a4 rfl (Nat.le_of_ble_eq_true rfl) (Nat.le_of_ble_eq_true rfl) (m_isTreeF hP1 hx) ?_
  refine J_if_eqN (tgt := 31) (pc := 10) dX3_prune_10 (by decide) (by omega) (fun c10 => ?_) (fun c10 => by exfalso; first | omega | simp_all)
  refine J_aload_n (i := 0) (pc := 31) dX3_prune_31 rfl rfl ?_
  refine J_iconst (v := nI (1)) (pc := 32) dX3_prune_32 rfl ?_
  refine J_cVh (st := []) (As := [.int (nI (1))]) (pc := 33) dX3_prune_33 okX3_no q3_169 q3_171 qs1_13 (rfl : vwCl[3]? = some _) a4 rfl (Nat.le_of_ble_eq_true rfl) (Nat.le_of_ble_eq_true rfl) (m_no hP1) (fun h_3 q_4 => ?_)
  refine J_iret (ty := .int) (pc := 36) dX3_prune_36 rfl rfl ?_
  exact ⟨rfl, FM_tr fm1 q_4.1, ρ, q_4.2⟩

