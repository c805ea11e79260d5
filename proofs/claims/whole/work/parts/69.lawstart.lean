-- the law from its first instruction
set_option maxHeartbeats 2000000 in
set_option maxRecDepth 20000 in
theorem law_start {g : GT} {d ca sa : Nat} (hL : g_L g ≤ 2560) (hca : 512 * 1111 ≤ ca) (hsa : 512 * 7006 ≤ sa) {h : MH} (hn : h.1 = 1) : J g (d + 62) (59 + ca) (1821 + sa) mL_law 0 [(0, .ref 0)] [] h QL := by
  have eA_1 : (1 : Nat) = h.1 := by omega
  obtain ⟨h_2, eh_2⟩ : ∃ z : MH, z = (1 + 1, hset h.2 1 (oB 2 [.null, .null, .null, .int (nI (0)), .int (nI (0)), .int (nI (0))])) := ⟨_, rfl⟩
  refine J_newA (A := 1) (h' := h_2) (ca' := 58 + ca) (sa' := 1815 + sa) (pc := 0) dL_law_0 nwL_8 (by omega) (by omega) eA_1 eh_2 ?_
  have zh_2 : h_2.1 = 1 + 1 := by rw [eh_2]
  have H_3 : h_2.2 (1) = some (oB 2 [.null, .null, .null, .int (nI (0)), .int (nI (0)), .int (nI (0))]) := ha_s eh_2
  refine J_dup (pc := 3) dL_law_3 rfl ?_
  refine J_cIB (st := [.ref (1)]) (As := []) (ca1 := 51) (sa1 := 1708) (ca2 := 7 + ca) (sa2 := 107 + sa) (pc := 4) dL_law_4 okX2_init q1_16 q1_17 rfl rfl rfl (Nat.le_of_ble_eq_true rfl) (Nat.le_of_ble_eq_true rfl) (c_Xinit (d := d + 60) H_3 (by omega)) (by omega) (by omega) (fun h_4 q_5 => ?_)
  obtain ⟨zx, lx, gx⟩ := q_5
  refine J_astore_n (i := 1) (lv' := [(1, .ref (1)), (0, .ref (0))]) (pc := 7) dL_law_7 rfl (by decide) rfl ?_
  have eA_6 : (53 : Nat) = h_4.1 := by omega
  obtain ⟨h_7, eh_7⟩ : ∃ z : MH, z = (53 + 1, hset h_4.2 53 (oB 3 [.int (nI (0)), .int (nI (0)), .null, .null, .int (nI (0)), .int (nI (0)), .int (nI (0)), .int (nI (0)), .null, .null, .null])) := ⟨_, rfl⟩
  refine J_newA (A := 53) (h' := h_7) (ca' := 6 + ca) (sa' := 96 + sa) (pc := 8) dL_law_8 nwL_72 (by omega) (by omega) eA_6 eh_7 ?_
  have zh_7 : h_7.1 = 53 + 1 := by rw [eh_7]
  have H_8 : h_7.2 (53) = some (oB 3 [.int (nI (0)), .int (nI (0)), .null, .null, .int (nI (0)), .int (nI (0)), .int (nI (0)), .int (nI (0)), .null, .null, .null]) := ha_s eh_7
  refine J_dup (pc := 11) dL_law_11 rfl ?_
  refine J_cIB (st := [.ref (53)]) (As := []) (ca1 := 5) (sa1 := 95) (ca2 := 1 + ca) (sa2 := 1 + sa) (pc := 12) dL_law_12 okX3_init q3_116 q3_117 rfl rfl rfl (Nat.le_of_ble_eq_true rfl) (Nat.le_of_ble_eq_true rfl) (c_Minit H_8 (by omega)) (by omega) (by omega) (fun h_9 q_10 => ?_)
  obtain ⟨zm, lm, mm⟩ := q_10
  refine J_astore_n (i := 2) (lv' := [(2, .ref (53)), (1, .ref (1)), (0, .ref (0))]) (pc := 15) dL_law_15 rfl (by decide) rfl ?_
  refine J_iconst (v := nI (1)) (pc := 16) dL_law_16 rfl ?_
  have eA_11 : (59 : Nat) = h_9.1 := by omega
  obtain ⟨h_12, eh_12⟩ : ∃ z : MH, z = (59 + 1, hset h_9.2 59 (aJ (1) (fun _ => 0))) := ⟨_, rfl⟩
  refine J_newJA (A := 59) (h' := h_12) (n := 1) (ca' := ca) (sa' := sa) (pc := 17) dL_law_17 rfl (by decide) (by omega) (by omega) eA_11 eh_12 ?_
  have zh_12 : h_12.1 = 59 + 1 := by rw [eh_12]
  have H_13 : h_12.2 (59) = some (aJ (1) (fun _ => 0)) := ha_s eh_12
  refine J_astore_n (i := 3) (lv' := [(3, .ref (59)), (2, .ref (53)), (1, .ref (1)), (0, .ref (0))]) (pc := 19) dL_law_19 rfl (by decide) rfl ?_
  refine J_iconst (v := nI (0)) (pc := 20) dL_law_20 rfl ?_
  refine J_istore (i := 4) (lv' := [(4, .int (nI (0))), (3, .ref (59)), (2, .ref (53)), (1, .ref (1)), (0, .ref (0))]) (pc := 21) dL_law_21 (by decide) rfl ?_
  refine J_sub (lv' := [(4, .int (nI (0))), (0, .ref (0)), (1, .ref (1)), (2, .ref (53)), (3, .ref (59))]) [0, 4, 3, 2, 1] rfl ?_
  have gh : GH h_12 σ0 := GH_oth (fun i i1 i2 => (ha_n eh_12 (by omega)).trans ((lm i (by omega)).trans (ha_n eh_7 (by omega)))) gx
  have mp : MP0 h_12 := by
    obtain ⟨k1, k2, k3, k4, k5, k6⟩ := mm
    exact ⟨(ha_n eh_12 (by omega)).trans k1, (ha_n eh_12 (by omega)).trans k2, (ha_n eh_12 (by omega)).trans k3, (ha_n eh_12 (by omega)).trans k4, (ha_n eh_12 (by omega)).trans k5, (ha_n eh_12 (by omega)).trans k6⟩
  refine J_bud hca hsa (law_loop hL 512 0 σ0 h_12 ⟨gh, ⟨nI 0, _, MP0_MP mp (by omega)⟩, _, H_13⟩ ⟨by omega, by omega⟩)

