-- the law's small methods
def bel (x : Int32) (n : Nat) : Nat := (x &&& nI 2147483647).toBitVec.toNat % n
theorem bel_lt (x : Int32) {n : Nat} (h : 0 < n) : bel x n < n := Nat.mod_lt _ h
theorem bel_e (x : Int32) : ∃ j, j < 2 ^ 31 ∧ x &&& nI 2147483647 = nI j ∧ ∀ n, bel x n = j % n := by
  obtain ⟨j, hj, e⟩ := pk_andE x (m := nI 2147483647) 31 (by decide)
  refine ⟨j, hj, e, fun n => ?_⟩
  unfold bel
  rw [e]
  show (BitVec.ofNat 32 j).toNat % n = j % n
  rw [BitVec.toNat_ofNat, Nat.mod_eq_of_lt (show j < 2 ^ 32 by omega)]
def cel (g : GT) (k : Nat) : Int32 := if k < g_L g then g_x g k else nI 461243603 * nI (k + 3)

set_option maxHeartbeats 2000000 in
set_option maxRecDepth 20000 in
theorem l_below {g : GT} {d : Nat} {h : MH} {x : Int32} {n : Nat} (h0 : 0 < n) (hn : n < 2 ^ 31) : J g d 0 0 mL_below 0 (lv_args 0 [.int x, .int (nI n)]) [] h (RI (nI (bel x n)) h) := by
  obtain ⟨j, hj, e1, e2⟩ := bel_e x
  rw [e2 n]
  refine J_iload_n (i := 0) (pc := 0) dL_below_0 rfl rfl ?_
  refine J_ldc (v := nI 2147483647) (pc := 1) dL_below_1 q2_179 ?_
  refine J_iand (pc := 3) dL_below_3 ?_
  rw [e1]
  refine J_iload_n (i := 1) (pc := 4) dL_below_4 rfl rfl ?_
  refine J_iremN (pc := 5) dL_below_5 (by omega) (by omega) (by omega) ?_
  refine J_iret (ty := .int) (pc := 6) dL_below_6 rfl rfl ?_
  exact ⟨rfl, rfl⟩

set_option maxHeartbeats 2000000 in
set_option maxRecDepth 20000 in
theorem l_cell {g : GT} {d : Nat} {h : MH} {k : Nat} (hL : g_L g ≤ 260) (hk : k < 1000) : J g d 0 0 mL_cell 0 (lv_args 0 [.ref 0, .int (nI k)]) [] h (RI (cel g k) h) := by
  refine J_iload_n (i := 1) (pc := 0) dL_cell_0 rfl rfl ?_
  refine J_aload_n (i := 0) (pc := 1) dL_cell_1 rfl rfl ?_
  refine J_slen (pc := 2) dL_cell_2 ?_
  refine J_icmp_geN (tgt := 12) (pc := 3) dL_cell_3 (by decide) (by omega) (by omega) (fun c3 => ?_) (fun c3 => ?_)
  · skip
    have ec : cel g k = nI 461243603 * nI (k + 3) := by unfold cel; rw [if_neg (by omega)]
    rw [ec]
    refine J_ldc (v := nI 461243603) (pc := 12) dL_cell_12 q2_183 ?_
    refine J_iload_n (i := 1) (pc := 14) dL_cell_14 rfl rfl ?_
    refine J_iconst (v := nI (3)) (pc := 15) dL_cell_15 rfl ?_
    refine J_iaddN (pc := 16) dL_cell_16 ?_
    refine J_imul (pc := 17) dL_cell_17 ?_
    refine J_iret (ty := .int) (pc := 18) dL_cell_18 rfl rfl ?_
    exact ⟨rfl, rfl⟩
  · skip
    have ec : cel g k = g_x g k := by unfold cel; rw [if_pos (by omega)]
    rw [ec]
    refine J_aload_n (i := 0) (pc := 6) dL_cell_6 rfl rfl ?_
    refine J_iload_n (i := 1) (pc := 7) dL_cell_7 rfl rfl ?_
    refine J_sld (j := k) (pc := 8) dL_cell_8 rfl (fun _ => by omega) ?_
    refine J_goto (tgt := 18) (pc := 9) dL_cell_9 (by decide) ?_
    refine J_iret (ty := .int) (pc := 18) dL_cell_18 rfl rfl ?_
    exact ⟨rfl, rfl⟩

set_option maxHeartbeats 2000000 in
set_option maxRecDepth 20000 in
theorem l_beansOf {g : GT} {d : Nat} {h : MH} (hL : g_L g ≤ 260) : J g (d + 1) 0 0 mL_beansOf 0 (lv_args 0 [.ref 0]) [] h (RI (nI (3 + bel (cel g 0) 18)) h) := by
  refine J_iconst (v := nI (3)) (pc := 0) dL_beansOf_0 rfl ?_
  refine J_aload_n (i := 0) (pc := 1) dL_beansOf_1 rfl rfl ?_
  refine J_iconst (v := nI (0)) (pc := 2) dL_beansOf_2 rfl ?_
  refine J_cSi (st := [.int (nI (3))]) (As := [.ref (0), .int (nI (0))]) (pc := 3) dL_beansOf_3 okL_cell q2_180 q2_181 rfl (Nat.le_of_ble_eq_true rfl) (Nat.le_of_ble_eq_true rfl) (l_cell hL (by omega)) ?_
  obtain ⟨x1, ex1⟩ : ∃ z : Int32, z = cel g (0) := ⟨_, rfl⟩
  rw [← ex1]
  refine J_bipush (v := nI (18)) (pc := 6) dL_beansOf_6 rfl ?_
  refine J_cSi (st := [.int (nI (3))]) (As := [.int (x1), .int (nI (18))]) (pc := 8) dL_beansOf_8 okL_below q2_176 q2_177 rfl (Nat.le_of_ble_eq_true rfl) (Nat.le_of_ble_eq_true rfl) (l_below (by omega) (by omega)) ?_
  obtain ⟨n1, en1, hn1⟩ : ∃ z : Nat, z = bel ((x1)) (18) ∧ z < 18 := ⟨_, rfl, bel_lt _ (by omega)⟩
  rw [← en1]
  refine J_iaddN (pc := 11) dL_beansOf_11 ?_
  refine J_iret (ty := .int) (pc := 12) dL_beansOf_12 rfl rfl ?_
  exact ⟨rfl, rfl⟩

set_option maxHeartbeats 2000000 in
set_option maxRecDepth 20000 in
theorem l_beanOf {g : GT} {d : Nat} {h : MH} {k : Nat} (hL : g_L g ≤ 260) (hk : k < 20) : J g (d + 1) 1 5 mL_beanOf 0 (lv_args 0 [.ref 0, .int (nI k)]) [] h (RG (.ref h.1) (fun h' => h'.1 = h.1 + 1 ∧ (∀ i, i < h.1 → h'.2 i = h.2 i) ∧ ∃ a b c s v : Nat, ∃ f, h'.2 h.1 = some (aI 5 f) ∧ f 0 = nI a ∧ f 1 = nI b ∧ f 2 = nI c ∧ f 3 = nI s ∧ f 4 = nI v ∧ a ≤ 50 ∧ b ≤ 50 ∧ c ≤ 50 ∧ s ≤ 2 ∧ v ≤ 1)) := by
  refine J_aload_n (i := 0) (pc := 0) dL_beanOf_0 rfl rfl ?_
  refine J_iconst (v := nI (1)) (pc := 1) dL_beanOf_1 rfl ?_
  refine J_iload_n (i := 1) (pc := 2) dL_beanOf_2 rfl rfl ?_
  refine J_bipush (v := nI (15)) (pc := 3) dL_beanOf_3 rfl ?_
  refine J_iremN (pc := 5) dL_beanOf_5 (by omega) (by omega) (by omega) ?_
  refine J_iaddN (pc := 6) dL_beanOf_6 ?_
  refine J_cSi (st := []) (As := [.ref (0), .int (nI (1 + ((k) % (15))))]) (pc := 7) dL_beanOf_7 okL_cell q2_180 q2_181 rfl (Nat.le_of_ble_eq_true rfl) (Nat.le_of_ble_eq_true rfl) (l_cell hL (by omega)) ?_
  obtain ⟨x1, ex1⟩ : ∃ z : Int32, z = cel g (1 + ((k) % (15))) := ⟨_, rfl⟩
  rw [← ex1]
  refine J_iload_n (i := 1) (pc := 10) dL_beanOf_10 rfl rfl ?_
  refine J_bipush (v := nI (15)) (pc := 11) dL_beanOf_11 rfl ?_
  refine J_idivN (pc := 13) dL_beanOf_13 (by omega) (by omega) (by omega) ?_
  refine J_bipush (v := nI (7)) (pc := 14) dL_beanOf_14 rfl ?_
  refine J_imulN (pc := 16) dL_beanOf_16 ?_
  refine J_ishr (pc := 17) dL_beanOf_17 ?_
  obtain ⟨y1, ey1⟩ : ∃ z : Int32, z = (x1) >>> (nI (((k) / (15)) * (7)) &&& 31) := ⟨_, rfl⟩
  rw [← ey1]
  refine J_istore_n (i := 2) (lv' := [(2, .int (y1)), (0, .ref (0)), (1, .int (nI (k)))]) (pc := 18) dL_beanOf_18 rfl (by decide) rfl ?_
  refine J_iload_n (i := 2) (pc := 19) dL_beanOf_19 rfl rfl ?_
  refine J_iconst (v := nI (2)) (pc := 20) dL_beanOf_20 rfl ?_
  refine J_ishr (pc := 21) dL_beanOf_21 ?_
  refine J_iconst (v := nI (3)) (pc := 22) dL_beanOf_22 rfl ?_
  refine J_cSi (st := []) (As := [.int ((y1) >>> (nI (2) &&& 31)), .int (nI (3))]) (pc := 23) dL_beanOf_23 okL_below q2_176 q2_177 rfl (Nat.le_of_ble_eq_true rfl) (Nat.le_of_ble_eq_true rfl) (l_below (by omega) (by omega)) ?_
  obtain ⟨so, eso, hso⟩ : ∃ z : Nat, z = bel (((y1) >>> (nI (2) &&& 31))) (3) ∧ z < 3 := ⟨_, rfl, bel_lt _ (by omega)⟩
  rw [← eso]
  refine J_istore_n (i := 3) (lv' := [(3, .int (nI (so))), (2, .int (y1)), (0, .ref (0)), (1, .int (nI (k)))]) (pc := 26) dL_beanOf_26 rfl (by decide) rfl ?_
  refine J_aload_n (i := 0) (pc := 27) dL_beanOf_27 rfl rfl ?_
  refine J_iconst (v := nI (1)) (pc := 28) dL_beanOf_28 rfl ?_
  refine J_cSi (st := []) (As := [.ref (0), .int (nI (1))]) (pc := 29) dL_beanOf_29 okL_cell q2_180 q2_181 rfl (Nat.le_of_ble_eq_true rfl) (Nat.le_of_ble_eq_true rfl) (l_cell hL (by omega)) ?_
  obtain ⟨x2, ex2⟩ : ∃ z : Int32, z = cel g (1) := ⟨_, rfl⟩
  rw [← ex2]
  refine J_iconst (v := nI (3)) (pc := 32) dL_beanOf_32 rfl ?_
  refine J_cSi (st := []) (As := [.int (x2), .int (nI (3))]) (pc := 33) dL_beanOf_33 okL_below q2_176 q2_177 rfl (Nat.le_of_ble_eq_true rfl) (Nat.le_of_ble_eq_true rfl) (l_below (by omega) (by omega)) ?_
  obtain ⟨wi, ewi, hwi⟩ : ∃ z : Nat, z = bel ((x2)) (3) ∧ z < 3 := ⟨_, rfl, bel_lt _ (by omega)⟩
  rw [← ewi]
  refine J_if_neN (tgt := 44) (pc := 36) dL_beanOf_36 (by decide) (by omega) (fun c36 => ?_) (fun c36 => ?_)
  · skip
    refine J_bipush (v := nI (20)) (pc := 44) dL_beanOf_44 rfl ?_
    refine J_istore (i := 4) (lv' := [(4, .int (nI (20))), (3, .int (nI (so))), (2, .int (y1)), (0, .ref (0)), (1, .int (nI (k)))]) (pc := 46) dL_beanOf_46 (by decide) rfl ?_
    refine J_iconst (v := nI (5)) (pc := 48) dL_beanOf_48 rfl ?_
    obtain ⟨A_1, eA_1⟩ : ∃ z : Nat, z = h.1 := ⟨_, rfl⟩
    obtain ⟨h_2, eh_2⟩ : ∃ z : MH, z = (A_1 + 1, hset h.2 A_1 (aI (5) (fun _ => 0))) := ⟨_, rfl⟩
    refine J_newIA (A := A_1) (h' := h_2) (n := 5) (ca' := 0) (sa' := 0) (pc := 49) dL_beanOf_49 rfl (by decide) (by omega) (by omega) eA_1 eh_2 ?_
    have zh_2 : h_2.1 = A_1 + 1 := by rw [eh_2]
    have H_3 : (∀ i, i < h.1 → h_2.2 i = h.2 i) := (fun i i1 => (ha_n eh_2 (by omega)).trans ((fun i _ => rfl) i i1))
    have H_4 : h_2.2 (A_1) = some (aI (5) (fun _ => 0)) := ha_s eh_2
    refine J_dup (pc := 51) dL_beanOf_51 rfl ?_
    refine J_iconst (v := nI (0)) (pc := 52) dL_beanOf_52 rfl ?_
    refine J_iload_n (i := 2) (pc := 53) dL_beanOf_53 rfl rfl ?_
    refine J_iconst (v := nI (1)) (pc := 54) dL_beanOf_54 rfl ?_
    refine J_ishr (pc := 55) dL_beanOf_55 ?_
    refine J_iload (i := 4) (pc := 56) dL_beanOf_56 rfl ?_
    refine J_cSi (st := [.int (nI (0)), .ref (A_1), .ref (A_1)]) (As := [.int ((y1) >>> (nI (1) &&& 31)), .int (nI (20))]) (pc := 58) dL_beanOf_58 okL_below q2_176 q2_177 rfl (Nat.le_of_ble_eq_true rfl) (Nat.le_of_ble_eq_true rfl) (l_below (by omega) (by omega)) ?_
    obtain ⟨b1, eb1, hb1⟩ : ∃ z : Nat, z = bel (((y1) >>> (nI (1) &&& 31))) (20) ∧ z < 20 := ⟨_, rfl, bel_lt _ (by omega)⟩
    rw [← eb1]
    refine J_bipush (v := nI (10)) (pc := 61) dL_beanOf_61 rfl ?_
    refine J_iload_n (i := 3) (pc := 63) dL_beanOf_63 rfl rfl ?_
    refine J_imulN (pc := 64) dL_beanOf_64 ?_
    refine J_bipush (v := nI (52)) (pc := 65) dL_beanOf_65 rfl ?_
    refine J_iload (i := 4) (pc := 67) dL_beanOf_67 rfl ?_
    refine J_isub (pc := 69) dL_beanOf_69 ?_
    rw [show nI (52) - nI (20) = nI 32 from by decide]
    refine J_iremN (pc := 70) dL_beanOf_70 (by omega) (by omega) (by omega) ?_
    refine J_iaddN (pc := 71) dL_beanOf_71 ?_
    refine J_iast (j := 0) (pc := 72) dL_beanOf_72 H_4 rfl (by omega) (by omega) ?_
    obtain ⟨h_5, eh_5⟩ : ∃ z : MH, z = (h_2.1, hset h_2.2 (A_1) (aI (5) (upd ((fun _ => 0)) (0) (nI (b1 + (((10) * (so)) % (32))))))) := ⟨_, rfl⟩
    refine J_heq (h2 := h_5) eh_5 ?_
    have zh_5 : h_5.1 = h_2.1 := by rw [eh_5]
    have H_6 : (∀ i, i < h.1 → h_5.2 i = h.2 i) := by rw [eh_5]; exact (fun i i1 => (hset_n (by omega)).trans (H_3 i i1))
    have H_7 : h_5.2 (A_1) = some (aI (5) (upd ((fun _ => 0)) (0) (nI (b1 + (((10) * (so)) % (32)))))) := hs_s eh_5
    refine J_dup (pc := 73) dL_beanOf_73 rfl ?_
    refine J_iconst (v := nI (1)) (pc := 74) dL_beanOf_74 rfl ?_
    refine J_iload_n (i := 2) (pc := 75) dL_beanOf_75 rfl rfl ?_
    refine J_iconst (v := nI (4)) (pc := 76) dL_beanOf_76 rfl ?_
    refine J_ishr (pc := 77) dL_beanOf_77 ?_
    refine J_iload (i := 4) (pc := 78) dL_beanOf_78 rfl ?_
    refine J_cSi (st := [.int (nI (1)), .ref (A_1), .ref (A_1)]) (As := [.int ((y1) >>> (nI (4) &&& 31)), .int (nI (20))]) (pc := 80) dL_beanOf_80 okL_below q2_176 q2_177 rfl (Nat.le_of_ble_eq_true rfl) (Nat.le_of_ble_eq_true rfl) (l_below (by omega) (by omega)) ?_
    obtain ⟨b2, eb2, hb2⟩ : ∃ z : Nat, z = bel (((y1) >>> (nI (4) &&& 31))) (20) ∧ z < 20 := ⟨_, rfl, bel_lt _ (by omega)⟩
    rw [← eb2]
    refine J_iast (j := 1) (pc := 83) dL_beanOf_83 H_7 rfl (by omega) (by omega) ?_
    obtain ⟨h_8, eh_8⟩ : ∃ z : MH, z = (h_5.1, hset h_5.2 (A_1) (aI (5) (upd (upd ((fun _ => 0)) (0) (nI (b1 + (((10) * (so)) % (32))))) (1) (nI (b2))))) := ⟨_, rfl⟩
    refine J_heq (h2 := h_8) eh_8 ?_
    have zh_8 : h_8.1 = h_5.1 := by rw [eh_8]
    have H_9 : (∀ i, i < h.1 → h_8.2 i = h.2 i) := by rw [eh_8]; exact (fun i i1 => (hset_n (by omega)).trans (H_6 i i1))
    have H_10 : h_8.2 (A_1) = some (aI (5) (upd (upd ((fun _ => 0)) (0) (nI (b1 + (((10) * (so)) % (32))))) (1) (nI (b2)))) := hs_s eh_8
    refine J_dup (pc := 84) dL_beanOf_84 rfl ?_
    refine J_iconst (v := nI (2)) (pc := 85) dL_beanOf_85 rfl ?_
    refine J_iload_n (i := 2) (pc := 86) dL_beanOf_86 rfl rfl ?_
    refine J_bipush (v := nI (7)) (pc := 87) dL_beanOf_87 rfl ?_
    refine J_ishr (pc := 89) dL_beanOf_89 ?_
    refine J_bipush (v := nI (6)) (pc := 90) dL_beanOf_90 rfl ?_
    refine J_cSi (st := [.int (nI (2)), .ref (A_1), .ref (A_1)]) (As := [.int ((y1) >>> (nI (7) &&& 31)), .int (nI (6))]) (pc := 92) dL_beanOf_92 okL_below q2_176 q2_177 rfl (Nat.le_of_ble_eq_true rfl) (Nat.le_of_ble_eq_true rfl) (l_below (by omega) (by omega)) ?_
    obtain ⟨b3, eb3, hb3⟩ : ∃ z : Nat, z = bel (((y1) >>> (nI (7) &&& 31))) (6) ∧ z < 6 := ⟨_, rfl, bel_lt _ (by omega)⟩
    rw [← eb3]
    refine J_iast (j := 2) (pc := 95) dL_beanOf_95 H_10 rfl (by omega) (by omega) ?_
    obtain ⟨h_11, eh_11⟩ : ∃ z : MH, z = (h_8.1, hset h_8.2 (A_1) (aI (5) (upd (upd (upd ((fun _ => 0)) (0) (nI (b1 + (((10) * (so)) % (32))))) (1) (nI (b2))) (2) (nI (b3))))) := ⟨_, rfl⟩
    refine J_heq (h2 := h_11) eh_11 ?_
    have zh_11 : h_11.1 = h_8.1 := by rw [eh_11]
    have H_12 : (∀ i, i < h.1 → h_11.2 i = h.2 i) := by rw [eh_11]; exact (fun i i1 => (hset_n (by omega)).trans (H_9 i i1))
    have H_13 : h_11.2 (A_1) = some (aI (5) (upd (upd (upd ((fun _ => 0)) (0) (nI (b1 + (((10) * (so)) % (32))))) (1) (nI (b2))) (2) (nI (b3)))) := hs_s eh_11
    refine J_dup (pc := 96) dL_beanOf_96 rfl ?_
    refine J_iconst (v := nI (3)) (pc := 97) dL_beanOf_97 rfl ?_
    refine J_iload_n (i := 3) (pc := 98) dL_beanOf_98 rfl rfl ?_
    refine J_iast (j := 3) (pc := 99) dL_beanOf_99 H_13 rfl (by omega) (by omega) ?_
    obtain ⟨h_14, eh_14⟩ : ∃ z : MH, z = (h_11.1, hset h_11.2 (A_1) (aI (5) (upd (upd (upd (upd ((fun _ => 0)) (0) (nI (b1 + (((10) * (so)) % (32))))) (1) (nI (b2))) (2) (nI (b3))) (3) (nI (so))))) := ⟨_, rfl⟩
    refine J_heq (h2 := h_14) eh_14 ?_
    have zh_14 : h_14.1 = h_11.1 := by rw [eh_14]
    have H_15 : (∀ i, i < h.1 → h_14.2 i = h.2 i) := by rw [eh_14]; exact (fun i i1 => (hset_n (by omega)).trans (H_12 i i1))
    have H_16 : h_14.2 (A_1) = some (aI (5) (upd (upd (upd (upd ((fun _ => 0)) (0) (nI (b1 + (((10) * (so)) % (32))))) (1) (nI (b2))) (2) (nI (b3))) (3) (nI (so)))) := hs_s eh_14
    refine J_dup (pc := 100) dL_beanOf_100 rfl ?_
    refine J_iconst (v := nI (4)) (pc := 101) dL_beanOf_101 rfl ?_
    refine J_iload_n (i := 2) (pc := 102) dL_beanOf_102 rfl rfl ?_
    refine J_iconst (v := nI (3)) (pc := 103) dL_beanOf_103 rfl ?_
    refine J_ishr (pc := 104) dL_beanOf_104 ?_
    refine J_iconst (v := nI (4)) (pc := 105) dL_beanOf_105 rfl ?_
    refine J_cSi (st := [.int (nI (4)), .ref (A_1), .ref (A_1)]) (As := [.int ((y1) >>> (nI (3) &&& 31)), .int (nI (4))]) (pc := 106) dL_beanOf_106 okL_below q2_176 q2_177 rfl (Nat.le_of_ble_eq_true rfl) (Nat.le_of_ble_eq_true rfl) (l_below (by omega) (by omega)) ?_
    obtain ⟨b4, eb4, hb4⟩ : ∃ z : Nat, z = bel (((y1) >>> (nI (3) &&& 31))) (4) ∧ z < 4 := ⟨_, rfl, bel_lt _ (by omega)⟩
    rw [← eb4]
    refine J_if_neN (tgt := 116) (pc := 109) dL_beanOf_109 (by decide) (by omega) (fun c109 => ?_) (fun c109 => ?_)
    · skip
      refine J_iconst (v := nI (0)) (pc := 116) dL_beanOf_116 rfl ?_
      refine J_iast (j := 4) (pc := 117) dL_beanOf_117 H_16 rfl (by omega) (by omega) ?_
      obtain ⟨h_17, eh_17⟩ : ∃ z : MH, z = (h_14.1, hset h_14.2 (A_1) (aI (5) (upd (upd (upd (upd (upd ((fun _ => 0)) (0) (nI (b1 + (((10) * (so)) % (32))))) (1) (nI (b2))) (2) (nI (b3))) (3) (nI (so))) (4) (nI (0))))) := ⟨_, rfl⟩
      refine J_heq (h2 := h_17) eh_17 ?_
      have zh_17 : h_17.1 = h_14.1 := by rw [eh_17]
      have H_18 : (∀ i, i < h.1 → h_17.2 i = h.2 i) := by rw [eh_17]; exact (fun i i1 => (hset_n (by omega)).trans (H_15 i i1))
      have H_19 : h_17.2 (A_1) = some (aI (5) (upd (upd (upd (upd (upd ((fun _ => 0)) (0) (nI (b1 + (((10) * (so)) % (32))))) (1) (nI (b2))) (2) (nI (b3))) (3) (nI (so))) (4) (nI (0)))) := hs_s eh_17
      refine J_astore (i := 5) (lv' := [(5, .ref (A_1)), (4, .int (nI (20))), (3, .int (nI (so))), (2, .int (y1)), (0, .ref (0)), (1, .int (nI (k)))]) (pc := 118) dL_beanOf_118 (by decide) rfl ?_
      refine J_aload (i := 5) (pc := 120) dL_beanOf_120 rfl ?_
      refine J_aret (pc := 122) dL_beanOf_122 rfl ?_
      subst eA_1
      exact ⟨rfl, by omega, H_18, _, _, _, _, _, _, H_19, rfl, rfl, rfl, rfl, rfl, by omega, by omega, by omega, by omega, by omega⟩
    · skip
      refine J_iconst (v := nI (1)) (pc := 112) dL_beanOf_112 rfl ?_
      refine J_goto (tgt := 117) (pc := 113) dL_beanOf_113 (by decide) ?_
      refine J_iast (j := 4) (pc := 117) dL_beanOf_117 H_16 rfl (by omega) (by omega) ?_
      obtain ⟨h_20, eh_20⟩ : ∃ z : MH, z = (h_14.1, hset h_14.2 (A_1) (aI (5) (upd (upd (upd (upd (upd ((fun _ => 0)) (0) (nI (b1 + (((10) * (so)) % (32))))) (1) (nI (b2))) (2) (nI (b3))) (3) (nI (so))) (4) (nI (1))))) := ⟨_, rfl⟩
      refine J_heq (h2 := h_20) eh_20 ?_
      have zh_20 : h_20.1 = h_14.1 := by rw [eh_20]
      have H_21 : (∀ i, i < h.1 → h_20.2 i = h.2 i) := by rw [eh_20]; exact (fun i i1 => (hset_n (by omega)).trans (H_15 i i1))
      have H_22 : h_20.2 (A_1) = some (aI (5) (upd (upd (upd (upd (upd ((fun _ => 0)) (0) (nI (b1 + (((10) * (so)) % (32))))) (1) (nI (b2))) (2) (nI (b3))) (3) (nI (so))) (4) (nI (1)))) := hs_s eh_20
      refine J_astore (i := 5) (lv' := [(5, .ref (A_1)), (4, .int (nI (20))), (3, .int (nI (so))), (2, .int (y1)), (0, .ref (0)), (1, .int (nI (k)))]) (pc := 118) dL_beanOf_118 (by decide) rfl ?_
      refine J_aload (i := 5) (pc := 120) dL_beanOf_120 rfl ?_
      refine J_aret (pc := 122) dL_beanOf_122 rfl ?_
      subst eA_1
      exact ⟨rfl, by omega, H_21, _, _, _, _, _, _, H_22, rfl, rfl, rfl, rfl, rfl, by omega, by omega, by omega, by omega, by omega⟩
  · skip
    refine J_bipush (v := nI (51)) (pc := 39) dL_beanOf_39 rfl ?_
    refine J_goto (tgt := 46) (pc := 41) dL_beanOf_41 (by decide) ?_
    refine J_istore (i := 4) (lv' := [(4, .int (nI (51))), (3, .int (nI (so))), (2, .int (y1)), (0, .ref (0)), (1, .int (nI (k)))]) (pc := 46) dL_beanOf_46 (by decide) rfl ?_
    refine J_iconst (v := nI (5)) (pc := 48) dL_beanOf_48 rfl ?_
    obtain ⟨A_23, eA_23⟩ : ∃ z : Nat, z = h.1 := ⟨_, rfl⟩
    obtain ⟨h_24, eh_24⟩ : ∃ z : MH, z = (A_23 + 1, hset h.2 A_23 (aI (5) (fun _ => 0))) := ⟨_, rfl⟩
    refine J_newIA (A := A_23) (h' := h_24) (n := 5) (ca' := 0) (sa' := 0) (pc := 49) dL_beanOf_49 rfl (by decide) (by omega) (by omega) eA_23 eh_24 ?_
    have zh_24 : h_24.1 = A_23 + 1 := by rw [eh_24]
    have H_25 : (∀ i, i < h.1 → h_24.2 i = h.2 i) := (fun i i1 => (ha_n eh_24 (by omega)).trans ((fun i _ => rfl) i i1))
    have H_26 : h_24.2 (A_23) = some (aI (5) (fun _ => 0)) := ha_s eh_24
    refine J_dup (pc := 51) dL_beanOf_51 rfl ?_
    refine J_iconst (v := nI (0)) (pc := 52) dL_beanOf_52 rfl ?_
    refine J_iload_n (i := 2) (pc := 53) dL_beanOf_53 rfl rfl ?_
    refine J_iconst (v := nI (1)) (pc := 54) dL_beanOf_54 rfl ?_
    refine J_ishr (pc := 55) dL_beanOf_55 ?_
    refine J_iload (i := 4) (pc := 56) dL_beanOf_56 rfl ?_
    refine J_cSi (st := [.int (nI (0)), .ref (A_23), .ref (A_23)]) (As := [.int ((y1) >>> (nI (1) &&& 31)), .int (nI (51))]) (pc := 58) dL_beanOf_58 okL_below q2_176 q2_177 rfl (Nat.le_of_ble_eq_true rfl) (Nat.le_of_ble_eq_true rfl) (l_below (by omega) (by omega)) ?_
    obtain ⟨b1, eb1, hb1⟩ : ∃ z : Nat, z = bel (((y1) >>> (nI (1) &&& 31))) (51) ∧ z < 51 := ⟨_, rfl, bel_lt _ (by omega)⟩
    rw [← eb1]
    refine J_bipush (v := nI (10)) (pc := 61) dL_beanOf_61 rfl ?_
    refine J_iload_n (i := 3) (pc := 63) dL_beanOf_63 rfl rfl ?_
    refine J_imulN (pc := 64) dL_beanOf_64 ?_
    refine J_bipush (v := nI (52)) (pc := 65) dL_beanOf_65 rfl ?_
    refine J_iload (i := 4) (pc := 67) dL_beanOf_67 rfl ?_
    refine J_isub (pc := 69) dL_beanOf_69 ?_
    rw [show nI (52) - nI (51) = nI 1 from by decide]
    refine J_iremN (pc := 70) dL_beanOf_70 (by omega) (by omega) (by omega) ?_
    refine J_iaddN (pc := 71) dL_beanOf_71 ?_
    refine J_iast (j := 0) (pc := 72) dL_beanOf_72 H_26 rfl (by omega) (by omega) ?_
    obtain ⟨h_27, eh_27⟩ : ∃ z : MH, z = (h_24.1, hset h_24.2 (A_23) (aI (5) (upd ((fun _ => 0)) (0) (nI (b1 + (((10) * (so)) % (1))))))) := ⟨_, rfl⟩
    refine J_heq (h2 := h_27) eh_27 ?_
    have zh_27 : h_27.1 = h_24.1 := by rw [eh_27]
    have H_28 : (∀ i, i < h.1 → h_27.2 i = h.2 i) := by rw [eh_27]; exact (fun i i1 => (hset_n (by omega)).trans (H_25 i i1))
    have H_29 : h_27.2 (A_23) = some (aI (5) (upd ((fun _ => 0)) (0) (nI (b1 + (((10) * (so)) % (1)))))) := hs_s eh_27
    refine J_dup (pc := 73) dL_beanOf_73 rfl ?_
    refine J_iconst (v := nI (1)) (pc := 74) dL_beanOf_74 rfl ?_
    refine J_iload_n (i := 2) (pc := 75) dL_beanOf_75 rfl rfl ?_
    refine J_iconst (v := nI (4)) (pc := 76) dL_beanOf_76 rfl ?_
    refine J_ishr (pc := 77) dL_beanOf_77 ?_
    refine J_iload (i := 4) (pc := 78) dL_beanOf_78 rfl ?_
    refine J_cSi (st := [.int (nI (1)), .ref (A_23), .ref (A_23)]) (As := [.int ((y1) >>> (nI (4) &&& 31)), .int (nI (51))]) (pc := 80) dL_beanOf_80 okL_below q2_176 q2_177 rfl (Nat.le_of_ble_eq_true rfl) (Nat.le_of_ble_eq_true rfl) (l_below (by omega) (by omega)) ?_
    obtain ⟨b2, eb2, hb2⟩ : ∃ z : Nat, z = bel (((y1) >>> (nI (4) &&& 31))) (51) ∧ z < 51 := ⟨_, rfl, bel_lt _ (by omega)⟩
    rw [← eb2]
    refine J_iast (j := 1) (pc := 83) dL_beanOf_83 H_29 rfl (by omega) (by omega) ?_
    obtain ⟨h_30, eh_30⟩ : ∃ z : MH, z = (h_27.1, hset h_27.2 (A_23) (aI (5) (upd (upd ((fun _ => 0)) (0) (nI (b1 + (((10) * (so)) % (1))))) (1) (nI (b2))))) := ⟨_, rfl⟩
    refine J_heq (h2 := h_30) eh_30 ?_
    have zh_30 : h_30.1 = h_27.1 := by rw [eh_30]
    have H_31 : (∀ i, i < h.1 → h_30.2 i = h.2 i) := by rw [eh_30]; exact (fun i i1 => (hset_n (by omega)).trans (H_28 i i1))
    have H_32 : h_30.2 (A_23) = some (aI (5) (upd (upd ((fun _ => 0)) (0) (nI (b1 + (((10) * (so)) % (1))))) (1) (nI (b2)))) := hs_s eh_30
    refine J_dup (pc := 84) dL_beanOf_84 rfl ?_
    refine J_iconst (v := nI (2)) (pc := 85) dL_beanOf_85 rfl ?_
    refine J_iload_n (i := 2) (pc := 86) dL_beanOf_86 rfl rfl ?_
    refine J_bipush (v := nI (7)) (pc := 87) dL_beanOf_87 rfl ?_
    refine J_ishr (pc := 89) dL_beanOf_89 ?_
    refine J_bipush (v := nI (6)) (pc := 90) dL_beanOf_90 rfl ?_
    refine J_cSi (st := [.int (nI (2)), .ref (A_23), .ref (A_23)]) (As := [.int ((y1) >>> (nI (7) &&& 31)), .int (nI (6))]) (pc := 92) dL_beanOf_92 okL_below q2_176 q2_177 rfl (Nat.le_of_ble_eq_true rfl) (Nat.le_of_ble_eq_true rfl) (l_below (by omega) (by omega)) ?_
    obtain ⟨b3, eb3, hb3⟩ : ∃ z : Nat, z = bel (((y1) >>> (nI (7) &&& 31))) (6) ∧ z < 6 := ⟨_, rfl, bel_lt _ (by omega)⟩
    rw [← eb3]
    refine J_iast (j := 2) (pc := 95) dL_beanOf_95 H_32 rfl (by omega) (by omega) ?_
    obtain ⟨h_33, eh_33⟩ : ∃ z : MH, z = (h_30.1, hset h_30.2 (A_23) (aI (5) (upd (upd (upd ((fun _ => 0)) (0) (nI (b1 + (((10) * (so)) % (1))))) (1) (nI (b2))) (2) (nI (b3))))) := ⟨_, rfl⟩
    refine J_heq (h2 := h_33) eh_33 ?_
    have zh_33 : h_33.1 = h_30.1 := by rw [eh_33]
    have H_34 : (∀ i, i < h.1 → h_33.2 i = h.2 i) := by rw [eh_33]; exact (fun i i1 => (hset_n (by omega)).trans (H_31 i i1))
    have H_35 : h_33.2 (A_23) = some (aI (5) (upd (upd (upd ((fun _ => 0)) (0) (nI (b1 + (((10) * (so)) % (1))))) (1) (nI (b2))) (2) (nI (b3)))) := hs_s eh_33
    refine J_dup (pc := 96) dL_beanOf_96 rfl ?_
    refine J_iconst (v := nI (3)) (pc := 97) dL_beanOf_97 rfl ?_
    refine J_iload_n (i := 3) (pc := 98) dL_beanOf_98 rfl rfl ?_
    refine J_iast (j := 3) (pc := 99) dL_beanOf_99 H_35 rfl (by omega) (by omega) ?_
    obtain ⟨h_36, eh_36⟩ : ∃ z : MH, z = (h_33.1, hset h_33.2 (A_23) (aI (5) (upd (upd (upd (upd ((fun _ => 0)) (0) (nI (b1 + (((10) * (so)) % (1))))) (1) (nI (b2))) (2) (nI (b3))) (3) (nI (so))))) := ⟨_, rfl⟩
    refine J_heq (h2 := h_36) eh_36 ?_
    have zh_36 : h_36.1 = h_33.1 := by rw [eh_36]
    have H_37 : (∀ i, i < h.1 → h_36.2 i = h.2 i) := by rw [eh_36]; exact (fun i i1 => (hset_n (by omega)).trans (H_34 i i1))
    have H_38 : h_36.2 (A_23) = some (aI (5) (upd (upd (upd (upd ((fun _ => 0)) (0) (nI (b1 + (((10) * (so)) % (1))))) (1) (nI (b2))) (2) (nI (b3))) (3) (nI (so)))) := hs_s eh_36
    refine J_dup (pc := 100) dL_beanOf_100 rfl ?_
    refine J_iconst (v := nI (4)) (pc := 101) dL_beanOf_101 rfl ?_
    refine J_iload_n (i := 2) (pc := 102) dL_beanOf_102 rfl rfl ?_
    refine J_iconst (v := nI (3)) (pc := 103) dL_beanOf_103 rfl ?_
    refine J_ishr (pc := 104) dL_beanOf_104 ?_
    refine J_iconst (v := nI (4)) (pc := 105) dL_beanOf_105 rfl ?_
    refine J_cSi (st := [.int (nI (4)), .ref (A_23), .ref (A_23)]) (As := [.int ((y1) >>> (nI (3) &&& 31)), .int (nI (4))]) (pc := 106) dL_beanOf_106 okL_below q2_176 q2_177 rfl (Nat.le_of_ble_eq_true rfl) (Nat.le_of_ble_eq_true rfl) (l_below (by omega) (by omega)) ?_
    obtain ⟨b4, eb4, hb4⟩ : ∃ z : Nat, z = bel (((y1) >>> (nI (3) &&& 31))) (4) ∧ z < 4 := ⟨_, rfl, bel_lt _ (by omega)⟩
    rw [← eb4]
    refine J_if_neN (tgt := 116) (pc := 109) dL_beanOf_109 (by decide) (by omega) (fun c109 => ?_) (fun c109 => ?_)
    · skip
      refine J_iconst (v := nI (0)) (pc := 116) dL_beanOf_116 rfl ?_
      refine J_iast (j := 4) (pc := 117) dL_beanOf_117 H_38 rfl (by omega) (by omega) ?_
      obtain ⟨h_39, eh_39⟩ : ∃ z : MH, z = (h_36.1, hset h_36.2 (A_23) (aI (5) (upd (upd (upd (upd (upd ((fun _ => 0)) (0) (nI (b1 + (((10) * (so)) % (1))))) (1) (nI (b2))) (2) (nI (b3))) (3) (nI (so))) (4) (nI (0))))) := ⟨_, rfl⟩
      refine J_heq (h2 := h_39) eh_39 ?_
      have zh_39 : h_39.1 = h_36.1 := by rw [eh_39]
      have H_40 : (∀ i, i < h.1 → h_39.2 i = h.2 i) := by rw [eh_39]; exact (fun i i1 => (hset_n (by omega)).trans (H_37 i i1))
      have H_41 : h_39.2 (A_23) = some (aI (5) (upd (upd (upd (upd (upd ((fun _ => 0)) (0) (nI (b1 + (((10) * (so)) % (1))))) (1) (nI (b2))) (2) (nI (b3))) (3) (nI (so))) (4) (nI (0)))) := hs_s eh_39
      refine J_astore (i := 5) (lv' := [(5, .ref (A_23)), (4, .int (nI (51))), (3, .int (nI (so))), (2, .int (y1)), (0, .ref (0)), (1, .int (nI (k)))]) (pc := 118) dL_beanOf_118 (by decide) rfl ?_
      refine J_aload (i := 5) (pc := 120) dL_beanOf_120 rfl ?_
      refine J_aret (pc := 122) dL_beanOf_122 rfl ?_
      subst eA_23
      exact ⟨rfl, by omega, H_40, _, _, _, _, _, _, H_41, rfl, rfl, rfl, rfl, rfl, by omega, by omega, by omega, by omega, by omega⟩
    · skip
      refine J_iconst (v := nI (1)) (pc := 112) dL_beanOf_112 rfl ?_
      refine J_goto (tgt := 117) (pc := 113) dL_beanOf_113 (by decide) ?_
      refine J_iast (j := 4) (pc := 117) dL_beanOf_117 H_38 rfl (by omega) (by omega) ?_
      obtain ⟨h_42, eh_42⟩ : ∃ z : MH, z = (h_36.1, hset h_36.2 (A_23) (aI (5) (upd (upd (upd (upd (upd ((fun _ => 0)) (0) (nI (b1 + (((10) * (so)) % (1))))) (1) (nI (b2))) (2) (nI (b3))) (3) (nI (so))) (4) (nI (1))))) := ⟨_, rfl⟩
      refine J_heq (h2 := h_42) eh_42 ?_
      have zh_42 : h_42.1 = h_36.1 := by rw [eh_42]
      have H_43 : (∀ i, i < h.1 → h_42.2 i = h.2 i) := by rw [eh_42]; exact (fun i i1 => (hset_n (by omega)).trans (H_37 i i1))
      have H_44 : h_42.2 (A_23) = some (aI (5) (upd (upd (upd (upd (upd ((fun _ => 0)) (0) (nI (b1 + (((10) * (so)) % (1))))) (1) (nI (b2))) (2) (nI (b3))) (3) (nI (so))) (4) (nI (1)))) := hs_s eh_42
      refine J_astore (i := 5) (lv' := [(5, .ref (A_23)), (4, .int (nI (51))), (3, .int (nI (so))), (2, .int (y1)), (0, .ref (0)), (1, .int (nI (k)))]) (pc := 118) dL_beanOf_118 (by decide) rfl ?_
      refine J_aload (i := 5) (pc := 120) dL_beanOf_120 rfl ?_
      refine J_aret (pc := 122) dL_beanOf_122 rfl ?_
      subst eA_23
      exact ⟨rfl, by omega, H_43, _, _, _, _, _, _, H_44, rfl, rfl, rfl, rfl, rfl, by omega, by omega, by omega, by omega, by omega⟩

theorem k_checkT {g : GT} {d : Nat} {h : MH} {σ : ST} {π : Nat → Nat} (hG : GP h σ π) {k : Nat} (hk : k < σ.1.1) (e : σ.1.2.1.testBit k = false) : J g (d + 2) 0 0 mX2_check 0 (lv_args 0 [.ref 1, .int (nI k), .int (nI 1)]) [] h (RH (nI 0) (fun h' => Fr 1 52 h h' ∧ GP h' (checkB σ.1 k true, σ.2) π)) := by
  have r := c_check (g := g) (d := d) (v := true) hG hk
  rw [e] at r
  exact r
theorem k_checkF {g : GT} {d : Nat} {h : MH} {σ : ST} {π : Nat → Nat} (hG : GP h σ π) {k : Nat} (hk : k < σ.1.1) : J g (d + 2) 0 0 mX2_check 0 (lv_args 0 [.ref 1, .int (nI k), .int (nI 0)]) [] h (RH (bI (σ.1.2.1.testBit k)) (fun h' => Fr 1 52 h h' ∧ GP h' (checkB σ.1 k false, σ.2) π)) := c_check (g := g) (d := d) (v := false) hG hk
theorem k_checkU {g : GT} {d : Nat} {h : MH} {σ : ST} {π : Nat → Nat} (hG : GP h σ π) {k : Nat} (hk : k < σ.1.1) : J g (d + 2) 0 0 mX2_check 0 (lv_args 0 [.ref 1, .int (nI k), .int (nI 1)]) [] h (RH (bI (σ.1.2.1.testBit k)) (fun h' => Fr 1 52 h h' ∧ GP h' (checkB σ.1 k true, σ.2) π)) := c_check (g := g) (d := d) (v := true) hG hk
theorem addB_n (β : BT) (a b c s : Nat) : (addB β a b c s).1 = β.1 + 1 ∧ (addB β a b c s).2.1 = β.2.1 := ⟨rfl, rfl⟩
theorem GP_W {h : MH} {σ : ST} {π : Nat → Nat} (hG : GP h σ π) : WF σ.1 := hG.1.1

set_option maxHeartbeats 2000000 in
set_option maxRecDepth 20000 in
theorem so_lp {g : GT} {d n : Nat} (hL : g_L g ≤ 260) (hn : 3 + bel (cel g 0) 18 = n) (hn2 : n ≤ 20) (hn3 : 3 ≤ n) : ∀ (j : Nat) (h : MH) (σ : ST) (π : Nat → Nat), GP h σ π → σ.1.1 + j = n → σ.2.1.1 = 0 → 53 ≤ h.1 → J g (d + 3) j (5 * j) mL_sorter 10 [(2, .int (nI (σ.1.1))), (0, .ref (0)), (1, .ref (1))] [] h (RG (.ref 1) (fun h' => ∃ σ π, GP h' σ π ∧ 3 ≤ σ.1.1 ∧ σ.2.1.1 = 0)) := by
  intro j
  induction j with
  | zero =>
    intro h σ π hG hk hk0 hz
    obtain ⟨fs0, r0⟩ := GP_1 hG
    refine J_iload_n (i := 2) (pc := 10) dL_sorter_10 rfl rfl ?_
    refine J_aload_n (i := 0) (pc := 11) dL_sorter_11 rfl rfl ?_
    refine J_cSi (st := [.int (nI (σ.1.1))]) (As := [.ref (0)]) (pc := 12) dL_sorter_12 okL_beansOf q3_32 q3_33 rfl (Nat.le_of_ble_eq_true rfl) (Nat.le_of_ble_eq_true rfl) (l_beansOf (d := d + 1) hL) ?_
    rw [hn]
    refine J_icmp_geN (tgt := 68) (pc := 15) dL_sorter_15 (by decide) (by omega) (by omega) (fun c15 => ?_) (fun c15 => by exfalso; first | omega | simp_all)
    refine J_aload_n (i := 1) (pc := 68) dL_sorter_68 rfl rfl ?_
    refine J_areto (pc := 69) dL_sorter_69 rfl ?_
    exact ⟨rfl, σ, π, hG, by omega, hk0⟩
  | succ j ih =>
    intro h σ π hG hk hk0 hz
    obtain ⟨fs0, r0⟩ := GP_1 hG
    refine J_iload_n (i := 2) (pc := 10) dL_sorter_10 rfl rfl ?_
    refine J_aload_n (i := 0) (pc := 11) dL_sorter_11 rfl rfl ?_
    refine J_cSi (st := [.int (nI (σ.1.1))]) (As := [.ref (0)]) (pc := 12) dL_sorter_12 okL_beansOf q3_32 q3_33 rfl (Nat.le_of_ble_eq_true rfl) (Nat.le_of_ble_eq_true rfl) (l_beansOf (d := d + 1) hL) ?_
    rw [hn]
    refine J_icmp_geN (tgt := 68) (pc := 15) dL_sorter_15 (by decide) (by omega) (by omega) (fun c15 => by exfalso; first | omega | simp_all) (fun c15 => ?_)
    refine J_aload_n (i := 0) (pc := 18) dL_sorter_18 rfl rfl ?_
    refine J_iload_n (i := 2) (pc := 19) dL_sorter_19 rfl rfl ?_
    refine J_cSB (st := []) (As := [.ref (0), .int (nI (σ.1.1))]) (v := some (.ref (h.1))) (ca1 := 1) (sa1 := 5) (ca2 := j) (sa2 := 5 * j) (pc := 20) dL_sorter_20 okL_beanOf q3_35 q3_36 rfl (Nat.le_of_ble_eq_true rfl) (Nat.le_of_ble_eq_true rfl) (l_beanOf (d := d + 1) hL (by omega)) (by omega) (by omega) (fun h_1 q_2 => ?_)
    obtain ⟨z1, o1, a, b, c, so, v, f, cA, f0, f1, f2, f3, f4, ha, hb, hc, hs, hv⟩ := q_2
    have hG1 := GH_oth (fun i i1 i2 => o1 i (by omega)) ⟨π, hG⟩
    obtain ⟨π1, hG1⟩ := hG1
    obtain ⟨fs1, r1⟩ := GP_1 hG1
    refine J_astore_n (i := 3) (lv' := [(3, .ref (h.1)), (2, .int (nI (σ.1.1))), (0, .ref (0)), (1, .ref (1))]) (pc := 23) dL_sorter_23 rfl (by decide) rfl ?_
    refine J_aload_n (i := 1) (pc := 24) dL_sorter_24 rfl rfl ?_
    refine J_aload_n (i := 3) (pc := 25) dL_sorter_25 rfl rfl ?_
    refine J_iconst (v := nI (0)) (pc := 26) dL_sorter_26 rfl ?_
    refine J_iald (j := 0) (pc := 27) dL_sorter_27 cA rfl (by omega) (by omega) ?_
    rw [show f 0 = nI (a) from f0]
    refine J_aload_n (i := 3) (pc := 28) dL_sorter_28 rfl rfl ?_
    refine J_iconst (v := nI (1)) (pc := 29) dL_sorter_29 rfl ?_
    refine J_iald (j := 1) (pc := 30) dL_sorter_30 cA rfl (by omega) (by omega) ?_
    rw [show f 1 = nI (b) from f1]
    refine J_aload_n (i := 3) (pc := 31) dL_sorter_31 rfl rfl ?_
    refine J_iconst (v := nI (2)) (pc := 32) dL_sorter_32 rfl ?_
    refine J_iald (j := 2) (pc := 33) dL_sorter_33 cA rfl (by omega) (by omega) ?_
    rw [show f 2 = nI (c) from f2]
    refine J_aload_n (i := 3) (pc := 34) dL_sorter_34 rfl rfl ?_
    refine J_iconst (v := nI (3)) (pc := 35) dL_sorter_35 rfl ?_
    refine J_iald (j := 3) (pc := 36) dL_sorter_36 cA rfl (by omega) (by omega) ?_
    rw [show f 3 = nI (so) from f3]
    refine J_cVh (st := []) (As := [.int (nI (a)), .int (nI (b)), .int (nI (c)), .int (nI (so))]) (pc := 37) dL_sorter_37 okX2_bean q3_38 q3_39 q3_40 (rfl : vwCl[2]? = some _) r1 rfl (Nat.le_of_ble_eq_true rfl) (Nat.le_of_ble_eq_true rfl) (c_bean (d := d) hG1 (by omega) ha hb hc hs) (fun h_3 q_4 => ?_)
    obtain ⟨fr2, hG2⟩ := q_4
    have cA2 := (fr2.2 _ (by omega)).trans cA
    obtain ⟨fs2, r2⟩ := GP_1 hG2
    refine J_iload_n (i := 2) (pc := 40) dL_sorter_40 rfl rfl ?_
    refine J_icmp_neN (tgt := 60) (pc := 41) dL_sorter_41 (by decide) (by omega) (by omega) (fun c41 => by exfalso; first | omega | simp_all) (fun c41 => ?_)
    refine J_aload_n (i := 3) (pc := 44) dL_sorter_44 rfl rfl ?_
    refine J_iconst (v := nI (4)) (pc := 45) dL_sorter_45 rfl ?_
    refine J_iald (j := 4) (pc := 46) dL_sorter_46 cA2 rfl (by omega) (by omega) ?_
    rw [show f 4 = nI (v) from f4]
    refine J_iconst (v := nI (1)) (pc := 47) dL_sorter_47 rfl ?_
    refine J_icmp_neN (tgt := 62) (pc := 48) dL_sorter_48 (by decide) (by omega) (by omega) (fun c48 => ?_) (fun c48 => ?_)
    · skip
      refine J_iinc (i := 2) (v := nI (σ.1.1 + 1)) (lv' := [(2, .int (nI (σ.1.1 + 1))), (3, .ref (h.1)), (0, .ref (0)), (1, .ref (1))]) (pc := 62) dL_sorter_62 rfl (nI_add (σ.1.1) 1) (by decide) rfl ?_
      refine J_goto (tgt := 10) (pc := 65) dL_sorter_65 (by decide) ?_
      refine J_sub (lv' := [(2, .int (nI (σ.1.1 + 1))), (0, .ref (0)), (1, .ref (1))]) [0, 2, 3] rfl ?_
      exact ih h_3 (addB σ.1 a b c so, σ.2) π1 hG2 (by show σ.1.1 + 1 + j = n; omega) hk0 (by have z2 := fr2.1; omega)
    · skip
      refine J_aload_n (i := 1) (pc := 51) dL_sorter_51 rfl rfl ?_
      refine J_iload_n (i := 2) (pc := 52) dL_sorter_52 rfl rfl ?_
      refine J_iconst (v := nI (1)) (pc := 53) dL_sorter_53 rfl ?_
      refine J_cVh (st := []) (As := [.int (nI (σ.1.1)), .int (nI (1))]) (pc := 54) dL_sorter_54 okX2_check q1_12 q1_13 q1_14 (rfl : vwCl[2]? = some _) r2 rfl (Nat.le_of_ble_eq_true rfl) (Nat.le_of_ble_eq_true rfl) (k_checkT (d := d) hG2 (Nat.lt_succ_self _) (Nat.testBit_lt_two_pow (GP_W hG).2.1)) (fun h_5 q_6 => ?_)
      obtain ⟨fr3, hG3⟩ := q_6
      refine J_if_eqN (tgt := 62) (pc := 57) dL_sorter_57 (by decide) (by omega) (fun c57 => ?_) (fun c57 => by exfalso; first | omega | simp_all)
      refine J_iinc (i := 2) (v := nI (σ.1.1 + 1)) (lv' := [(2, .int (nI (σ.1.1 + 1))), (3, .ref (h.1)), (0, .ref (0)), (1, .ref (1))]) (pc := 62) dL_sorter_62 rfl (nI_add (σ.1.1) 1) (by decide) rfl ?_
      refine J_goto (tgt := 10) (pc := 65) dL_sorter_65 (by decide) ?_
      refine J_sub (lv' := [(2, .int (nI (σ.1.1 + 1))), (0, .ref (0)), (1, .ref (1))]) [0, 2, 3] rfl ?_
      exact ih h_5 (checkB (addB σ.1 a b c so) σ.1.1 true, σ.2) π1 hG3 (by show σ.1.1 + 1 + j = n; omega) hk0 (by have z2 := fr2.1; have z3 := fr3.1; omega)

set_option maxHeartbeats 2000000 in
set_option maxRecDepth 20000 in
theorem l_sorter {g : GT} {d : Nat} {h : MH} (hL : g_L g ≤ 260) (hn : h.1 = 1) : J g (d + 3) 72 1814 mL_sorter 0 (lv_args 0 [.ref 0]) [] h (RG (.ref 1) (fun h' => ∃ σ π, GP h' σ π ∧ 3 ≤ σ.1.1 ∧ σ.2.1.1 = 0)) := by
  have eA_1 : (1 : Nat) = h.1 := by omega
  obtain ⟨h_2, eh_2⟩ : ∃ z : MH, z = (1 + 1, hset h.2 1 (oB 2 [.null, .null, .null, .int (nI (0)), .int (nI (0)), .int (nI (0))])) := ⟨_, rfl⟩
  refine J_newA (A := 1) (h' := h_2) (ca' := 71) (sa' := 1808) (pc := 0) dL_sorter_0 nwL_19 (by omega) (by omega) eA_1 eh_2 ?_
  have zh_2 : h_2.1 = 1 + 1 := by rw [eh_2]
  have H_3 : h_2.2 (1) = some (oB 2 [.null, .null, .null, .int (nI (0)), .int (nI (0)), .int (nI (0))]) := ha_s eh_2
  refine J_dup (pc := 3) dL_sorter_3 rfl ?_
  refine J_cIB (st := [.ref (1)]) (As := []) (ca1 := 51) (sa1 := 1708) (ca2 := 20) (sa2 := 100) (pc := 4) dL_sorter_4 okX2_init q2_188 q2_189 rfl rfl rfl (Nat.le_of_ble_eq_true rfl) (Nat.le_of_ble_eq_true rfl) (c_Xinit (d := d + 1) H_3 (by omega)) (by omega) (by omega) (fun h_4 q_5 => ?_)
  obtain ⟨zx, lx, π, gx⟩ := q_5
  refine J_astore_n (i := 1) (lv' := [(1, .ref (1)), (0, .ref (0))]) (pc := 7) dL_sorter_7 rfl (by decide) rfl ?_
  refine J_iconst (v := nI (0)) (pc := 8) dL_sorter_8 rfl ?_
  refine J_istore_n (i := 2) (lv' := [(2, .int (nI (0))), (1, .ref (1)), (0, .ref (0))]) (pc := 9) dL_sorter_9 rfl (by decide) rfl ?_
  refine J_sub (lv' := [(2, .int (nI (0))), (0, .ref (0)), (1, .ref (1))]) [0, 2, 1] rfl ?_
  have hb := bel_lt (cel g 0) (n := 18) (by decide)
  refine J_bud ?_ ?_ (so_lp (d := d) hL rfl (by omega) (by omega) (3 + bel (cel g 0) 18) h_4 σ0 π gx (Nat.zero_add _) rfl (by omega))
  · omega
  · omega

