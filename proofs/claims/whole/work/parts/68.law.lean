-- the law: advice, mean, digest; the loop; the start
theorem m_adviseQ {g : GT} {d : Nat} {h : MH} {σ : ST} {th : Int32} (ok : okS σ) (hq : MQs h σ th) : J g (d + 61) 1111 7006 mX3_advise 0 (lv_args 0 [.ref 53]) [] h (RMo (.int (enc (adS σ))) h σ (nI 0)) := by
  have hc1 := cnt_le (gro σ.1)
  have hc2 := cnt_le σ.1.2.1
  have hab := ad_bd (cnt (gro σ.1)) (cnt σ.1.2.1) hc1 hc2
  obtain ⟨o1, o2, o3, o4⟩ := id ok
  have hk5 : σ.2.1.1 * (cnt (gro σ.1) + cnt σ.1.2.1) ≤ 5 * 40 := Nat.mul_le_mul o1 (by omega)
  obtain ⟨ρ, hP⟩ := hq
  refine J_bud ?_ ?_ (m_advise (dd := d + 49) hP) <;> omega
theorem m_meanQ {g : GT} {d : Nat} {h : MH} {σ : ST} {th : Int32} (ok : okS σ) (hq : MQs h σ th) : J g (d + 61) 1111 7006 mX3_mean 0 (lv_args 0 [.ref 53]) [] h (RMo (.double (mnS σ)) h σ (nI 0)) := by
  have hc1 := cnt_le (gro σ.1)
  have hc2 := cnt_le σ.1.2.1
  have hab := ad_bd (cnt (gro σ.1)) (cnt σ.1.2.1) hc1 hc2
  obtain ⟨o1, o2, o3, o4⟩ := id ok
  have hk5 : σ.2.1.1 * (cnt (gro σ.1) + cnt σ.1.2.1) ≤ 5 * 40 := Nat.mul_le_mul o1 (by omega)
  obtain ⟨ρ, hP⟩ := hq
  refine J_bud ?_ ?_ (m_mean (dd := d + 54) hP) <;> omega
theorem m_digestQ {g : GT} {d : Nat} {h : MH} {σ : ST} {th : Int32} (ok : okS σ) (hq : MQs h σ th) : J g (d + 61) 1111 7006 mX3_digest 0 (lv_args 0 [.ref 53]) [] h (RMo (.long (dgS σ)) h σ (nI 0)) := by
  have hc1 := cnt_le (gro σ.1)
  have hc2 := cnt_le σ.1.2.1
  have hab := ad_bd (cnt (gro σ.1)) (cnt σ.1.2.1) hc1 hc2
  obtain ⟨o1, o2, o3, o4⟩ := id ok
  have hk5 : σ.2.1.1 * (cnt (gro σ.1) + cnt σ.1.2.1) ≤ 5 * 40 := Nat.mul_le_mul o1 (by omega)
  obtain ⟨ρ, hP⟩ := hq
  refine J_bud ?_ ?_ (m_digest (dd := d + 48) hP) <;> omega
set_option maxHeartbeats 2000000 in
set_option maxRecDepth 20000 in
theorem op_advise {g : GT} {d ca2 sa2 i : Nat} {σ : ST} {h : MH} (hS : LSt h σ) (hn : ∀ σ' h', LSt h' σ' → J g (d + 62) ca2 sa2 mL_law 1403 [(4, .int (nI (i))), (0, .ref (0)), (1, .ref (1)), (2, .ref (53)), (3, .ref (59))] [] h' QL) : J g (d + 62) (ca2 + 1111) (sa2 + 7006) mL_law 1335 [(4, .int (nI (i))), (0, .ref (0)), (1, .ref (1)), (2, .ref (53)), (3, .ref (59))] [] h QL := by
  obtain ⟨hG, ⟨th, hq⟩, f, c59⟩ := hS
  obtain ⟨hW, ok⟩ := MQ_W hq
  obtain ⟨π, hG⟩ := hG
  obtain ⟨fs1, r1⟩ := GH_1 ⟨π, hG⟩
  have hc1 := cnt_le (gro σ.1)
  have hc2 := cnt_le σ.1.2.1
  have hab := ad_bd (cnt (gro σ.1)) (cnt σ.1.2.1) hc1 hc2
  obtain ⟨o1, o2, o3, o4⟩ := id ok
  have hk5 : σ.2.1.1 * (cnt (gro σ.1) + cnt σ.1.2.1) ≤ 5 * 40 := Nat.mul_le_mul o1 (by omega)
  refine J_aload_n (i := 1) (pc := 1335) dL_law_1335 rfl rfl ?_
  refine J_cVB (st := []) (As := []) (v := some (.int (enc (adS σ)))) (ca1 := 0) (sa1 := 0) (ca2 := ca2 + 1111) (sa2 := sa2 + 7006) (pc := 1336) dL_law_1336 okX2_advise q1_104 q1_105 q1_106 (rfl : vwCl[2]? = some _) r1 rfl (Nat.le_of_ble_eq_true rfl) (Nat.le_of_ble_eq_true rfl) (c_advise (d := d + 55) hG) (by omega) (by omega) (fun h_1 q_2 => ?_)
  obtain ⟨fr9, gh9⟩ := q_2
  have hq9 := MQ_oth (fun i i1 _ => fr9.2 i (Or.inr (by omega))) (Nat.le_of_eq fr9.1.symm) hq
  have c9 := (fr9.2 59 (by decide)).trans c59
  obtain ⟨fs9, r53⟩ := MQ_53 hq9
  refine J_aload_n (i := 2) (pc := 1339) dL_law_1339 rfl rfl ?_
  refine J_cVB (st := [.int (enc (adS σ))]) (As := []) (v := some (.int (enc (adS σ)))) (ca1 := 1111) (sa1 := 7006) (ca2 := ca2) (sa2 := sa2) (pc := 1340) dL_law_1340 okX3_advise q4_112 q4_113 q4_114 (rfl : vwCl[3]? = some _) r53 rfl (Nat.le_of_ble_eq_true rfl) (Nat.le_of_ble_eq_true rfl) (m_adviseQ ok hq9) (by omega) (by omega) (fun h_3 q_4 => ?_)
  obtain ⟨fm8, hq8⟩ := q_4
  have c8 := (fm8.2 59 (Or.inr rfl)).trans c9
  refine J_icmp_eq (tgt := 1403) (pc := 1343) dL_law_1343 (by decide) (fun c1343 => ?_) (fun c1343 => absurd c1343 (fun q => q rfl))
  refine J_sub (lv' := [(4, .int (nI (i))), (0, .ref (0)), (1, .ref (1)), (2, .ref (53)), (3, .ref (59))]) [0, 1, 2, 3, 4] rfl ?_
  exact hn σ h_3 ⟨GH_FM fm8 ⟨π, gh9⟩, ⟨_, hq8⟩, f, c8⟩

set_option maxHeartbeats 2000000 in
set_option maxRecDepth 20000 in
theorem op_mean {g : GT} {d ca2 sa2 i : Nat} {σ : ST} {h : MH} (hS : LSt h σ) (hn : ∀ σ' h', LSt h' σ' → J g (d + 62) ca2 sa2 mL_law 1403 [(4, .int (nI (i))), (0, .ref (0)), (1, .ref (1)), (2, .ref (53)), (3, .ref (59))] [] h' QL) : J g (d + 62) (ca2 + 1111) (sa2 + 7006) mL_law 1348 [(4, .int (nI (i))), (0, .ref (0)), (1, .ref (1)), (2, .ref (53)), (3, .ref (59))] [] h QL := by
  obtain ⟨hG, ⟨th, hq⟩, f, c59⟩ := hS
  obtain ⟨hW, ok⟩ := MQ_W hq
  obtain ⟨π, hG⟩ := hG
  obtain ⟨fs1, r1⟩ := GH_1 ⟨π, hG⟩
  have hc1 := cnt_le (gro σ.1)
  have hc2 := cnt_le σ.1.2.1
  have hab := ad_bd (cnt (gro σ.1)) (cnt σ.1.2.1) hc1 hc2
  obtain ⟨o1, o2, o3, o4⟩ := id ok
  have hk5 : σ.2.1.1 * (cnt (gro σ.1) + cnt σ.1.2.1) ≤ 5 * 40 := Nat.mul_le_mul o1 (by omega)
  refine J_aload_n (i := 1) (pc := 1348) dL_law_1348 rfl rfl ?_
  refine J_cVB (st := []) (As := []) (v := some (.double (mnS σ))) (ca1 := 0) (sa1 := 0) (ca2 := ca2 + 1111) (sa2 := sa2 + 7006) (pc := 1349) dL_law_1349 okX2_mean q1_184 q1_185 q1_186 (rfl : vwCl[2]? = some _) r1 rfl (Nat.le_of_ble_eq_true rfl) (Nat.le_of_ble_eq_true rfl) (c_mean (d := d + 60) hG) (by omega) (by omega) (fun h_1 q_2 => ?_)
  have fr9 : Fr 1 52 h h_1 := by rw [q_2]; exact Fr_rfl
  have gh9 : GP h_1 σ π := by rw [q_2]; exact hG
  have hq9 := MQ_oth (fun i i1 _ => fr9.2 i (Or.inr (by omega))) (Nat.le_of_eq fr9.1.symm) hq
  have c9 := (fr9.2 59 (by decide)).trans c59
  obtain ⟨fs9, r53⟩ := MQ_53 hq9
  refine J_dstore (i := 5) (lv' := [(5, .double (mnS σ)), (4, .int (nI (i))), (0, .ref (0)), (1, .ref (1)), (2, .ref (53)), (3, .ref (59))]) (pc := 1352) dL_law_1352 (by decide) rfl ?_
  refine J_aload_n (i := 2) (pc := 1354) dL_law_1354 rfl rfl ?_
  refine J_cVB (st := []) (As := []) (v := some (.double (mnS σ))) (ca1 := 1111) (sa1 := 7006) (ca2 := ca2) (sa2 := sa2) (pc := 1355) dL_law_1355 okX3_mean q4_116 q4_117 q4_118 (rfl : vwCl[3]? = some _) r53 rfl (Nat.le_of_ble_eq_true rfl) (Nat.le_of_ble_eq_true rfl) (m_meanQ ok hq9) (by omega) (by omega) (fun h_3 q_4 => ?_)
  obtain ⟨fm8, hq8⟩ := q_4
  have c8 := (fm8.2 59 (Or.inr rfl)).trans c9
  refine J_dstore (i := 7) (lv' := [(7, .double (mnS σ)), (5, .double (mnS σ)), (4, .int (nI (i))), (0, .ref (0)), (1, .ref (1)), (2, .ref (53)), (3, .ref (59))]) (pc := 1358) dL_law_1358 (by decide) rfl ?_
  refine J_dload (i := 5) (pc := 1360) dL_law_1360 rfl ?_
  refine J_dload (i := 7) (pc := 1362) dL_law_1362 rfl ?_
  refine J_dcmp (pc := 1364) dL_law_1364 ?_
  refine J_if_eq (tgt := 1386) (pc := 1365) dL_law_1365 (by decide) (fun c1365 => ?_) (fun c1365 => ?_)
  · skip
    refine J_goto (tgt := 1403) (pc := 1386) dL_law_1386 (by decide) ?_
    refine J_sub (lv' := [(4, .int (nI (i))), (0, .ref (0)), (1, .ref (1)), (2, .ref (53)), (3, .ref (59))]) [2, 3, 4, 5, 6] rfl ?_
    exact hn σ h_3 ⟨GH_FM fm8 ⟨π, gh9⟩, ⟨_, hq8⟩, f, c8⟩
  · skip
    refine J_dload (i := 5) (pc := 1368) dL_law_1368 rfl ?_
    refine J_dload (i := 5) (pc := 1370) dL_law_1370 rfl ?_
    refine J_dcmp (pc := 1372) dL_law_1372 ?_
    refine J_if_eq (tgt := 1384) (pc := 1373) dL_law_1373 (by decide) (fun c1373 => absurd c1373 (c1365)) (fun c1373 => ?_)
    refine J_dload (i := 7) (pc := 1376) dL_law_1376 rfl ?_
    refine J_dload (i := 7) (pc := 1378) dL_law_1378 rfl ?_
    refine J_dcmp (pc := 1380) dL_law_1380 ?_
    refine J_if_ne (tgt := 1386) (pc := 1381) dL_law_1381 (by decide) (fun c1381 => ?_) (fun c1381 => absurd c1381 (c1365))
    refine J_goto (tgt := 1403) (pc := 1386) dL_law_1386 (by decide) ?_
    refine J_sub (lv' := [(4, .int (nI (i))), (0, .ref (0)), (1, .ref (1)), (2, .ref (53)), (3, .ref (59))]) [2, 3, 4, 5, 6] rfl ?_
    exact hn σ h_3 ⟨GH_FM fm8 ⟨π, gh9⟩, ⟨_, hq8⟩, f, c8⟩

set_option maxHeartbeats 2000000 in
set_option maxRecDepth 20000 in
theorem op_digest {g : GT} {d ca2 sa2 i : Nat} {σ : ST} {h : MH} (hS : LSt h σ) (hn : ∀ σ' h', LSt h' σ' → J g (d + 62) ca2 sa2 mL_law 1403 [(4, .int (nI (i))), (0, .ref (0)), (1, .ref (1)), (2, .ref (53)), (3, .ref (59))] [] h' QL) : J g (d + 62) (ca2 + 1111) (sa2 + 7006) mL_law 1389 [(4, .int (nI (i))), (0, .ref (0)), (1, .ref (1)), (2, .ref (53)), (3, .ref (59))] [] h QL := by
  obtain ⟨hG, ⟨th, hq⟩, f, c59⟩ := hS
  obtain ⟨hW, ok⟩ := MQ_W hq
  obtain ⟨π, hG⟩ := hG
  obtain ⟨fs1, r1⟩ := GH_1 ⟨π, hG⟩
  have hc1 := cnt_le (gro σ.1)
  have hc2 := cnt_le σ.1.2.1
  have hab := ad_bd (cnt (gro σ.1)) (cnt σ.1.2.1) hc1 hc2
  obtain ⟨o1, o2, o3, o4⟩ := id ok
  have hk5 : σ.2.1.1 * (cnt (gro σ.1) + cnt σ.1.2.1) ≤ 5 * 40 := Nat.mul_le_mul o1 (by omega)
  refine J_aload_n (i := 1) (pc := 1389) dL_law_1389 rfl rfl ?_
  refine J_cVB (st := []) (As := []) (v := some (.long (dgS σ))) (ca1 := 0) (sa1 := 0) (ca2 := ca2 + 1111) (sa2 := sa2 + 7006) (pc := 1390) dL_law_1390 okX2_digest q1_192 q1_193 q1_194 (rfl : vwCl[2]? = some _) r1 rfl (Nat.le_of_ble_eq_true rfl) (Nat.le_of_ble_eq_true rfl) (c_digest (d := d + 56) hG) (by omega) (by omega) (fun h_1 q_2 => ?_)
  obtain ⟨fr9, gh9⟩ := q_2
  have hq9 := MQ_oth (fun i i1 _ => fr9.2 i (Or.inr (by omega))) (Nat.le_of_eq fr9.1.symm) hq
  have c9 := (fr9.2 59 (by decide)).trans c59
  obtain ⟨fs9, r53⟩ := MQ_53 hq9
  refine J_aload_n (i := 2) (pc := 1393) dL_law_1393 rfl rfl ?_
  refine J_cVB (st := [.long (dgS σ)]) (As := []) (v := some (.long (dgS σ))) (ca1 := 1111) (sa1 := 7006) (ca2 := ca2) (sa2 := sa2) (pc := 1394) dL_law_1394 okX3_digest q4_120 q4_121 q4_122 (rfl : vwCl[3]? = some _) r53 rfl (Nat.le_of_ble_eq_true rfl) (Nat.le_of_ble_eq_true rfl) (m_digestQ ok hq9) (by omega) (by omega) (fun h_3 q_4 => ?_)
  obtain ⟨fm8, hq8⟩ := q_4
  have c8 := (fm8.2 59 (Or.inr rfl)).trans c9
  refine J_lcmp (pc := 1397) dL_law_1397 ?_
  refine J_if_eq (tgt := 1403) (pc := 1398) dL_law_1398 (by decide) (fun c1398 => ?_) (fun c1398 => absurd c1398 (fun q => q (lg_self _)))
  refine J_sub (lv' := [(4, .int (nI (i))), (0, .ref (0)), (1, .ref (1)), (2, .ref (53)), (3, .ref (59))]) [0, 1, 2, 3, 4] rfl ?_
  exact hn σ h_3 ⟨GH_FM fm8 ⟨π, gh9⟩, ⟨_, hq8⟩, f, c8⟩

set_option maxHeartbeats 2000000 in
set_option maxRecDepth 20000 in
theorem law_loop {g : GT} {d : Nat} (hL : g_L g ≤ 2560) : ∀ (n i : Nat) (σ : ST) (h : MH), LSt h σ → (g_L g < i + 5 * n + 5 ∧ i ≤ 2560) → J g (d + 62) (n * 1111) (n * 7006) mL_law 23 [(4, .int (nI (i))), (0, .ref (0)), (1, .ref (1)), (2, .ref (53)), (3, .ref (59))] [] h QL := by
  intro n
  induction n with
  | zero =>
    intro i σ h hS hi
    refine J_iload (i := 4) (pc := 23) dL_law_23 rfl ?_
    refine J_aload_n (i := 0) (pc := 25) dL_law_25 rfl rfl ?_
    refine J_slen (pc := 26) dL_law_26 ?_
    refine J_iconst (v := nI (5)) (pc := 27) dL_law_27 rfl ?_
    refine J_isub (pc := 28) dL_law_28 ?_
    refine J_icmp_gt (tgt := 1409) (pc := 29) dL_law_29 (by decide) (fun c29 => ?_) (fun c29 => absurd c29 (fun q => q ((lt_L hL hi.2).mpr (by omega))))
    refine J_iconst (v := nI (1)) (pc := 1409) dL_law_1409 rfl ?_
    refine J_iret (ty := .boolean) (pc := 1410) dL_law_1410 rfl rfl ?_
    exact rfl
  | succ n ih =>
    intro i σ h hS hi
    refine J_iload (i := 4) (pc := 23) dL_law_23 rfl ?_
    refine J_aload_n (i := 0) (pc := 25) dL_law_25 rfl rfl ?_
    refine J_slen (pc := 26) dL_law_26 ?_
    refine J_iconst (v := nI (5)) (pc := 27) dL_law_27 rfl ?_
    refine J_isub (pc := 28) dL_law_28 ?_
    refine J_icmp_gt (tgt := 1409) (pc := 29) dL_law_29 (by decide) (fun c29 => ?_) (fun c29 => ?_)
    · skip
      refine J_iconst (v := nI (1)) (pc := 1409) dL_law_1409 rfl ?_
      refine J_iret (ty := .boolean) (pc := 1410) dL_law_1410 rfl rfl ?_
      exact rfl
    · skip
      have c29b : i + 5 ≤ g_L g := by (have c30 : ¬ g_L g < i + 5 := fun q => c29 ((lt_L hL hi.2).mpr q)); omega
      refine J_aload_n (i := 0) (pc := 32) dL_law_32 rfl rfl ?_
      refine J_iload (i := 4) (pc := 33) dL_law_33 rfl ?_
      refine J_sld (j := i) (pc := 35) dL_law_35 rfl (fun _ => by omega) ?_
      refine J_bipush (v := nI (31)) (pc := 36) dL_law_36 rfl ?_
      refine J_iand (pc := 38) dL_law_38 ?_
      obtain ⟨q, hq5, eq5⟩ := pk_andE (g_x g i) (m := nI 31) 5 (by decide)
      rw [eq5]
      have hnext : ∀ σ' h', LSt h' σ' → J g (d + 62) (n * 1111) (n * 7006) mL_law 1403 [(4, .int (nI (i))), (0, .ref (0)), (1, .ref (1)), (2, .ref (53)), (3, .ref (59))] [] h' QL := by
        intro σ' h' hS'
        refine J_iinc (i := 4) (v := nI (i + 5)) (lv' := [(4, .int (nI (i + 5))), (0, .ref (0)), (1, .ref (1)), (2, .ref (53)), (3, .ref (59))]) (pc := 1403) dL_law_1403 rfl (nI_add (i) 5) (by decide) rfl ?_
        refine J_goto (tgt := 23) (pc := 1406) dL_law_1406 (by decide) ?_
        refine J_sub (lv' := [(4, .int (nI (i + 5))), (0, .ref (0)), (1, .ref (1)), (2, .ref (53)), (3, .ref (59))]) [0, 1, 2, 3, 4] rfl ?_
        exact ih (i + 5) σ' h' hS' (by omega)
      rw [Nat.succ_mul, Nat.succ_mul]
      refine J_sub (lv' := [(4, .int (nI (i))), (0, .ref (0)), (1, .ref (1)), (2, .ref (53)), (3, .ref (59))]) [0, 1, 2, 3, 4] rfl ?_
      have h20 : q < 20 ∨ 20 ≤ q := by omega
      rcases h20 with h20 | h20
      · obtain rfl | rfl | rfl | rfl | rfl | rfl | rfl | rfl | rfl | rfl | rfl | rfl | rfl | rfl | rfl | rfl | rfl | rfl | rfl | rfl : q = 0 ∨ q = 1 ∨ q = 2 ∨ q = 3 ∨ q = 4 ∨ q = 5 ∨ q = 6 ∨ q = 7 ∨ q = 8 ∨ q = 9 ∨ q = 10 ∨ q = 11 ∨ q = 12 ∨ q = 13 ∨ q = 14 ∨ q = 15 ∨ q = 16 ∨ q = 17 ∨ q = 18 ∨ q = 19 := by omega
        · refine J_tableIn (off := 93) (tgt := 132) (pc := 39) dL_law_39 (by decide) (by decide) (by decide +kernel) (by decide) ?_
          exact op_bean hL (by omega) hS hnext
        · refine J_tableIn (off := 185) (tgt := 224) (pc := 39) dL_law_39 (by decide) (by decide) (by decide +kernel) (by decide) ?_
          exact op_setSort hL (by omega) hS hnext
        · refine J_tableIn (off := 253) (tgt := 292) (pc := 39) dL_law_39 (by decide) (by decide) (by decide +kernel) (by decide) ?_
          exact op_check hL (by omega) hS hnext
        · refine J_tableIn (off := 344) (tgt := 383) (pc := 39) dL_law_39 (by decide) (by decide) (by decide +kernel) (by decide) ?_
          exact op_setDepth hL (by omega) hS hnext
        · refine J_tableIn (off := 400) (tgt := 439) (pc := 39) dL_law_39 (by decide) (by decide) (by decide +kernel) (by decide) ?_
          exact op_setLeast hL (by omega) hS hnext
        · refine J_tableIn (off := 456) (tgt := 495) (pc := 39) dL_law_39 (by decide) (by decide) (by decide +kernel) (by decide) ?_
          exact op_plant hL (by omega) hS hnext
        · refine J_tableIn (off := 524) (tgt := 563) (pc := 39) dL_law_39 (by decide) (by decide) (by decide +kernel) (by decide) ?_
          exact op_fell hL (by omega) hS hnext
        · refine J_tableIn (off := 580) (tgt := 619) (pc := 39) dL_law_39 (by decide) (by decide) (by decide +kernel) (by decide) ?_
          exact op_prune hL (by omega) hS hnext
        · refine J_tableIn (off := 636) (tgt := 675) (pc := 39) dL_law_39 (by decide) (by decide) (by decide +kernel) (by decide) ?_
          exact op_node hL (by omega) hS hnext
        · refine J_tableIn (off := 716) (tgt := 755) (pc := 39) dL_law_39 (by decide) (by decide) (by decide +kernel) (by decide) ?_
          exact op_about hL (by omega) hS hnext
        · refine J_tableIn (off := 784) (tgt := 823) (pc := 39) dL_law_39 (by decide) (by decide) (by decide +kernel) (by decide) ?_
          exact op_told hL (by omega) hS hnext
        · refine J_tableIn (off := 852) (tgt := 891) (pc := 39) dL_law_39 (by decide) (by decide) (by decide +kernel) (by decide) ?_
          exact op_says hL (by omega) hS hnext
        · refine J_tableIn (off := 944) (tgt := 983) (pc := 39) dL_law_39 (by decide) (by decide) (by decide +kernel) (by decide) ?_
          exact op_vote hL (by omega) hS hnext
        · refine J_tableIn (off := 1024) (tgt := 1063) (pc := 39) dL_law_39 (by decide) (by decide) (by decide +kernel) (by decide) ?_
          exact op_count hL (by omega) hS hnext
        · refine J_tableIn (off := 1080) (tgt := 1119) (pc := 39) dL_law_39 (by decide) (by decide) (by decide +kernel) (by decide) ?_
          exact op_gain hL (by omega) hS hnext
        · refine J_tableIn (off := 1160) (tgt := 1199) (pc := 39) dL_law_39 (by decide) (by decide) (by decide +kernel) (by decide) ?_
          exact op_best hL (by omega) hS hnext
        · refine J_tableIn (off := 1216) (tgt := 1255) (pc := 39) dL_law_39 (by decide) (by decide) (by decide +kernel) (by decide) ?_
          exact op_would hL (by omega) hS hnext
        · refine J_tableIn (off := 1296) (tgt := 1335) (pc := 39) dL_law_39 (by decide) (by decide) (by decide +kernel) (by decide) ?_
          exact op_advise hS hnext
        · refine J_tableIn (off := 1309) (tgt := 1348) (pc := 39) dL_law_39 (by decide) (by decide) (by decide +kernel) (by decide) ?_
          exact op_mean hS hnext
        · refine J_tableIn (off := 1350) (tgt := 1389) (pc := 39) dL_law_39 (by decide) (by decide) (by decide +kernel) (by decide) ?_
          exact op_digest hS hnext
      · refine J_tableOut (tgt := 1403) (pc := 39) dL_law_39 (Or.inr (by rw [nI_toInt (by omega)]; omega)) (by decide) ?_
        exact J_bud (by omega) (by omega) (hnext σ h hS)

