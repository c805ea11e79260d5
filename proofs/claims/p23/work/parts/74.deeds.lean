-- the law's body: prune, check, fell, plant
set_option maxHeartbeats 2000000 in
set_option maxRecDepth 20000 in
theorem l_B0 {g : GT} {d n T : Nat} {h : MH} {σ : ST} {x : Int32} (hL : g_L g ≤ 260) (hn : n < 16) (I : LI h σ T) (kk : ∀ (h' : MH) (σ' : ST) (T' : Nat), LI h' σ' T' → J g (d + 7) 0 0 mL_law 623 [(0, .ref (0)), (1, .ref (1)), (2, .int (nI (T'))), (3, .int (nI (n)))] [] h' QL) : J g (d + 7) 0 0 mL_law 316 [(4, .int (x)), (0, .ref (0)), (1, .ref (1)), (2, .int (nI (T))), (3, .int (nI (n)))] [] h QL := by
  obtain ⟨fs1, r1⟩ := LI_1 I
  obtain ⟨hW, ok, hn20, hT5, hn3⟩ := LI_b I
  obtain ⟨o1, o2, o3, o4⟩ := id ok
  refine J_iload_n (i := 2) (pc := 316) dL_law_316 rfl rfl ?_
  refine J_if_neN (tgt := 323) (pc := 317) dL_law_317 (by decide) (by omega) (fun c317 => ?_) (fun c317 => ?_)
  · skip
    refine J_iload (i := 4) (pc := 323) dL_law_323 rfl ?_
    refine J_iconst (v := nI (3)) (pc := 325) dL_law_325 rfl ?_
    refine J_ishr (pc := 326) dL_law_326 ?_
    refine J_iload_n (i := 2) (pc := 327) dL_law_327 rfl rfl ?_
    refine J_cSi (st := []) (As := [.int ((x) >>> (nI (3) &&& 31)), .int (nI (T))]) (pc := 328) dL_law_328 okL_below q2_176 q2_177 rfl (Nat.le_of_ble_eq_true rfl) (Nat.le_of_ble_eq_true rfl) (l_below (by omega) (by omega)) ?_
    obtain ⟨j, ej, hj⟩ : ∃ z : Nat, z = bel (((x) >>> (nI (3) &&& 31))) (T) ∧ z < T := ⟨_, rfl, bel_lt _ (by omega)⟩
    rw [← ej]
    obtain ⟨ok1, ok2, ok3, ok4⟩ := LI_tr I hj
    have hr1 := rg_le σ.1 5 (σ.2.2.1 j) σ.1.2.1
    have hc1 := cnt_le σ.1.2.1
    have htu := tu_two σ.1 5 (σ.2.2.1 j) σ.1.2.1
    refine J_istore (i := 11) (lv' := [(11, .int (nI (j))), (4, .int (x)), (0, .ref (0)), (1, .ref (1)), (2, .int (nI (T))), (3, .int (nI (n)))]) (pc := 331) dL_law_331 (by decide) rfl ?_
    refine J_aload_n (i := 1) (pc := 333) dL_law_333 rfl rfl ?_
    refine J_iload (i := 11) (pc := 334) dL_law_334 rfl ?_
    refine J_iconst (v := nI (4)) (pc := 336) dL_law_336 rfl ?_
    refine J_cVh (st := []) (As := [.int (nI (j)), .int (nI (4))]) (pc := 337) dL_law_337 okX2_about q2_64 q2_65 q2_66 (rfl : vwCl[2]? = some _) r1 rfl (Nat.le_of_ble_eq_true rfl) (Nat.le_of_ble_eq_true rfl) (i_about4 (d := d + 3) I (by omega)) (fun h_1 q_2 => ?_)
    have I_10 := q_2
    obtain ⟨fs_10, r_10⟩ := LI_1 I_10
    refine J_istore (i := 12) (lv' := [(12, .int (nI (rgT σ.1 5 (σ.2.2.1 j) σ.1.2.1))), (11, .int (nI (j))), (4, .int (x)), (0, .ref (0)), (1, .ref (1)), (2, .int (nI (T))), (3, .int (nI (n)))]) (pc := 340) dL_law_340 (by decide) rfl ?_
    refine J_aload_n (i := 1) (pc := 342) dL_law_342 rfl rfl ?_
    refine J_iload (i := 11) (pc := 343) dL_law_343 rfl ?_
    refine J_iconst (v := nI (0)) (pc := 345) dL_law_345 rfl ?_
    refine J_cVh (st := []) (As := [.int (nI (j)), .int (nI (0))]) (pc := 346) dL_law_346 okX2_about q2_64 q2_65 q2_66 (rfl : vwCl[2]? = some _) r_10 rfl (Nat.le_of_ble_eq_true rfl) (Nat.le_of_ble_eq_true rfl) (i_about0 (d := d + 3) I_10 (by omega)) (fun h_3 q_4 => ?_)
    have I_11 := q_4
    obtain ⟨fs_11, r_11⟩ := LI_1 I_11
    refine J_istore (i := 13) (lv' := [(13, .int (nI (nN 5 (σ.2.2.1 j)))), (12, .int (nI (rgT σ.1 5 (σ.2.2.1 j) σ.1.2.1))), (11, .int (nI (j))), (4, .int (x)), (0, .ref (0)), (1, .ref (1)), (2, .int (nI (T))), (3, .int (nI (n)))]) (pc := 349) dL_law_349 (by decide) rfl ?_
    refine J_aload_n (i := 1) (pc := 351) dL_law_351 rfl rfl ?_
    refine J_iload (i := 11) (pc := 352) dL_law_352 rfl ?_
    refine J_cVh (st := []) (As := [.int (nI (j))]) (pc := 354) dL_law_354 okX2_prune q1_238 q1_239 q2_0 (rfl : vwCl[2]? = some _) r_11 rfl (Nat.le_of_ble_eq_true rfl) (Nat.le_of_ble_eq_true rfl) (i_prune (d := d + 3) I_11 (by omega)) (fun h_5 q_6 => ?_)
    obtain ⟨σ_12, I_12, ea, eb⟩ := q_6
    obtain ⟨oj1, oj2, oj3, oj4⟩ := LI_tr I_12 hj
    have hrg : rgT σ.1 5 (σ.2.2.1 j) σ.1.2.1 ≤ rgT σ_12.1 5 (σ_12.2.2.1 j) σ_12.1.2.1 := by rw [ea, eb]; exact rg_pr σ.1 5 _ _
    have hr2 := rg_le σ_12.1 5 (σ_12.2.2.1 j) σ_12.1.2.1
    have hc2 := cnt_le σ_12.1.2.1
    have hnn : (tuP σ.1 5 (σ.2.2.1 j) σ.1.2.1 = 0 ∧ nN 5 (σ_12.2.2.1 j) = nN 5 (σ.2.2.1 j)) ∨ (1 ≤ tuP σ.1 5 (σ.2.2.1 j) σ.1.2.1 ∧ nN 5 (σ_12.2.2.1 j) + 2 ≤ nN 5 (σ.2.2.1 j)) := by
      rw [eb]
      have h9 := nN_tu σ.1 5 (σ.2.2.1 j) σ.1.2.1
      rcases Nat.eq_zero_or_pos (tuP σ.1 5 (σ.2.2.1 j) σ.1.2.1) with q | q
      · exact Or.inl ⟨q, h9.1 q⟩
      · exact Or.inr ⟨q, h9.2 q⟩
    obtain ⟨fs_12, r_12⟩ := LI_1 I_12
    refine J_istore (i := 14) (lv' := [(14, .int (nI (tuP σ.1 5 (σ.2.2.1 j) σ.1.2.1))), (13, .int (nI (nN 5 (σ.2.2.1 j)))), (12, .int (nI (rgT σ.1 5 (σ.2.2.1 j) σ.1.2.1))), (11, .int (nI (j))), (4, .int (x)), (0, .ref (0)), (1, .ref (1)), (2, .int (nI (T))), (3, .int (nI (n)))]) (pc := 357) dL_law_357 (by decide) rfl ?_
    refine J_aload_n (i := 1) (pc := 359) dL_law_359 rfl rfl ?_
    refine J_iload (i := 11) (pc := 360) dL_law_360 rfl ?_
    refine J_iconst (v := nI (4)) (pc := 362) dL_law_362 rfl ?_
    refine J_cVh (st := []) (As := [.int (nI (j)), .int (nI (4))]) (pc := 363) dL_law_363 okX2_about q2_64 q2_65 q2_66 (rfl : vwCl[2]? = some _) r_12 rfl (Nat.le_of_ble_eq_true rfl) (Nat.le_of_ble_eq_true rfl) (i_about4 (d := d + 3) I_12 (by omega)) (fun h_7 q_8 => ?_)
    have I_13 := q_8
    obtain ⟨fs_13, r_13⟩ := LI_1 I_13
    refine J_iload (i := 12) (pc := 366) dL_law_366 rfl ?_
    refine J_icmp_ltN (tgt := 414) (pc := 368) dL_law_368 (by decide) (by omega) (by omega) (fun c368 => by exfalso; first | omega | simp_all) (fun c368 => ?_)
    refine J_aload_n (i := 1) (pc := 371) dL_law_371 rfl rfl ?_
    refine J_iload (i := 11) (pc := 372) dL_law_372 rfl ?_
    refine J_iconst (v := nI (0)) (pc := 374) dL_law_374 rfl ?_
    refine J_cVh (st := []) (As := [.int (nI (j)), .int (nI (0))]) (pc := 375) dL_law_375 okX2_about q2_64 q2_65 q2_66 (rfl : vwCl[2]? = some _) r_13 rfl (Nat.le_of_ble_eq_true rfl) (Nat.le_of_ble_eq_true rfl) (i_about0 (d := d + 3) I_13 (by omega)) (fun h_9 q_10 => ?_)
    have I_14 := q_10
    obtain ⟨fs_14, r_14⟩ := LI_1 I_14
    refine J_iload (i := 13) (pc := 378) dL_law_378 rfl ?_
    refine J_iconst (v := nI (2)) (pc := 380) dL_law_380 rfl ?_
    refine J_iload (i := 14) (pc := 381) dL_law_381 rfl ?_
    refine J_imulN (pc := 383) dL_law_383 ?_
    refine J_isubN (pc := 384) dL_law_384 (by omega) ?_
    refine J_icmp_eqN (tgt := 393) (pc := 385) dL_law_385 (by decide) (by omega) (by omega) (fun c385 => ?_) (fun c385 => ?_)
    · skip
      refine J_aload_n (i := 1) (pc := 393) dL_law_393 rfl rfl ?_
      refine J_iload (i := 11) (pc := 394) dL_law_394 rfl ?_
      refine J_iconst (v := nI (0)) (pc := 396) dL_law_396 rfl ?_
      refine J_cVh (st := []) (As := [.int (nI (j)), .int (nI (0))]) (pc := 397) dL_law_397 okX2_about q2_64 q2_65 q2_66 (rfl : vwCl[2]? = some _) r_14 rfl (Nat.le_of_ble_eq_true rfl) (Nat.le_of_ble_eq_true rfl) (i_about0 (d := d + 3) I_14 (by omega)) (fun h_11 q_12 => ?_)
      have I_15 := q_12
      obtain ⟨fs_15, r_15⟩ := LI_1 I_15
      refine J_iload (i := 13) (pc := 400) dL_law_400 rfl ?_
      refine J_iconst (v := nI (2)) (pc := 402) dL_law_402 rfl ?_
      refine J_iconst (v := nI (1)) (pc := 403) dL_law_403 rfl ?_
      refine J_iload (i := 14) (pc := 404) dL_law_404 rfl ?_
      refine J_min (pc := 406) dL_law_406 q3_59 (Nat.le_of_ble_eq_true rfl) ?_
      rw [show (if nI (tuP σ.1 5 (σ.2.2.1 j) σ.1.2.1) < nI (1) then nI (tuP σ.1 5 (σ.2.2.1 j) σ.1.2.1) else nI (1)) = nI (min (1) (tuP σ.1 5 (σ.2.2.1 j) σ.1.2.1)) from nI_min (by omega) (by omega)]
      refine J_imulN (pc := 409) dL_law_409 ?_
      refine J_isubN (pc := 410) dL_law_410 (by omega) ?_
      refine J_icmp_leN (tgt := 623) (pc := 411) dL_law_411 (by decide) (by omega) (by omega) (fun c411 => ?_) (fun c411 => by exfalso; first | omega | simp_all)
      refine J_sub (lv' := [(0, .ref (0)), (1, .ref (1)), (2, .int (nI (T))), (3, .int (nI (n)))]) [5, 6, 7, 8] rfl ?_
      exact kk h_11 _ _ I_15
    · skip
      refine J_iload (i := 14) (pc := 388) dL_law_388 rfl ?_
      refine J_if_eqN (tgt := 414) (pc := 390) dL_law_390 (by decide) (by omega) (fun c390 => by exfalso; first | omega | simp_all) (fun c390 => ?_)
      refine J_aload_n (i := 1) (pc := 393) dL_law_393 rfl rfl ?_
      refine J_iload (i := 11) (pc := 394) dL_law_394 rfl ?_
      refine J_iconst (v := nI (0)) (pc := 396) dL_law_396 rfl ?_
      refine J_cVh (st := []) (As := [.int (nI (j)), .int (nI (0))]) (pc := 397) dL_law_397 okX2_about q2_64 q2_65 q2_66 (rfl : vwCl[2]? = some _) r_14 rfl (Nat.le_of_ble_eq_true rfl) (Nat.le_of_ble_eq_true rfl) (i_about0 (d := d + 3) I_14 (by omega)) (fun h_13 q_14 => ?_)
      have I_16 := q_14
      obtain ⟨fs_16, r_16⟩ := LI_1 I_16
      refine J_iload (i := 13) (pc := 400) dL_law_400 rfl ?_
      refine J_iconst (v := nI (2)) (pc := 402) dL_law_402 rfl ?_
      refine J_iconst (v := nI (1)) (pc := 403) dL_law_403 rfl ?_
      refine J_iload (i := 14) (pc := 404) dL_law_404 rfl ?_
      refine J_min (pc := 406) dL_law_406 q3_59 (Nat.le_of_ble_eq_true rfl) ?_
      rw [show (if nI (tuP σ.1 5 (σ.2.2.1 j) σ.1.2.1) < nI (1) then nI (tuP σ.1 5 (σ.2.2.1 j) σ.1.2.1) else nI (1)) = nI (min (1) (tuP σ.1 5 (σ.2.2.1 j) σ.1.2.1)) from nI_min (by omega) (by omega)]
      refine J_imulN (pc := 409) dL_law_409 ?_
      refine J_isubN (pc := 410) dL_law_410 (by omega) ?_
      refine J_icmp_leN (tgt := 623) (pc := 411) dL_law_411 (by decide) (by omega) (by omega) (fun c411 => ?_) (fun c411 => by exfalso; first | omega | simp_all)
      refine J_sub (lv' := [(0, .ref (0)), (1, .ref (1)), (2, .int (nI (T))), (3, .int (nI (n)))]) [5, 6, 7, 8] rfl ?_
      exact kk h_13 _ _ I_16
  · skip
    refine J_goto (tgt := 623) (pc := 320) dL_law_320 (by decide) ?_
    refine J_sub (lv' := [(0, .ref (0)), (1, .ref (1)), (2, .int (nI (T))), (3, .int (nI (n)))]) [1, 2, 3, 4] rfl ?_
    exact kk h _ _ I

set_option maxHeartbeats 2000000 in
set_option maxRecDepth 20000 in
theorem l_B1 {g : GT} {d n T : Nat} {h : MH} {σ : ST} {x : Int32} (hL : g_L g ≤ 260) (hn : n < 16) (I : LI h σ T) (kk : ∀ (h' : MH) (σ' : ST) (T' : Nat), LI h' σ' T' → J g (d + 7) 0 0 mL_law 623 [(0, .ref (0)), (1, .ref (1)), (2, .int (nI (T'))), (3, .int (nI (n)))] [] h' QL) : J g (d + 7) 0 0 mL_law 416 [(4, .int (x)), (0, .ref (0)), (1, .ref (1)), (2, .int (nI (T))), (3, .int (nI (n)))] [] h QL := by
  obtain ⟨fs1, r1⟩ := LI_1 I
  obtain ⟨hW, ok, hn20, hT5, hn3⟩ := LI_b I
  obtain ⟨o1, o2, o3, o4⟩ := id ok
  refine J_aload_n (i := 1) (pc := 416) dL_law_416 rfl rfl ?_
  refine J_iload (i := 4) (pc := 417) dL_law_417 rfl ?_
  refine J_iconst (v := nI (3)) (pc := 419) dL_law_419 rfl ?_
  refine J_ishr (pc := 420) dL_law_420 ?_
  refine J_aload_n (i := 1) (pc := 421) dL_law_421 rfl rfl ?_
  refine J_iconst (v := nI (0)) (pc := 422) dL_law_422 rfl ?_
  refine J_cVi (st := [.int ((x) >>> (nI (3) &&& 31)), .ref (1)]) (As := [.int (nI (0))]) (pc := 423) dL_law_423 okX2_count q2_109 q2_110 q2_111 (rfl : vwCl[2]? = some _) r1 rfl (Nat.le_of_ble_eq_true rfl) (Nat.le_of_ble_eq_true rfl) (i_count0 (d := d + 2) I ) ?_
  refine J_cSi (st := [.ref (1)]) (As := [.int ((x) >>> (nI (3) &&& 31)), .int (nI (σ.1.1))]) (pc := 426) dL_law_426 okL_below q2_176 q2_177 rfl (Nat.le_of_ble_eq_true rfl) (Nat.le_of_ble_eq_true rfl) (l_below (by omega) (by omega)) ?_
  obtain ⟨j, ej, hj⟩ : ∃ z : Nat, z = bel (((x) >>> (nI (3) &&& 31))) (σ.1.1) ∧ z < σ.1.1 := ⟨_, rfl, bel_lt _ (by omega)⟩
  rw [← ej]
  refine J_iload (i := 4) (pc := 429) dL_law_429 rfl ?_
  refine J_bipush (v := nI (6)) (pc := 431) dL_law_431 rfl ?_
  refine J_ishr (pc := 433) dL_law_433 ?_
  refine J_iconst (v := nI (2)) (pc := 434) dL_law_434 rfl ?_
  refine J_cSi (st := [.int (nI (j)), .ref (1)]) (As := [.int ((x) >>> (nI (6) &&& 31)), .int (nI (2))]) (pc := 435) dL_law_435 okL_below q2_176 q2_177 rfl (Nat.le_of_ble_eq_true rfl) (Nat.le_of_ble_eq_true rfl) (l_below (by omega) (by omega)) ?_
  obtain ⟨v, ev, hv⟩ : ∃ z : Nat, z = bel (((x) >>> (nI (6) &&& 31))) (2) ∧ z < 2 := ⟨_, rfl, bel_lt _ (by omega)⟩
  rw [← ev]
  refine J_if_neN (tgt := 445) (pc := 438) dL_law_438 (by decide) (by omega) (fun c438 => ?_) (fun c438 => ?_)
  · skip
    refine J_iconst (v := nI (0)) (pc := 445) dL_law_445 rfl ?_
    refine J_cVh (st := []) (As := [.int (nI (j)), .int (nI (0))]) (pc := 446) dL_law_446 okX2_check q1_12 q1_13 q1_14 (rfl : vwCl[2]? = some _) r1 rfl (Nat.le_of_ble_eq_true rfl) (Nat.le_of_ble_eq_true rfl) (i_checkF (d := d + 4) I hj) (fun h_1 q_2 => ?_)
    obtain ⟨σ_17, I_17⟩ := q_2
    obtain ⟨fs_17, r_17⟩ := LI_1 I_17
    refine J_pop (pc := 449) dL_law_449 rfl ?_
    refine J_goto (tgt := 623) (pc := 450) dL_law_450 (by decide) ?_
    refine J_sub (lv' := [(0, .ref (0)), (1, .ref (1)), (2, .int (nI (T))), (3, .int (nI (n)))]) [1, 2, 3, 4] rfl ?_
    exact kk h_1 _ _ I_17
  · skip
    refine J_iconst (v := nI (1)) (pc := 441) dL_law_441 rfl ?_
    refine J_goto (tgt := 446) (pc := 442) dL_law_442 (by decide) ?_
    refine J_cVh (st := []) (As := [.int (nI (j)), .int (nI (1))]) (pc := 446) dL_law_446 okX2_check q1_12 q1_13 q1_14 (rfl : vwCl[2]? = some _) r1 rfl (Nat.le_of_ble_eq_true rfl) (Nat.le_of_ble_eq_true rfl) (i_checkU (d := d + 4) I hj) (fun h_3 q_4 => ?_)
    obtain ⟨σ_18, I_18⟩ := q_4
    obtain ⟨fs_18, r_18⟩ := LI_1 I_18
    refine J_pop (pc := 449) dL_law_449 rfl ?_
    refine J_goto (tgt := 623) (pc := 450) dL_law_450 (by decide) ?_
    refine J_sub (lv' := [(0, .ref (0)), (1, .ref (1)), (2, .int (nI (T))), (3, .int (nI (n)))]) [1, 2, 3, 4] rfl ?_
    exact kk h_3 _ _ I_18

set_option maxHeartbeats 2000000 in
set_option maxRecDepth 20000 in
theorem l_own {g : GT} {d n T : Nat} {h : MH} {σ : ST} {s : Nat} (hL : g_L g ≤ 260) (hn : n < 16) (I : LI h σ (T + 1)) (hs : (rowT 5 0 (σ.2.2.1 T) 0).2.1 = s) (hs2 : s ≤ 2) : ∀ (j k : Nat), k + j = σ.1.1 → J g (d + 7) 0 0 mL_law 569 [(15, .int (nI (owF σ.1 s σ.1.1))), (16, .int (nI (σ.1.1))), (0, .ref (0)), (1, .ref (1)), (2, .int (nI (T + 1))), (3, .int (nI (n)))] [] h QL → J g (d + 7) 0 0 mL_law 514 [(15, .int (nI (owF σ.1 s k))), (16, .int (nI (k))), (0, .ref (0)), (1, .ref (1)), (2, .int (nI (T + 1))), (3, .int (nI (n)))] [] h QL := by
  obtain ⟨fs1, r1⟩ := LI_1 I
  obtain ⟨hW, ok, hn20, hT5, hn3⟩ := LI_b I
  obtain ⟨o1, o2, o3, o4⟩ := id ok
  intro j
  induction j with
  | zero =>
    intro k hk kk
    have hol := owF_le σ.1 s k
    refine J_iload (i := 16) (pc := 514) dL_law_514 rfl ?_
    refine J_aload_n (i := 1) (pc := 516) dL_law_516 rfl rfl ?_
    refine J_iconst (v := nI (0)) (pc := 517) dL_law_517 rfl ?_
    refine J_cVi (st := [.int (nI (k))]) (As := [.int (nI (0))]) (pc := 518) dL_law_518 okX2_count q2_109 q2_110 q2_111 (rfl : vwCl[2]? = some _) r1 rfl (Nat.le_of_ble_eq_true rfl) (Nat.le_of_ble_eq_true rfl) (i_count0 (d := d + 2) I ) ?_
    refine J_icmp_geN (tgt := 569) (pc := 521) dL_law_521 (by decide) (by omega) (by omega) (fun c521 => ?_) (fun c521 => by exfalso; first | omega | simp_all)
    refine J_sub (lv' := [(15, .int (nI (owF σ.1 s k))), (16, .int (nI (k))), (0, .ref (0)), (1, .ref (1)), (2, .int (nI (T + 1))), (3, .int (nI (n)))]) [0, 1, 2, 3, 4, 5] rfl ?_
    have hkk : k = σ.1.1 := by omega
    rw [hkk]
    exact kk
  | succ j ih =>
    intro k hk kk
    have hol := owF_le σ.1 s k
    have hsk := hW.2.2.2 k (by omega)
    cases hb : σ.1.2.1.testBit k with
    | true =>
      refine J_iload (i := 16) (pc := 514) dL_law_514 rfl ?_
      refine J_aload_n (i := 1) (pc := 516) dL_law_516 rfl rfl ?_
      refine J_iconst (v := nI (0)) (pc := 517) dL_law_517 rfl ?_
      refine J_cVi (st := [.int (nI (k))]) (As := [.int (nI (0))]) (pc := 518) dL_law_518 okX2_count q2_109 q2_110 q2_111 (rfl : vwCl[2]? = some _) r1 rfl (Nat.le_of_ble_eq_true rfl) (Nat.le_of_ble_eq_true rfl) (i_count0 (d := d + 2) I ) ?_
      refine J_icmp_geN (tgt := 569) (pc := 521) dL_law_521 (by decide) (by omega) (by omega) (fun c521 => by exfalso; first | omega | simp_all) (fun c521 => ?_)
      refine J_iload (i := 15) (pc := 524) dL_law_524 rfl ?_
      refine J_aload_n (i := 1) (pc := 526) dL_law_526 rfl rfl ?_
      refine J_iload (i := 16) (pc := 527) dL_law_527 rfl ?_
      refine J_iconst (v := nI (4)) (pc := 529) dL_law_529 rfl ?_
      refine J_cVi (st := [.int (nI (owF σ.1 s k))]) (As := [.int (nI (k)), .int (nI (4))]) (pc := 530) dL_law_530 okX2_told q2_96 q2_97 q2_98 (rfl : vwCl[2]? = some _) r1 rfl (Nat.le_of_ble_eq_true rfl) (Nat.le_of_ble_eq_true rfl) (i_told4T (d := d + 4) I (by omega) hb) ?_
      refine J_if_neN (tgt := 559) (pc := 533) dL_law_533 (by decide) (by omega) (fun c533 => ?_) (fun c533 => by exfalso; first | omega | simp_all)
      refine J_iconst (v := nI (0)) (pc := 559) dL_law_559 rfl ?_
      refine J_iaddN (pc := 560) dL_law_560 ?_
      refine J_istore (i := 15) (lv' := [(15, .int (nI (owF σ.1 s k))), (16, .int (nI (k))), (0, .ref (0)), (1, .ref (1)), (2, .int (nI (T + 1))), (3, .int (nI (n)))]) (pc := 561) dL_law_561 (by decide) rfl ?_
      refine J_iinc (i := 16) (v := nI (k + 1)) (lv' := [(16, .int (nI (k + 1))), (15, .int (nI (owF σ.1 s k))), (0, .ref (0)), (1, .ref (1)), (2, .int (nI (T + 1))), (3, .int (nI (n)))]) (pc := 563) dL_law_563 rfl (nI_add (k) 1) (by decide) rfl ?_
      refine J_goto (tgt := 514) (pc := 566) dL_law_566 (by decide) ?_
      refine J_sub (lv' := [(15, .int (nI (owF σ.1 s k))), (16, .int (nI (k + 1))), (0, .ref (0)), (1, .ref (1)), (2, .int (nI (T + 1))), (3, .int (nI (n)))]) [1, 0, 2, 3, 4, 5] rfl ?_
      have e9 : owF σ.1 s (k + 1) = owF σ.1 s k := by
        rw [owF_s (by omega)]
        simp [hb, *]
      rw [← e9]
      exact ih (k + 1) (by omega) kk
    | false =>
      refine J_iload (i := 16) (pc := 514) dL_law_514 rfl ?_
      refine J_aload_n (i := 1) (pc := 516) dL_law_516 rfl rfl ?_
      refine J_iconst (v := nI (0)) (pc := 517) dL_law_517 rfl ?_
      refine J_cVi (st := [.int (nI (k))]) (As := [.int (nI (0))]) (pc := 518) dL_law_518 okX2_count q2_109 q2_110 q2_111 (rfl : vwCl[2]? = some _) r1 rfl (Nat.le_of_ble_eq_true rfl) (Nat.le_of_ble_eq_true rfl) (i_count0 (d := d + 2) I ) ?_
      refine J_icmp_geN (tgt := 569) (pc := 521) dL_law_521 (by decide) (by omega) (by omega) (fun c521 => by exfalso; first | omega | simp_all) (fun c521 => ?_)
      refine J_iload (i := 15) (pc := 524) dL_law_524 rfl ?_
      refine J_aload_n (i := 1) (pc := 526) dL_law_526 rfl rfl ?_
      refine J_iload (i := 16) (pc := 527) dL_law_527 rfl ?_
      refine J_iconst (v := nI (4)) (pc := 529) dL_law_529 rfl ?_
      refine J_cVi (st := [.int (nI (owF σ.1 s k))]) (As := [.int (nI (k)), .int (nI (4))]) (pc := 530) dL_law_530 okX2_told q2_96 q2_97 q2_98 (rfl : vwCl[2]? = some _) r1 rfl (Nat.le_of_ble_eq_true rfl) (Nat.le_of_ble_eq_true rfl) (i_told4F (d := d + 4) I (by omega) hb) ?_
      refine J_if_neN (tgt := 559) (pc := 533) dL_law_533 (by decide) (by omega) (fun c533 => by exfalso; first | omega | simp_all) (fun c533 => ?_)
      refine J_aload_n (i := 1) (pc := 536) dL_law_536 rfl rfl ?_
      refine J_iload (i := 16) (pc := 537) dL_law_537 rfl ?_
      refine J_iconst (v := nI (3)) (pc := 539) dL_law_539 rfl ?_
      refine J_cVi (st := [.int (nI (owF σ.1 s k))]) (As := [.int (nI (k)), .int (nI (3))]) (pc := 540) dL_law_540 okX2_told q2_96 q2_97 q2_98 (rfl : vwCl[2]? = some _) r1 rfl (Nat.le_of_ble_eq_true rfl) (Nat.le_of_ble_eq_true rfl) (i_told3 (d := d + 4) I (by omega)) ?_
      refine J_aload_n (i := 1) (pc := 543) dL_law_543 rfl rfl ?_
      refine J_iload_n (i := 2) (pc := 544) dL_law_544 rfl rfl ?_
      refine J_iconst (v := nI (1)) (pc := 545) dL_law_545 rfl ?_
      refine J_isubN (pc := 546) dL_law_546 (by omega) ?_
      rw [show T + 1 - 1 = T from rfl]
      refine J_iconst (v := nI (0)) (pc := 547) dL_law_547 rfl ?_
      refine J_iconst (v := nI (2)) (pc := 548) dL_law_548 rfl ?_
      refine J_cVi (st := [.int (nI (σ.1.2.2.2 k)), .int (nI (owF σ.1 s k))]) (As := [.int (nI (T)), .int (nI (0)), .int (nI (2))]) (pc := 549) dL_law_549 okX2_node q2_23 q2_24 q2_25 (rfl : vwCl[2]? = some _) r1 rfl (Nat.le_of_ble_eq_true rfl) (Nat.le_of_ble_eq_true rfl) (i_node2 (d := d + 4) I (by omega) (nN_pos 5 _)) ?_
      rw [hs]
      refine J_icmp_neN (tgt := 559) (pc := 552) dL_law_552 (by decide) (by omega) (by omega) (fun c552 => ?_) (fun c552 => ?_)
      · skip
        refine J_iconst (v := nI (0)) (pc := 559) dL_law_559 rfl ?_
        refine J_iaddN (pc := 560) dL_law_560 ?_
        refine J_istore (i := 15) (lv' := [(15, .int (nI (owF σ.1 s k))), (16, .int (nI (k))), (0, .ref (0)), (1, .ref (1)), (2, .int (nI (T + 1))), (3, .int (nI (n)))]) (pc := 561) dL_law_561 (by decide) rfl ?_
        refine J_iinc (i := 16) (v := nI (k + 1)) (lv' := [(16, .int (nI (k + 1))), (15, .int (nI (owF σ.1 s k))), (0, .ref (0)), (1, .ref (1)), (2, .int (nI (T + 1))), (3, .int (nI (n)))]) (pc := 563) dL_law_563 rfl (nI_add (k) 1) (by decide) rfl ?_
        refine J_goto (tgt := 514) (pc := 566) dL_law_566 (by decide) ?_
        refine J_sub (lv' := [(15, .int (nI (owF σ.1 s k))), (16, .int (nI (k + 1))), (0, .ref (0)), (1, .ref (1)), (2, .int (nI (T + 1))), (3, .int (nI (n)))]) [1, 0, 2, 3, 4, 5] rfl ?_
        have e9 : owF σ.1 s (k + 1) = owF σ.1 s k := by
          rw [owF_s (by omega)]
          simp [hb, *]
        rw [← e9]
        exact ih (k + 1) (by omega) kk
      · skip
        refine J_iconst (v := nI (1)) (pc := 555) dL_law_555 rfl ?_
        refine J_goto (tgt := 560) (pc := 556) dL_law_556 (by decide) ?_
        refine J_iaddN (pc := 560) dL_law_560 ?_
        refine J_istore (i := 15) (lv' := [(15, .int (nI ((owF σ.1 s k) + 1))), (16, .int (nI (k))), (0, .ref (0)), (1, .ref (1)), (2, .int (nI (T + 1))), (3, .int (nI (n)))]) (pc := 561) dL_law_561 (by decide) rfl ?_
        refine J_iinc (i := 16) (v := nI (k + 1)) (lv' := [(16, .int (nI (k + 1))), (15, .int (nI ((owF σ.1 s k) + 1))), (0, .ref (0)), (1, .ref (1)), (2, .int (nI (T + 1))), (3, .int (nI (n)))]) (pc := 563) dL_law_563 rfl (nI_add (k) 1) (by decide) rfl ?_
        refine J_goto (tgt := 514) (pc := 566) dL_law_566 (by decide) ?_
        refine J_sub (lv' := [(15, .int (nI ((owF σ.1 s k) + 1))), (16, .int (nI (k + 1))), (0, .ref (0)), (1, .ref (1)), (2, .int (nI (T + 1))), (3, .int (nI (n)))]) [1, 0, 2, 3, 4, 5] rfl ?_
        have e9 : owF σ.1 s (k + 1) = (owF σ.1 s k) + 1 := by
          rw [owF_s (by omega)]
          simp [hb, *]
        rw [← e9]
        exact ih (k + 1) (by omega) kk

set_option maxHeartbeats 2000000 in
set_option maxRecDepth 20000 in
theorem l_P {g : GT} {d n T : Nat} {h : MH} {σ : ST} {x : Int32} (hL : g_L g ≤ 260) (hn : n < 16) (hT : T < 5) (I : LI h σ T) (kk : ∀ (h' : MH) (σ' : ST) (T' : Nat), LI h' σ' T' → J g (d + 7) 0 0 mL_law 623 [(0, .ref (0)), (1, .ref (1)), (2, .int (nI (T'))), (3, .int (nI (n)))] [] h' QL) : J g (d + 7) 0 0 mL_law 477 [(4, .int (x)), (0, .ref (0)), (1, .ref (1)), (2, .int (nI (T))), (3, .int (nI (n)))] [] h QL := by
  obtain ⟨fs1, r1⟩ := LI_1 I
  obtain ⟨hW, ok, hn20, hT5, hn3⟩ := LI_b I
  obtain ⟨o1, o2, o3, o4⟩ := id ok
  have hgc := gro_cnt hW
  have hcc := cnt_le σ.1.2.1
  refine J_aload_n (i := 1) (pc := 477) dL_law_477 rfl rfl ?_
  refine J_iconst (v := nI (0)) (pc := 478) dL_law_478 rfl ?_
  refine J_cVi (st := []) (As := [.int (nI (0))]) (pc := 479) dL_law_479 okX2_count q2_109 q2_110 q2_111 (rfl : vwCl[2]? = some _) r1 rfl (Nat.le_of_ble_eq_true rfl) (Nat.le_of_ble_eq_true rfl) (i_count0 (d := d + 2) I ) ?_
  refine J_aload_n (i := 1) (pc := 482) dL_law_482 rfl rfl ?_
  refine J_iconst (v := nI (1)) (pc := 483) dL_law_483 rfl ?_
  refine J_cVi (st := [.int (nI (σ.1.1))]) (As := [.int (nI (1))]) (pc := 484) dL_law_484 okX2_count q2_109 q2_110 q2_111 (rfl : vwCl[2]? = some _) r1 rfl (Nat.le_of_ble_eq_true rfl) (Nat.le_of_ble_eq_true rfl) (i_count1 (d := d + 2) I ) ?_
  refine J_icmp_neN (tgt := 493) (pc := 487) dL_law_487 (by decide) (by omega) (by omega) (fun c487 => ?_) (fun c487 => ?_)
  · skip
    have hg0 : gro σ.1 ≠ 0 := by
      intro q
      rw [q, cnt_z] at hgc
      omega
    refine J_aload_n (i := 1) (pc := 493) dL_law_493 rfl rfl ?_
    refine J_iconst (v := nI (1)) (pc := 494) dL_law_494 rfl ?_
    refine J_iconst (v := (-1)) (pc := 495) dL_law_495 rfl ?_
    refine J_cVh (st := []) (As := [.int (nI (1)), .int (-1)]) (pc := 496) dL_law_496 okX2_plant q1_137 q1_138 q1_139 (rfl : vwCl[2]? = some _) r1 rfl (Nat.le_of_ble_eq_true rfl) (Nat.le_of_ble_eq_true rfl) (i_plant (d := d + 0) I (by omega) hg0) (fun h_1 q_2 => ?_)
    obtain ⟨σ_19, I_19, ea, le, m, em, et⟩ := q_2
    obtain ⟨fs_19, r_19⟩ := LI_1 I_19
    obtain ⟨sT1, sT2, sT3, sT4⟩ := LI_tr I_19 (Nat.lt_succ_self T)
    obtain ⟨rw1, rw2⟩ := row_gr σ.1 le 0 5 m (gro σ.1)
    have hs1 : (rowT 5 0 (σ_19.2.2.1 T) 0).2.1 = mostS σ.1 (gro σ.1) := by rw [et]; exact rw1
    have hs2 : (rowT 5 0 (σ_19.2.2.1 T) 0).2.2.1 = cnt (gro σ.1) := by rw [et]; exact rw2
    have hms := mostS_le σ.1 (gro σ.1)
    have hown : owF σ_19.1 (mostS σ.1 (gro σ.1)) σ_19.1.1 ≤ rgT σ_19.1 5 (σ_19.2.2.1 T) (gro σ_19.1) := by
      rw [ea, owF_all hW, et]
      exact rg_gr σ.1 le _ hms 5 m (gro σ.1)
    have hrl := rg_le σ_19.1 5 (σ_19.2.2.1 T) (gro σ_19.1)
    have hcl := cnt_le (gro σ_19.1)
    have hdp : dpT 5 (σ_19.2.2.1 T) ≤ σ_19.2.1.2.1 := by
      rw [et, em]
      exact dp_gr σ.1 le 5 m (gro σ.1)
    have hdl := dp_le 5 (σ_19.2.2.1 T)
    have hg1 : cnt (gro σ_19.1) + cnt σ_19.1.2.1 = σ_19.1.1 := by rw [ea]; exact gro_cnt hW
    have hg2 : σ_19.1.1 = σ.1.1 := by rw [ea]
    have hg3 : cnt (gro σ_19.1) = cnt (gro σ.1) := by rw [ea]
    obtain ⟨hW_, ok_, _, _, _⟩ := LI_b I_19
    have okd := ok_.2.1
    refine J_iload_n (i := 2) (pc := 499) dL_law_499 rfl rfl ?_
    refine J_icmp_eqN (tgt := 505) (pc := 500) dL_law_500 (by decide) (by omega) (by omega) (fun c500 => ?_) (fun c500 => by exfalso; first | omega | simp_all)
    refine J_iinc (i := 2) (v := nI (T + 1)) (lv' := [(2, .int (nI (T + 1))), (4, .int (x)), (0, .ref (0)), (1, .ref (1)), (3, .int (nI (n)))]) (pc := 505) dL_law_505 rfl (nI_add (T) 1) (by decide) rfl ?_
    refine J_iconst (v := nI (0)) (pc := 508) dL_law_508 rfl ?_
    refine J_istore (i := 15) (lv' := [(15, .int (nI (0))), (2, .int (nI (T + 1))), (4, .int (x)), (0, .ref (0)), (1, .ref (1)), (3, .int (nI (n)))]) (pc := 509) dL_law_509 (by decide) rfl ?_
    refine J_iconst (v := nI (0)) (pc := 511) dL_law_511 rfl ?_
    refine J_istore (i := 16) (lv' := [(16, .int (nI (0))), (15, .int (nI (0))), (2, .int (nI (T + 1))), (4, .int (x)), (0, .ref (0)), (1, .ref (1)), (3, .int (nI (n)))]) (pc := 512) dL_law_512 (by decide) rfl ?_
    refine J_sub (lv' := [(15, .int (nI (0))), (16, .int (nI (0))), (0, .ref (0)), (1, .ref (1)), (2, .int (nI (T + 1))), (3, .int (nI (n)))]) [1, 0, 4, 5, 2, 6] rfl ?_
    refine J_eq (pc' := 514) (lv' := [(15, .int (nI (owF σ_19.1 (mostS σ.1 (gro σ.1)) 0))), (16, .int (nI (0))), (0, .ref (0)), (1, .ref (1)), (2, .int (nI (T + 1))), (3, .int (nI (n)))]) (st' := []) rfl rfl rfl ?_
    refine l_own hL hn I_19 hs1 hms σ_19.1.1 0 (by omega) ?_
    refine J_aload_n (i := 1) (pc := 569) dL_law_569 rfl rfl ?_
    refine J_iload_n (i := 2) (pc := 570) dL_law_570 rfl rfl ?_
    refine J_iconst (v := nI (1)) (pc := 571) dL_law_571 rfl ?_
    refine J_isubN (pc := 572) dL_law_572 (by omega) ?_
    rw [show T + 1 - 1 = T from rfl]
    refine J_iconst (v := nI (3)) (pc := 573) dL_law_573 rfl ?_
    refine J_cVh (st := []) (As := [.int (nI (T)), .int (nI (3))]) (pc := 574) dL_law_574 okX2_about q2_64 q2_65 q2_66 (rfl : vwCl[2]? = some _) r_19 rfl (Nat.le_of_ble_eq_true rfl) (Nat.le_of_ble_eq_true rfl) (i_about3 (d := d + 3) I_19 (by omega)) (fun h_601 q_602 => ?_)
    have I_20 := q_602
    obtain ⟨fs_20, r_20⟩ := LI_1 I_20
    refine J_iload (i := 15) (pc := 577) dL_law_577 rfl ?_
    refine J_icmp_ltN (tgt := 621) (pc := 579) dL_law_579 (by decide) (by omega) (by omega) (fun c579 => by exfalso; first | omega | simp_all) (fun c579 => ?_)
    refine J_aload_n (i := 1) (pc := 582) dL_law_582 rfl rfl ?_
    refine J_iload_n (i := 2) (pc := 583) dL_law_583 rfl rfl ?_
    refine J_iconst (v := nI (1)) (pc := 584) dL_law_584 rfl ?_
    refine J_isubN (pc := 585) dL_law_585 (by omega) ?_
    rw [show T + 1 - 1 = T from rfl]
    refine J_iconst (v := nI (0)) (pc := 586) dL_law_586 rfl ?_
    refine J_iconst (v := nI (3)) (pc := 587) dL_law_587 rfl ?_
    refine J_cVi (st := []) (As := [.int (nI (T)), .int (nI (0)), .int (nI (3))]) (pc := 588) dL_law_588 okX2_node q2_23 q2_24 q2_25 (rfl : vwCl[2]? = some _) r_20 rfl (Nat.le_of_ble_eq_true rfl) (Nat.le_of_ble_eq_true rfl) (i_node3 (d := d + 4) I_20 (by omega) (nN_pos 5 _)) ?_
    rw [hs2]
    refine J_aload_n (i := 1) (pc := 591) dL_law_591 rfl rfl ?_
    refine J_iconst (v := nI (0)) (pc := 592) dL_law_592 rfl ?_
    refine J_cVi (st := [.int (nI (cnt (gro σ.1)))]) (As := [.int (nI (0))]) (pc := 593) dL_law_593 okX2_count q2_109 q2_110 q2_111 (rfl : vwCl[2]? = some _) r_20 rfl (Nat.le_of_ble_eq_true rfl) (Nat.le_of_ble_eq_true rfl) (i_count0 (d := d + 2) I_20 ) ?_
    refine J_aload_n (i := 1) (pc := 596) dL_law_596 rfl rfl ?_
    refine J_iconst (v := nI (1)) (pc := 597) dL_law_597 rfl ?_
    refine J_cVi (st := [.int (nI (σ_19.1.1)), .int (nI (cnt (gro σ.1)))]) (As := [.int (nI (1))]) (pc := 598) dL_law_598 okX2_count q2_109 q2_110 q2_111 (rfl : vwCl[2]? = some _) r_20 rfl (Nat.le_of_ble_eq_true rfl) (Nat.le_of_ble_eq_true rfl) (i_count1 (d := d + 2) I_20 ) ?_
    refine J_isubN (pc := 601) dL_law_601 (by omega) ?_
    refine J_icmp_neN (tgt := 621) (pc := 602) dL_law_602 (by decide) (by omega) (by omega) (fun c602 => by exfalso; first | omega | simp_all) (fun c602 => ?_)
    refine J_aload_n (i := 1) (pc := 605) dL_law_605 rfl rfl ?_
    refine J_iload_n (i := 2) (pc := 606) dL_law_606 rfl rfl ?_
    refine J_iconst (v := nI (1)) (pc := 607) dL_law_607 rfl ?_
    refine J_isubN (pc := 608) dL_law_608 (by omega) ?_
    rw [show T + 1 - 1 = T from rfl]
    refine J_iconst (v := nI (2)) (pc := 609) dL_law_609 rfl ?_
    refine J_cVh (st := []) (As := [.int (nI (T)), .int (nI (2))]) (pc := 610) dL_law_610 okX2_about q2_64 q2_65 q2_66 (rfl : vwCl[2]? = some _) r_20 rfl (Nat.le_of_ble_eq_true rfl) (Nat.le_of_ble_eq_true rfl) (i_about2 (d := d + 3) I_20 (by omega)) (fun h_603 q_604 => ?_)
    have I_21 := q_604
    obtain ⟨fs_21, r_21⟩ := LI_1 I_21
    refine J_aload_n (i := 1) (pc := 613) dL_law_613 rfl rfl ?_
    refine J_iconst (v := nI (5)) (pc := 614) dL_law_614 rfl ?_
    refine J_cVi (st := [.int (nI (dpT 5 (σ_19.2.2.1 T)))]) (As := [.int (nI (5))]) (pc := 615) dL_law_615 okX2_count q2_109 q2_110 q2_111 (rfl : vwCl[2]? = some _) r_21 rfl (Nat.le_of_ble_eq_true rfl) (Nat.le_of_ble_eq_true rfl) (i_count5 (d := d + 2) I_21 ) ?_
    refine J_icmp_leN (tgt := 623) (pc := 618) dL_law_618 (by decide) (by omega) (by omega) (fun c618 => ?_) (fun c618 => by exfalso; first | omega | simp_all)
    refine J_sub (lv' := [(0, .ref (0)), (1, .ref (1)), (2, .int (nI (T + 1))), (3, .int (nI (n)))]) [2, 3, 4, 5] rfl ?_
    exact kk h_603 _ _ I_21
  · skip
    refine J_goto (tgt := 623) (pc := 490) dL_law_490 (by decide) ?_
    refine J_sub (lv' := [(0, .ref (0)), (1, .ref (1)), (2, .int (nI (T))), (3, .int (nI (n)))]) [1, 2, 3, 4] rfl ?_
    exact kk h _ _ I

set_option maxHeartbeats 2000000 in
set_option maxRecDepth 20000 in
theorem l_B2 {g : GT} {d n T : Nat} {h : MH} {σ : ST} {x : Int32} (hL : g_L g ≤ 260) (hn : n < 16) (I : LI h σ T) (kk : ∀ (h' : MH) (σ' : ST) (T' : Nat), LI h' σ' T' → J g (d + 7) 0 0 mL_law 623 [(0, .ref (0)), (1, .ref (1)), (2, .int (nI (T'))), (3, .int (nI (n)))] [] h' QL) : J g (d + 7) 0 0 mL_law 453 [(4, .int (x)), (0, .ref (0)), (1, .ref (1)), (2, .int (nI (T))), (3, .int (nI (n)))] [] h QL := by
  obtain ⟨fs1, r1⟩ := LI_1 I
  obtain ⟨hW, ok, hn20, hT5, hn3⟩ := LI_b I
  obtain ⟨o1, o2, o3, o4⟩ := id ok
  refine J_iload_n (i := 2) (pc := 453) dL_law_453 rfl rfl ?_
  refine J_iconst (v := nI (5)) (pc := 454) dL_law_454 rfl ?_
  refine J_icmp_neN (tgt := 477) (pc := 455) dL_law_455 (by decide) (by omega) (by omega) (fun c455 => ?_) (fun c455 => ?_)
  · skip
    refine J_sub (lv' := [(4, .int (x)), (0, .ref (0)), (1, .ref (1)), (2, .int (nI (T))), (3, .int (nI (n)))]) [0, 1, 2, 3, 4] rfl ?_
    exact l_P hL hn (by omega) I kk
  · skip
    refine J_aload_n (i := 1) (pc := 458) dL_law_458 rfl rfl ?_
    refine J_iload (i := 4) (pc := 459) dL_law_459 rfl ?_
    refine J_iconst (v := nI (5)) (pc := 461) dL_law_461 rfl ?_
    refine J_cSi (st := [.ref (1)]) (As := [.int (x), .int (nI (5))]) (pc := 462) dL_law_462 okL_below q2_176 q2_177 rfl (Nat.le_of_ble_eq_true rfl) (Nat.le_of_ble_eq_true rfl) (l_below (by omega) (by omega)) ?_
    obtain ⟨j, ej, hj⟩ : ∃ z : Nat, z = bel ((x)) (5) ∧ z < 5 := ⟨_, rfl, bel_lt _ (by omega)⟩
    rw [← ej]
    refine J_cVh (st := []) (As := [.int (nI (j))]) (pc := 465) dL_law_465 okX2_fell q1_229 q1_230 q1_231 (rfl : vwCl[2]? = some _) r1 rfl (Nat.le_of_ble_eq_true rfl) (Nat.le_of_ble_eq_true rfl) (i_fell (d := d + 5) I (by omega)) (fun h_1 q_2 => ?_)
    obtain ⟨σ_22, I_22⟩ := q_2
    obtain ⟨fs_22, r_22⟩ := LI_1 I_22
    refine J_iconst (v := nI (4)) (pc := 468) dL_law_468 rfl ?_
    refine J_icmp_eqN (tgt := 474) (pc := 469) dL_law_469 (by decide) (by omega) (by omega) (fun c469 => ?_) (fun c469 => by exfalso; first | omega | simp_all)
    refine J_iinc (i := 2) (v := nI (T - 1)) (lv' := [(2, .int (nI (T - 1))), (4, .int (x)), (0, .ref (0)), (1, .ref (1)), (3, .int (nI (n)))]) (pc := 474) dL_law_474 rfl (m1_sub (by omega)) (by decide) rfl ?_
    refine J_sub (lv' := [(4, .int (x)), (0, .ref (0)), (1, .ref (1)), (2, .int (nI (T - 1))), (3, .int (nI (n)))]) [1, 2, 3, 0, 4] rfl ?_
    exact l_P hL hn (by omega) I_22 kk

set_option maxHeartbeats 2000000 in
set_option maxRecDepth 20000 in
theorem l_B {g : GT} {d n T : Nat} {h : MH} {σ : ST} {x : Int32} (hL : g_L g ≤ 260) (hn : n < 16) (I : LI h σ T) (kk : ∀ (h' : MH) (σ' : ST) (T' : Nat), LI h' σ' T' → J g (d + 7) 0 0 mL_law 623 [(0, .ref (0)), (1, .ref (1)), (2, .int (nI (T'))), (3, .int (nI (n)))] [] h' QL) : J g (d + 7) 0 0 mL_law 279 [(4, .int (x)), (0, .ref (0)), (1, .ref (1)), (2, .int (nI (T))), (3, .int (nI (n)))] [] h QL := by
  obtain ⟨fs1, r1⟩ := LI_1 I
  obtain ⟨hW, ok, hn20, hT5, hn3⟩ := LI_b I
  obtain ⟨o1, o2, o3, o4⟩ := id ok
  refine J_iload (i := 4) (pc := 279) dL_law_279 rfl ?_
  refine J_bipush (v := nI (7)) (pc := 281) dL_law_281 rfl ?_
  refine J_ishr (pc := 283) dL_law_283 ?_
  refine J_iconst (v := nI (4)) (pc := 284) dL_law_284 rfl ?_
  refine J_cSi (st := []) (As := [.int ((x) >>> (nI (7) &&& 31)), .int (nI (4))]) (pc := 285) dL_law_285 okL_below q2_176 q2_177 rfl (Nat.le_of_ble_eq_true rfl) (Nat.le_of_ble_eq_true rfl) (l_below (by omega) (by omega)) ?_
  obtain ⟨m, em, hm⟩ : ∃ z : Nat, z = bel (((x) >>> (nI (7) &&& 31))) (4) ∧ z < 4 := ⟨_, rfl, bel_lt _ (by omega)⟩
  rw [← em]
  rcases (show m = 0 ∨ m = 1 ∨ m = 2 ∨ m = 3 by omega) with q | q | q | q
  · rw [q]
    refine J_lookup (off := 28) (tgt := 316) (pc := 288) dL_law_288 (by decide) (by decide +kernel) (by decide) ?_
    exact l_B0 hL hn I kk
  · rw [q]
    refine J_lookup (off := 128) (tgt := 416) (pc := 288) dL_law_288 (by decide) (by decide +kernel) (by decide) ?_
    exact l_B1 hL hn I kk
  · rw [q]
    refine J_lookup (off := 165) (tgt := 453) (pc := 288) dL_law_288 (by decide) (by decide +kernel) (by decide) ?_
    exact l_B2 hL hn I kk
  · rw [q]
    refine J_lookup (off := 165) (tgt := 453) (pc := 288) dL_law_288 (by decide) (by decide +kernel) (by decide) ?_
    exact l_B2 hL hn I kk

