-- the reference: advice, the mean, the digest
def adC (n c : Nat) : Nat → Nat → Nat
  | 0, _ => 0
  | k + 1, m => 1 + (3 * (n * m) + n) + c + adC n c k (m + 1)
def adT (n c : Nat) : Nat → Nat → Nat
  | 0, _ => 0
  | k + 1, m => 320 + (11 * (n * m) + 5 * n) + 3 * c + adT n c k (m + 1)

set_option maxHeartbeats 2000000 in
set_option maxRecDepth 20000 in
theorem mad_loop {g : GT} {dd : Nat} {σ : ST} {ρ : Nat → Nat} {th : Int32} {Q : RT → MH → Prop} (hg0 : gro σ.1 ≠ 0) : ∀ (k m : Nat) (h : MH) (x : Option (Nat × Nat)), m + k = 6 ∧ 1 ≤ m ∧ (∀ z, x = some z → z.2 ≤ 1000) → MP h σ ρ th → (∀ h', Ext h h' → Q (.inl (some (.int (enc ((adF (adV σ) k m x).map (fun z => z.1)))))) h') →
    J g (dd + 12) (adC (cnt (gro σ.1)) (cnt σ.1.2.1) k m) (adT (cnt (gro σ.1)) (cnt σ.1.2.1) k m) mX3_advise 11 [(3, .int (nI (m))), (2, .int (enc (x.map (fun z => z.2)))), (1, .int (enc (x.map (fun z => z.1)))), (0, .ref (53))] [] h Q := by
  intro k
  induction k with
  | zero =>
    intro m h x hm hP hq
    obtain ⟨a1, a2, a3, a4, ⟨mf, a5, a5b⟩, ⟨sf, a6, a6b⟩, ⟨rf, a7, a7b⟩, ⟨pf, a8, a8b⟩, ⟨lf, a9, a9b⟩, a10, a11⟩ := id hP
    obtain ⟨o1, o2, o3, o4⟩ := id a2
    have hM := MP_MS hP
    obtain ⟨hn, hc9, hm5, hs2⟩ := id a1
    have hp9 := pw_le hn
    refine J_iload_n (i := 3) (pc := 11) dX3_advise_11 rfl rfl ?_
    refine J_iconst (v := nI (5)) (pc := 12) dX3_advise_12 rfl ?_
    refine J_icmp_gtN (tgt := 67) (pc := 13) dX3_advise_13 (by decide) (by omega) (by omega) (fun c13 => ?_) (fun c13 => by exfalso; first | omega | simp_all)
    refine J_iload_n (i := 1) (pc := 67) dX3_advise_67 rfl rfl ?_
    refine J_iret (ty := .int) (pc := 68) dX3_advise_68 rfl rfl ?_
    exact hq h Ext_rfl
  | succ k ih =>
    intro m h x hm hP hq
    obtain ⟨a1, a2, a3, a4, ⟨mf, a5, a5b⟩, ⟨sf, a6, a6b⟩, ⟨rf, a7, a7b⟩, ⟨pf, a8, a8b⟩, ⟨lf, a9, a9b⟩, a10, a11⟩ := id hP
    obtain ⟨o1, o2, o3, o4⟩ := id a2
    have hM := MP_MS hP
    obtain ⟨hn, hc9, hm5, hs2⟩ := id a1
    have hp9 := pw_le hn
    have hg20 := gro_lt a1
    have hc1 : 1 ≤ cnt (gro σ.1) := cnt_pos hg20 hg0
    have hav := adV_le σ m hc1 o3.1
    have hcx := cnt_le (gro σ.1)
    obtain ⟨hm1, hm2, hx1⟩ := hm
    show J g (dd + 12) (1 + (3 * (cnt (gro σ.1) * m) + cnt (gro σ.1)) + cnt σ.1.2.1 + adC (cnt (gro σ.1)) (cnt σ.1.2.1) k (m + 1)) (320 + (11 * (cnt (gro σ.1) * m) + 5 * cnt (gro σ.1)) + 3 * cnt σ.1.2.1 + adT (cnt (gro σ.1)) (cnt σ.1.2.1) k (m + 1)) mX3_advise 11 _ [] h Q
    cases x with
    | none =>
      refine J_iload_n (i := 3) (pc := 11) dX3_advise_11 rfl rfl ?_
      refine J_iconst (v := nI (5)) (pc := 12) dX3_advise_12 rfl ?_
      refine J_icmp_gtN (tgt := 67) (pc := 13) dX3_advise_13 (by decide) (by omega) (by omega) (fun c13 => by exfalso; first | omega | simp_all) (fun c13 => ?_)
      refine J_aload_n (i := 0) (pc := 16) dX3_advise_16 rfl rfl ?_
      refine J_cVi (st := []) (As := []) (pc := 17) dX3_advise_17 okX3_growing q3_199 q3_201 qs1_14 (rfl : vwCl[3]? = some _) a4 rfl (Nat.le_of_ble_eq_true rfl) (Nat.le_of_ble_eq_true rfl) (m_growing hM) ?_
      refine J_if_eqN (tgt := 67) (pc := 20) dX3_advise_20 (by decide) (by omega) (fun c20 => absurd c20 (fun q => hg0 q)) (fun c20 => ?_)
      refine J_aload_n (i := 0) (pc := 23) dX3_advise_23 rfl rfl ?_
      refine J_aload_n (i := 0) (pc := 24) dX3_advise_24 rfl rfl ?_
      refine J_aload_n (i := 0) (pc := 25) dX3_advise_25 rfl rfl ?_
      refine J_cVi (st := [.ref (53), .ref (53)]) (As := []) (pc := 26) dX3_advise_26 okX3_growing q3_199 q3_201 qs1_14 (rfl : vwCl[3]? = some _) a4 rfl (Nat.le_of_ble_eq_true rfl) (Nat.le_of_ble_eq_true rfl) (m_growing hM) ?_
      refine J_iload_n (i := 3) (pc := 29) dX3_advise_29 rfl rfl ?_
      refine J_aload_n (i := 0) (pc := 30) dX3_advise_30 rfl rfl ?_
      refine J_getf (k := 6) (pc := 31) dX3_advise_31 flX3_20 a4 rfl ?_
      refine J_cVB (st := [.ref (53)]) (As := [.int (nI (gro σ.1)), .int (nI (m)), .int (nI (σ.2.1.2.2))]) (v := some (.ref (h.1))) (ca1 := 1 + (3 * (cnt (gro σ.1) * m) + cnt (gro σ.1))) (sa1 := 320 + (11 * (cnt (gro σ.1) * m) + 5 * cnt (gro σ.1))) (ca2 := cnt σ.1.2.1 + adC (cnt (gro σ.1)) (cnt σ.1.2.1) k (m + 1)) (sa2 := 3 * cnt σ.1.2.1 + adT (cnt (gro σ.1)) (cnt σ.1.2.1) k (m + 1)) (pc := 34) dX3_advise_34 okX3_grown q3_203 q3_205 qs1_15 (rfl : vwCl[3]? = some _) a4 rfl (Nat.le_of_ble_eq_true rfl) (Nat.le_of_ble_eq_true rfl) (m_grown (dd := dd) hM (by omega) (by omega) (by omega) (gro_n a1) hc1 (by omega)) (by omega) (by omega) (fun h_1 q_2 => ?_)
      obtain ⟨B, eB⟩ : ∃ z : Nat, z = h.1 := ⟨_, rfl⟩
      rw [← eB]
      obtain ⟨xB, zB, fB, kB, rwB⟩ := q_2
      rw [← eB] at kB zB
      have zh_1 := xB.1
      have H_3 : h_1.2 (53) = some (oB 3 [.int (th), .int (nI (σ.1.1)), .ref (54), .ref (55), .int (nI (σ.1.2.1)), .int (nI (σ.2.1.2.1)), .int (nI (σ.2.1.2.2)), .int (nI (σ.2.1.1)), .ref (56), .ref (57), .ref (58)]) := (xB.2 _ (by omega)).trans a4
      have H_4 : Ext h h_1 := Ext_tr Ext_rfl xB
      have H_5 : MS h_1 σ.1 := MS_ext xB (by omega) hM
      have H_6 : MP h_1 σ ρ th := MP_ext xB hP
      refine J_iconst (v := nI (1)) (pc := 37) dX3_advise_37 rfl ?_
      refine J_aload_n (i := 0) (pc := 38) dX3_advise_38 rfl rfl ?_
      refine J_getf (k := 4) (pc := 39) dX3_advise_39 flX3_47 H_3 rfl ?_
      refine J_cVB (st := []) (As := [.ref (B), .int (nI (1)), .int (nI (σ.1.2.1))]) (v := some (.int (nI (adV σ m)))) (ca1 := cnt σ.1.2.1) (sa1 := 3 * cnt σ.1.2.1) (ca2 := adC (cnt (gro σ.1)) (cnt σ.1.2.1) k (m + 1)) (sa2 := adT (cnt (gro σ.1)) (cnt σ.1.2.1) k (m + 1)) (pc := 42) dX3_advise_42 okX3_right q4_23 q4_25 qs2_11 (rfl : vwCl[3]? = some _) H_3 rfl (Nat.le_of_ble_eq_true rfl) (Nat.le_of_ble_eq_true rfl) (m_right (dd := dd + 9) H_5 (by omega) kB (by omega) (by omega) rwB (ok_gr _ _ _ _ _) (by decide) (by decide)) (by omega) (by omega) (fun h_7 q_8 => ?_)
      have zh_7 := q_8.1
      have H_9 : h_7.2 (53) = some (oB 3 [.int (th), .int (nI (σ.1.1)), .ref (54), .ref (55), .int (nI (σ.1.2.1)), .int (nI (σ.2.1.2.1)), .int (nI (σ.2.1.2.2)), .int (nI (σ.2.1.1)), .ref (56), .ref (57), .ref (58)]) := (q_8.2 _ (by omega)).trans H_3
      have H_10 : Ext h h_7 := Ext_tr H_4 q_8
      have H_11 : MS h_7 σ.1 := MS_ext q_8 (by omega) H_5
      have H_12 : MP h_7 σ ρ th := MP_ext q_8 H_6
      have H_13 : h_7.2 (B) = some (aI (320) (fB)) := (q_8.2 _ (by omega)).trans kB
      refine J_istore (i := 4) (lv' := [(4, .int (nI (adV σ m))), (3, .int (nI (m))), (2, .int (-1)), (1, .int (-1)), (0, .ref (53))]) (pc := 45) dX3_advise_45 (by decide) rfl ?_
      refine J_iload (i := 4) (pc := 47) dX3_advise_47 rfl ?_
      refine J_iload_n (i := 2) (pc := 49) dX3_advise_49 rfl rfl ?_
      refine J_icmp_gt (tgt := 56) (pc := 50) dX3_advise_50 (by decide) (fun c50 => ?_) (fun c50 => absurd c50 (fun q => q (by show (-1 : Int32) < nI _; rw [Int32.lt_iff_toInt_lt, nI_toInt (by omega), m32]; omega)))
      refine J_iload_n (i := 3) (pc := 56) dX3_advise_56 rfl rfl ?_
      refine J_istore_n (i := 1) (lv' := [(1, .int (nI (m))), (4, .int (nI (adV σ m))), (3, .int (nI (m))), (2, .int (-1)), (0, .ref (53))]) (pc := 57) dX3_advise_57 rfl (by decide) rfl ?_
      refine J_iload (i := 4) (pc := 58) dX3_advise_58 rfl ?_
      refine J_istore_n (i := 2) (lv' := [(2, .int (nI (adV σ m))), (1, .int (nI (m))), (4, .int (nI (adV σ m))), (3, .int (nI (m))), (0, .ref (53))]) (pc := 60) dX3_advise_60 rfl (by decide) rfl ?_
      refine J_iinc (i := 3) (v := nI (m + 1)) (lv' := [(3, .int (nI (m + 1))), (2, .int (nI (adV σ m))), (1, .int (nI (m))), (4, .int (nI (adV σ m))), (0, .ref (53))]) (pc := 61) dX3_advise_61 rfl (nI_add (m) 1) (by decide) rfl ?_
      refine J_goto (tgt := 11) (pc := 64) dX3_advise_64 (by decide) ?_
      refine J_sub (lv' := [(3, .int (nI (m + 1))), (2, .int (nI (adV σ m))), (1, .int (nI (m))), (0, .ref (53))]) [0, 1, 2, 4] rfl ?_
      rw [adF] at hq
      exact ih (m + 1) h_7 (some (m, adV σ m)) ⟨by omega, by omega, fun z e => by cases e; omega⟩ H_12 (fun h' x9 => hq h' (Ext_tr H_10 x9))
    | some ab =>
      obtain ⟨a, b⟩ := ab
      have hb9 : b ≤ 1000 := hx1 _ rfl
      refine J_iload_n (i := 3) (pc := 11) dX3_advise_11 rfl rfl ?_
      refine J_iconst (v := nI (5)) (pc := 12) dX3_advise_12 rfl ?_
      refine J_icmp_gtN (tgt := 67) (pc := 13) dX3_advise_13 (by decide) (by omega) (by omega) (fun c13 => by exfalso; first | omega | simp_all) (fun c13 => ?_)
      refine J_aload_n (i := 0) (pc := 16) dX3_advise_16 rfl rfl ?_
      refine J_cVi (st := []) (As := []) (pc := 17) dX3_advise_17 okX3_growing q3_199 q3_201 qs1_14 (rfl : vwCl[3]? = some _) a4 rfl (Nat.le_of_ble_eq_true rfl) (Nat.le_of_ble_eq_true rfl) (m_growing hM) ?_
      refine J_if_eqN (tgt := 67) (pc := 20) dX3_advise_20 (by decide) (by omega) (fun c20 => absurd c20 (fun q => hg0 q)) (fun c20 => ?_)
      refine J_aload_n (i := 0) (pc := 23) dX3_advise_23 rfl rfl ?_
      refine J_aload_n (i := 0) (pc := 24) dX3_advise_24 rfl rfl ?_
      refine J_aload_n (i := 0) (pc := 25) dX3_advise_25 rfl rfl ?_
      refine J_cVi (st := [.ref (53), .ref (53)]) (As := []) (pc := 26) dX3_advise_26 okX3_growing q3_199 q3_201 qs1_14 (rfl : vwCl[3]? = some _) a4 rfl (Nat.le_of_ble_eq_true rfl) (Nat.le_of_ble_eq_true rfl) (m_growing hM) ?_
      refine J_iload_n (i := 3) (pc := 29) dX3_advise_29 rfl rfl ?_
      refine J_aload_n (i := 0) (pc := 30) dX3_advise_30 rfl rfl ?_
      refine J_getf (k := 6) (pc := 31) dX3_advise_31 flX3_20 a4 rfl ?_
      refine J_cVB (st := [.ref (53)]) (As := [.int (nI (gro σ.1)), .int (nI (m)), .int (nI (σ.2.1.2.2))]) (v := some (.ref (h.1))) (ca1 := 1 + (3 * (cnt (gro σ.1) * m) + cnt (gro σ.1))) (sa1 := 320 + (11 * (cnt (gro σ.1) * m) + 5 * cnt (gro σ.1))) (ca2 := cnt σ.1.2.1 + adC (cnt (gro σ.1)) (cnt σ.1.2.1) k (m + 1)) (sa2 := 3 * cnt σ.1.2.1 + adT (cnt (gro σ.1)) (cnt σ.1.2.1) k (m + 1)) (pc := 34) dX3_advise_34 okX3_grown q3_203 q3_205 qs1_15 (rfl : vwCl[3]? = some _) a4 rfl (Nat.le_of_ble_eq_true rfl) (Nat.le_of_ble_eq_true rfl) (m_grown (dd := dd) hM (by omega) (by omega) (by omega) (gro_n a1) hc1 (by omega)) (by omega) (by omega) (fun h_1 q_2 => ?_)
      obtain ⟨B, eB⟩ : ∃ z : Nat, z = h.1 := ⟨_, rfl⟩
      rw [← eB]
      obtain ⟨xB, zB, fB, kB, rwB⟩ := q_2
      rw [← eB] at kB zB
      have zh_1 := xB.1
      have H_3 : h_1.2 (53) = some (oB 3 [.int (th), .int (nI (σ.1.1)), .ref (54), .ref (55), .int (nI (σ.1.2.1)), .int (nI (σ.2.1.2.1)), .int (nI (σ.2.1.2.2)), .int (nI (σ.2.1.1)), .ref (56), .ref (57), .ref (58)]) := (xB.2 _ (by omega)).trans a4
      have H_4 : Ext h h_1 := Ext_tr Ext_rfl xB
      have H_5 : MS h_1 σ.1 := MS_ext xB (by omega) hM
      have H_6 : MP h_1 σ ρ th := MP_ext xB hP
      refine J_iconst (v := nI (1)) (pc := 37) dX3_advise_37 rfl ?_
      refine J_aload_n (i := 0) (pc := 38) dX3_advise_38 rfl rfl ?_
      refine J_getf (k := 4) (pc := 39) dX3_advise_39 flX3_47 H_3 rfl ?_
      refine J_cVB (st := []) (As := [.ref (B), .int (nI (1)), .int (nI (σ.1.2.1))]) (v := some (.int (nI (adV σ m)))) (ca1 := cnt σ.1.2.1) (sa1 := 3 * cnt σ.1.2.1) (ca2 := adC (cnt (gro σ.1)) (cnt σ.1.2.1) k (m + 1)) (sa2 := adT (cnt (gro σ.1)) (cnt σ.1.2.1) k (m + 1)) (pc := 42) dX3_advise_42 okX3_right q4_23 q4_25 qs2_11 (rfl : vwCl[3]? = some _) H_3 rfl (Nat.le_of_ble_eq_true rfl) (Nat.le_of_ble_eq_true rfl) (m_right (dd := dd + 9) H_5 (by omega) kB (by omega) (by omega) rwB (ok_gr _ _ _ _ _) (by decide) (by decide)) (by omega) (by omega) (fun h_7 q_8 => ?_)
      have zh_7 := q_8.1
      have H_9 : h_7.2 (53) = some (oB 3 [.int (th), .int (nI (σ.1.1)), .ref (54), .ref (55), .int (nI (σ.1.2.1)), .int (nI (σ.2.1.2.1)), .int (nI (σ.2.1.2.2)), .int (nI (σ.2.1.1)), .ref (56), .ref (57), .ref (58)]) := (q_8.2 _ (by omega)).trans H_3
      have H_10 : Ext h h_7 := Ext_tr H_4 q_8
      have H_11 : MS h_7 σ.1 := MS_ext q_8 (by omega) H_5
      have H_12 : MP h_7 σ ρ th := MP_ext q_8 H_6
      have H_13 : h_7.2 (B) = some (aI (320) (fB)) := (q_8.2 _ (by omega)).trans kB
      refine J_istore (i := 4) (lv' := [(4, .int (nI (adV σ m))), (3, .int (nI (m))), (2, .int (nI (b))), (1, .int (nI (a))), (0, .ref (53))]) (pc := 45) dX3_advise_45 (by decide) rfl ?_
      refine J_iload (i := 4) (pc := 47) dX3_advise_47 rfl ?_
      refine J_iload_n (i := 2) (pc := 49) dX3_advise_49 rfl rfl ?_
      refine J_icmp_gtN (tgt := 56) (pc := 50) dX3_advise_50 (by decide) (by omega) (by omega) (fun c50 => ?_) (fun c50 => ?_)
      · skip
        refine J_iload_n (i := 3) (pc := 56) dX3_advise_56 rfl rfl ?_
        refine J_istore_n (i := 1) (lv' := [(1, .int (nI (m))), (4, .int (nI (adV σ m))), (3, .int (nI (m))), (2, .int (nI (b))), (0, .ref (53))]) (pc := 57) dX3_advise_57 rfl (by decide) rfl ?_
        refine J_iload (i := 4) (pc := 58) dX3_advise_58 rfl ?_
        refine J_istore_n (i := 2) (lv' := [(2, .int (nI (adV σ m))), (1, .int (nI (m))), (4, .int (nI (adV σ m))), (3, .int (nI (m))), (0, .ref (53))]) (pc := 60) dX3_advise_60 rfl (by decide) rfl ?_
        refine J_iinc (i := 3) (v := nI (m + 1)) (lv' := [(3, .int (nI (m + 1))), (2, .int (nI (adV σ m))), (1, .int (nI (m))), (4, .int (nI (adV σ m))), (0, .ref (53))]) (pc := 61) dX3_advise_61 rfl (nI_add (m) 1) (by decide) rfl ?_
        refine J_goto (tgt := 11) (pc := 64) dX3_advise_64 (by decide) ?_
        refine J_sub (lv' := [(3, .int (nI (m + 1))), (2, .int (nI (adV σ m))), (1, .int (nI (m))), (0, .ref (53))]) [0, 1, 2, 4] rfl ?_
        rw [adF, if_pos c50] at hq
        exact ih (m + 1) h_7 (some (m, adV σ m)) ⟨by omega, by omega, fun z e => by cases e; omega⟩ H_12 (fun h' x9 => hq h' (Ext_tr H_10 x9))
      · skip
        refine J_goto (tgt := 61) (pc := 53) dX3_advise_53 (by decide) ?_
        refine J_iinc (i := 3) (v := nI (m + 1)) (lv' := [(3, .int (nI (m + 1))), (4, .int (nI (adV σ m))), (2, .int (nI (b))), (1, .int (nI (a))), (0, .ref (53))]) (pc := 61) dX3_advise_61 rfl (nI_add (m) 1) (by decide) rfl ?_
        refine J_goto (tgt := 11) (pc := 64) dX3_advise_64 (by decide) ?_
        refine J_sub (lv' := [(3, .int (nI (m + 1))), (2, .int (nI (b))), (1, .int (nI (a))), (0, .ref (53))]) [0, 2, 3, 4] rfl ?_
        rw [adF, if_neg (Nat.not_lt.mpr c50)] at hq
        exact ih (m + 1) h_7 (some (a, b)) ⟨by omega, by omega, fun z e => by cases e; omega⟩ H_12 (fun h' x9 => hq h' (Ext_tr H_10 x9))

set_option maxHeartbeats 2000000 in
set_option maxRecDepth 20000 in
theorem m_adviseA {g : GT} {dd : Nat} {h : MH} {σ : ST} {ρ : Nat → Nat} {th : Int32} (hP : MP h σ ρ th) (hg0 : gro σ.1 ≠ 0) : J g (dd + 12) (adC (cnt (gro σ.1)) (cnt σ.1.2.1) 5 1) (adT (cnt (gro σ.1)) (cnt σ.1.2.1) 5 1) mX3_advise 0 (lv_args 0 [.ref (53)]) [] h (RMo (.int (enc (adS σ))) h σ (nI 0)) := by
  have a40 := hP.2.2.2.1
  have hz0 := hP.2.2.1
  refine J_aload_n (i := 0) (pc := 0) dX3_advise_0 rfl rfl ?_
  refine J_iconst (v := nI (0)) (pc := 1) dX3_advise_1 rfl ?_
  refine J_putf (k := 0) (pc := 2) dX3_advise_2 fpX3_advise_34 (fun g => ⟨rfl, rfl⟩) a40 (Nat.le_of_ble_eq_true rfl) ?_
  obtain ⟨h_1, eh_1⟩ : ∃ z : MH, z = (h.1, hset h.2 (53) (oB 3 [.int (nI (0)), .int (nI (σ.1.1)), .ref (54), .ref (55), .int (nI (σ.1.2.1)), .int (nI (σ.2.1.2.1)), .int (nI (σ.2.1.2.2)), .int (nI (σ.2.1.1)), .ref (56), .ref (57), .ref (58)])) := ⟨_, rfl⟩
  refine J_heq (h2 := h_1) eh_1 ?_
  have zh_1 : h_1.1 = h.1 := by rw [eh_1]
  have H_2 : h_1.2 (53) = some (oB 3 [.int (nI (0)), .int (nI (σ.1.1)), .ref (54), .ref (55), .int (nI (σ.1.2.1)), .int (nI (σ.2.1.2.1)), .int (nI (σ.2.1.2.2)), .int (nI (σ.2.1.1)), .ref (56), .ref (57), .ref (58)]) := hs_s eh_1
  have hP1 : MP h_1 σ ρ (nI 0) := MP_53 hP eh_1
  have fm1 : FM h h_1 := FM_set eh_1 (by decide) (by decide)
  obtain ⟨a1, a2, a3, a4, ⟨mf, a5, a5b⟩, ⟨sf, a6, a6b⟩, ⟨rf, a7, a7b⟩, ⟨pf, a8, a8b⟩, ⟨lf, a9, a9b⟩, a10, a11⟩ := id hP1
  obtain ⟨o1, o2, o3, o4⟩ := id a2
  have hM := MP_MS hP1
  obtain ⟨hn, hc9, hm5, hs2⟩ := id a1
  have hp9 := pw_le hn
  refine J_iconst (v := (-1)) (pc := 5) dX3_advise_5 rfl ?_
  refine J_istore_n (i := 1) (lv' := [(1, .int (-1)), (0, .ref (53))]) (pc := 6) dX3_advise_6 rfl (by decide) rfl ?_
  refine J_iconst (v := (-1)) (pc := 7) dX3_advise_7 rfl ?_
  refine J_istore_n (i := 2) (lv' := [(2, .int (-1)), (1, .int (-1)), (0, .ref (53))]) (pc := 8) dX3_advise_8 rfl (by decide) rfl ?_
  refine J_iconst (v := nI (1)) (pc := 9) dX3_advise_9 rfl ?_
  refine J_istore_n (i := 3) (lv' := [(3, .int (nI (1))), (2, .int (-1)), (1, .int (-1)), (0, .ref (53))]) (pc := 10) dX3_advise_10 rfl (by decide) rfl ?_
  refine J_sub (lv' := [(3, .int (nI (1))), (2, .int (-1)), (1, .int (-1)), (0, .ref (53))]) [0, 1, 2, 3] rfl ?_
  refine mad_loop hg0 5 1 h_1 none ⟨rfl, Nat.le_refl 1, fun z e => by cases e⟩ hP1 ?_
  intro h' x9
  exact ⟨congrArg (fun z : Int32 => (Sum.inl (some (Value.int z)) : RT)) (by rw [adS, if_neg hg0]), FM_tr fm1 (FM_ext (by omega) x9), ρ, MP_ext x9 hP1⟩

set_option maxHeartbeats 2000000 in
set_option maxRecDepth 20000 in
theorem m_adviseZ {g : GT} {dd : Nat} {h : MH} {σ : ST} {ρ : Nat → Nat} {th : Int32} (hP : MP h σ ρ th) (hg0 : gro σ.1 = 0) : J g (dd + 12) 0 0 mX3_advise 0 (lv_args 0 [.ref (53)]) [] h (RMo (.int (enc (adS σ))) h σ (nI 0)) := by
  have a40 := hP.2.2.2.1
  have hz0 := hP.2.2.1
  refine J_aload_n (i := 0) (pc := 0) dX3_advise_0 rfl rfl ?_
  refine J_iconst (v := nI (0)) (pc := 1) dX3_advise_1 rfl ?_
  refine J_putf (k := 0) (pc := 2) dX3_advise_2 fpX3_advise_34 (fun g => ⟨rfl, rfl⟩) a40 (Nat.le_of_ble_eq_true rfl) ?_
  obtain ⟨h_1, eh_1⟩ : ∃ z : MH, z = (h.1, hset h.2 (53) (oB 3 [.int (nI (0)), .int (nI (σ.1.1)), .ref (54), .ref (55), .int (nI (σ.1.2.1)), .int (nI (σ.2.1.2.1)), .int (nI (σ.2.1.2.2)), .int (nI (σ.2.1.1)), .ref (56), .ref (57), .ref (58)])) := ⟨_, rfl⟩
  refine J_heq (h2 := h_1) eh_1 ?_
  have zh_1 : h_1.1 = h.1 := by rw [eh_1]
  have H_2 : h_1.2 (53) = some (oB 3 [.int (nI (0)), .int (nI (σ.1.1)), .ref (54), .ref (55), .int (nI (σ.1.2.1)), .int (nI (σ.2.1.2.1)), .int (nI (σ.2.1.2.2)), .int (nI (σ.2.1.1)), .ref (56), .ref (57), .ref (58)]) := hs_s eh_1
  have hP1 : MP h_1 σ ρ (nI 0) := MP_53 hP eh_1
  have fm1 : FM h h_1 := FM_set eh_1 (by decide) (by decide)
  obtain ⟨a1, a2, a3, a4, ⟨mf, a5, a5b⟩, ⟨sf, a6, a6b⟩, ⟨rf, a7, a7b⟩, ⟨pf, a8, a8b⟩, ⟨lf, a9, a9b⟩, a10, a11⟩ := id hP1
  obtain ⟨o1, o2, o3, o4⟩ := id a2
  have hM := MP_MS hP1
  obtain ⟨hn, hc9, hm5, hs2⟩ := id a1
  have hp9 := pw_le hn
  have hg20 := gro_lt a1
  refine J_iconst (v := (-1)) (pc := 5) dX3_advise_5 rfl ?_
  refine J_istore_n (i := 1) (lv' := [(1, .int (-1)), (0, .ref (53))]) (pc := 6) dX3_advise_6 rfl (by decide) rfl ?_
  refine J_iconst (v := (-1)) (pc := 7) dX3_advise_7 rfl ?_
  refine J_istore_n (i := 2) (lv' := [(2, .int (-1)), (1, .int (-1)), (0, .ref (53))]) (pc := 8) dX3_advise_8 rfl (by decide) rfl ?_
  refine J_iconst (v := nI (1)) (pc := 9) dX3_advise_9 rfl ?_
  refine J_istore_n (i := 3) (lv' := [(3, .int (nI (1))), (2, .int (-1)), (1, .int (-1)), (0, .ref (53))]) (pc := 10) dX3_advise_10 rfl (by decide) rfl ?_
  refine J_iload_n (i := 3) (pc := 11) dX3_advise_11 rfl rfl ?_
  refine J_iconst (v := nI (5)) (pc := 12) dX3_advise_12 rfl ?_
  refine J_icmp_gtN (tgt := 67) (pc := 13) dX3_advise_13 (by decide) (by omega) (by omega) (fun c13 => by exfalso; first | omega | simp_all) (fun c13 => ?_)
  refine J_aload_n (i := 0) (pc := 16) dX3_advise_16 rfl rfl ?_
  refine J_cVi (st := []) (As := []) (pc := 17) dX3_advise_17 okX3_growing q3_199 q3_201 qs1_14 (rfl : vwCl[3]? = some _) a4 rfl (Nat.le_of_ble_eq_true rfl) (Nat.le_of_ble_eq_true rfl) (m_growing hM) ?_
  refine J_if_eqN (tgt := 67) (pc := 20) dX3_advise_20 (by decide) (by omega) (fun c20 => ?_) (fun c20 => absurd c20 (fun q => q hg0))
  refine J_iload_n (i := 1) (pc := 67) dX3_advise_67 rfl rfl ?_
  refine J_iret (ty := .int) (pc := 68) dX3_advise_68 rfl rfl ?_
  exact ⟨congrArg (fun z : Int32 => (Sum.inl (some (Value.int z)) : RT)) (by rw [adS, if_pos hg0]; rfl), FM_tr fm1 (FM_ext (by omega) Ext_rfl), ρ, hP1⟩

theorem m_advise {g : GT} {dd : Nat} {h : MH} {σ : ST} {ρ : Nat → Nat} {th : Int32} (hP : MP h σ ρ th) : J g (dd + 12) (adC (cnt (gro σ.1)) (cnt σ.1.2.1) 5 1) (adT (cnt (gro σ.1)) (cnt σ.1.2.1) 5 1) mX3_advise 0 (lv_args 0 [.ref 53]) [] h (RMo (.int (enc (adS σ))) h σ (nI 0)) := by
  by_cases hg0 : gro σ.1 = 0
  · exact J_bud (Nat.zero_le _) (Nat.zero_le _) (m_adviseZ hP hg0)
  · exact m_adviseA hP hg0

set_option maxHeartbeats 2000000 in
set_option maxRecDepth 20000 in
theorem mmn_loop {g : GT} {dd : Nat} {h : MH} {σ : ST} {ρ : Nat → Nat} {th : Int32} (hP : MP h σ ρ th) {Q : RT → MH → Prop} (hq : Q (.inl (some (.double (mnS σ)))) h) : ∀ (k i s : Nat), i + k = σ.2.1.1 → s ≤ 39 * i → s + sumP (fun i => nN 5 (σ.2.2.1 i)) k i = sumP (fun i => nN 5 (σ.2.2.1 i)) σ.2.1.1 0 → J g (dd + 7) 0 0 mX3_mean 9 [(2, .int (nI (i))), (1, .int (nI (s))), (0, .ref (53))] [] h Q := by
  obtain ⟨a1, a2, a3, a4, ⟨mf, a5, a5b⟩, ⟨sf, a6, a6b⟩, ⟨rf, a7, a7b⟩, ⟨pf, a8, a8b⟩, ⟨lf, a9, a9b⟩, a10, a11⟩ := id hP
  obtain ⟨o1, o2, o3, o4⟩ := id a2
  have hM := MP_MS hP
  obtain ⟨hn, hc9, hm5, hs2⟩ := id a1
  have hp9 := pw_le hn
  intro k
  induction k with
  | zero =>
    intro i s hi hs es
    have es2 : s = sumP (fun i => nN 5 (σ.2.2.1 i)) σ.2.1.1 0 := es
    refine J_iload_n (i := 2) (pc := 9) dX3_mean_9 rfl rfl ?_
    refine J_aload_n (i := 0) (pc := 10) dX3_mean_10 rfl rfl ?_
    refine J_getf (k := 7) (pc := 11) dX3_mean_11 flX3_37 a4 rfl ?_
    refine J_icmp_geN (tgt := 36) (pc := 14) dX3_mean_14 (by decide) (by omega) (by omega) (fun c14 => ?_) (fun c14 => by exfalso; first | omega | simp_all)
    refine J_aload_n (i := 0) (pc := 36) dX3_mean_36 rfl rfl ?_
    refine J_getf (k := 7) (pc := 37) dX3_mean_37 flX3_37 a4 rfl ?_
    refine J_if_neN (tgt := 47) (pc := 40) dX3_mean_40 (by decide) (by omega) (fun c40 => ?_) (fun c40 => ?_)
    · skip
      refine J_iload_n (i := 1) (pc := 47) dX3_mean_47 rfl rfl ?_
      refine J_i2d (pc := 48) dX3_mean_48 ?_
      refine J_aload_n (i := 0) (pc := 49) dX3_mean_49 rfl rfl ?_
      refine J_getf (k := 7) (pc := 50) dX3_mean_50 flX3_37 a4 rfl ?_
      refine J_i2d (pc := 53) dX3_mean_53 ?_
      refine J_ddiv (pc := 54) dX3_mean_54 (dd_ok _ (by omega) _ (by omega) (by omega)) ?_
      refine J_dret (pc := 55) dX3_mean_55 rfl ?_
      rw [es2, show FP.ddiv (FP.i2d (nI (sumP (fun i => nN 5 (σ.2.2.1 i)) σ.2.1.1 0))) (FP.i2d (nI σ.2.1.1)) = mnS σ from (if_neg c40).symm]
      exact hq
    · skip
      refine J_dconst0 (pc := 43) dX3_mean_43 ?_
      refine J_goto (tgt := 55) (pc := 44) dX3_mean_44 (by decide) ?_
      refine J_dret (pc := 55) dX3_mean_55 rfl ?_
      rw [show FP.dconst0 = mnS σ from (if_pos c40).symm]
      exact hq
  | succ k ih =>
    intro i s hi hs es
    have hj : i < σ.2.1.1 := by omega
    obtain ⟨p60, plt, f, pc, prw⟩ := a10 i hj
    obtain ⟨oki, n39⟩ := o4 i hj
    refine J_iload_n (i := 2) (pc := 9) dX3_mean_9 rfl rfl ?_
    refine J_aload_n (i := 0) (pc := 10) dX3_mean_10 rfl rfl ?_
    refine J_getf (k := 7) (pc := 11) dX3_mean_11 flX3_37 a4 rfl ?_
    refine J_icmp_geN (tgt := 36) (pc := 14) dX3_mean_14 (by decide) (by omega) (by omega) (fun c14 => by exfalso; first | omega | simp_all) (fun c14 => ?_)
    refine J_iload_n (i := 1) (pc := 17) dX3_mean_17 rfl rfl ?_
    refine J_aload_n (i := 0) (pc := 18) dX3_mean_18 rfl rfl ?_
    refine J_getf (k := 8) (pc := 19) dX3_mean_19 flX3_24 a4 rfl ?_
    refine J_iload_n (i := 2) (pc := 22) dX3_mean_22 rfl rfl ?_
    refine J_aald (j := i) (b := ρ i) (pc := 23) dX3_mean_23 (by decide) a7 rfl (by omega) (by omega) (a7b i hj) ?_
    refine J_iconst (v := nI (1)) (pc := 24) dX3_mean_24 rfl ?_
    refine J_cSi (st := [.int (nI (s))]) (As := [.ref (ρ i), .int (nI (1))]) (pc := 25) dX3_mean_25 okX3_nodes q4_38 q4_39 rfl (Nat.le_of_ble_eq_true rfl) (Nat.le_of_ble_eq_true rfl) (m_nodes (dd := dd) pc 5 1 _ prw (by decide) (by decide)) ?_
    refine J_iaddN (pc := 28) dX3_mean_28 ?_
    refine J_istore_n (i := 1) (lv' := [(1, .int (nI (s + (nN 5 (σ.2.2.1 i))))), (2, .int (nI (i))), (0, .ref (53))]) (pc := 29) dX3_mean_29 rfl (by decide) rfl ?_
    refine J_iinc (i := 2) (v := nI (i + 1)) (lv' := [(2, .int (nI (i + 1))), (1, .int (nI (s + (nN 5 (σ.2.2.1 i))))), (0, .ref (53))]) (pc := 30) dX3_mean_30 rfl (nI_add (i) 1) (by decide) rfl ?_
    refine J_goto (tgt := 9) (pc := 33) dX3_mean_33 (by decide) ?_
    refine J_sub (lv' := [(2, .int (nI (i + 1))), (1, .int (nI (s + (nN 5 (σ.2.2.1 i))))), (0, .ref (53))]) [0, 1, 2] rfl ?_
    exact ih (i + 1) (s + nN 5 (σ.2.2.1 i)) (by omega) (by omega) (by rw [Nat.add_assoc]; exact es)

set_option maxHeartbeats 2000000 in
set_option maxRecDepth 20000 in
theorem m_mean {g : GT} {dd : Nat} {h : MH} {σ : ST} {ρ : Nat → Nat} {th : Int32} (hP : MP h σ ρ th) : J g (dd + 7) 0 0 mX3_mean 0 (lv_args 0 [.ref (53)]) [] h (RMo (.double (mnS σ)) h σ (nI 0)) := by
  have a40 := hP.2.2.2.1
  have hz0 := hP.2.2.1
  refine J_aload_n (i := 0) (pc := 0) dX3_mean_0 rfl rfl ?_
  refine J_iconst (v := nI (0)) (pc := 1) dX3_mean_1 rfl ?_
  refine J_putf (k := 0) (pc := 2) dX3_mean_2 fpX3_mean_34 (fun g => ⟨rfl, rfl⟩) a40 (Nat.le_of_ble_eq_true rfl) ?_
  obtain ⟨h_1, eh_1⟩ : ∃ z : MH, z = (h.1, hset h.2 (53) (oB 3 [.int (nI (0)), .int (nI (σ.1.1)), .ref (54), .ref (55), .int (nI (σ.1.2.1)), .int (nI (σ.2.1.2.1)), .int (nI (σ.2.1.2.2)), .int (nI (σ.2.1.1)), .ref (56), .ref (57), .ref (58)])) := ⟨_, rfl⟩
  refine J_heq (h2 := h_1) eh_1 ?_
  have zh_1 : h_1.1 = h.1 := by rw [eh_1]
  have H_2 : h_1.2 (53) = some (oB 3 [.int (nI (0)), .int (nI (σ.1.1)), .ref (54), .ref (55), .int (nI (σ.1.2.1)), .int (nI (σ.2.1.2.1)), .int (nI (σ.2.1.2.2)), .int (nI (σ.2.1.1)), .ref (56), .ref (57), .ref (58)]) := hs_s eh_1
  have hP1 : MP h_1 σ ρ (nI 0) := MP_53 hP eh_1
  have fm1 : FM h h_1 := FM_set eh_1 (by decide) (by decide)
  obtain ⟨a1, a2, a3, a4, ⟨mf, a5, a5b⟩, ⟨sf, a6, a6b⟩, ⟨rf, a7, a7b⟩, ⟨pf, a8, a8b⟩, ⟨lf, a9, a9b⟩, a10, a11⟩ := id hP1
  obtain ⟨o1, o2, o3, o4⟩ := id a2
  have hM := MP_MS hP1
  obtain ⟨hn, hc9, hm5, hs2⟩ := id a1
  have hp9 := pw_le hn
  refine J_iconst (v := nI (0)) (pc := 5) dX3_mean_5 rfl ?_
  refine J_istore_n (i := 1) (lv' := [(1, .int (nI (0))), (0, .ref (53))]) (pc := 6) dX3_mean_6 rfl (by decide) rfl ?_
  refine J_iconst (v := nI (0)) (pc := 7) dX3_mean_7 rfl ?_
  refine J_istore_n (i := 2) (lv' := [(2, .int (nI (0))), (1, .int (nI (0))), (0, .ref (53))]) (pc := 8) dX3_mean_8 rfl (by decide) rfl ?_
  refine J_sub (lv' := [(2, .int (nI (0))), (1, .int (nI (0))), (0, .ref (53))]) [0, 1, 2] rfl ?_
  exact mmn_loop hP1 ⟨rfl, fm1, ρ, hP1⟩ σ.2.1.1 0 0 (Nat.zero_add _) (by omega) (Nat.zero_add _)

set_option maxHeartbeats 2000000 in
set_option maxRecDepth 20000 in
theorem mdn_loop {g : GT} {dd : Nat} {h : MH} {σ : ST} {ρ : Nat → Nat} {th : Int32} (hP : MP h σ ρ th) {j R : Nat} (hj : j < σ.2.1.1) {Q : RT → MH → Prop} : ∀ (k p : Nat) (D : Int64), p + k = nN 5 (σ.2.2.1 j) → J g (dd + 13) R (3 * R) mX3_digest 184 [(3, .int (nI (j))), (1, .long (dgN (σ.2.2.1 j) k p D)), (0, .ref (53))] [] h Q → J g (dd + 13) R (3 * R) mX3_digest 126 [(4, .int (nI (p))), (3, .int (nI (j))), (1, .long (D)), (0, .ref (53))] [] h Q := by
  obtain ⟨a1, a2, a3, a4, ⟨mf, a5, a5b⟩, ⟨sf, a6, a6b⟩, ⟨rf, a7, a7b⟩, ⟨pf, a8, a8b⟩, ⟨lf, a9, a9b⟩, a10, a11⟩ := id hP
  obtain ⟨o1, o2, o3, o4⟩ := id a2
  have hM := MP_MS hP
  obtain ⟨hn, hc9, hm5, hs2⟩ := id a1
  have hp9 := pw_le hn
  obtain ⟨p60, plt, f, pc, prw⟩ := a10 j hj
  obtain ⟨okj, n39⟩ := o4 j hj
  intro k
  induction k with
  | zero =>
    intro p D hp hq
    refine J_iload (i := 4) (pc := 126) dX3_digest_126 rfl ?_
    refine J_aload_n (i := 0) (pc := 128) dX3_digest_128 rfl rfl ?_
    refine J_getf (k := 8) (pc := 129) dX3_digest_129 flX3_24 a4 rfl ?_
    refine J_iload_n (i := 3) (pc := 132) dX3_digest_132 rfl rfl ?_
    refine J_aald (j := j) (b := ρ j) (pc := 133) dX3_digest_133 (by decide) a7 rfl (by omega) (by omega) (a7b j hj) ?_
    refine J_iconst (v := nI (1)) (pc := 134) dX3_digest_134 rfl ?_
    refine J_cSi (st := [.int (nI (p))]) (As := [.ref (ρ j), .int (nI (1))]) (pc := 135) dX3_digest_135 okX3_nodes q4_38 q4_39 rfl (Nat.le_of_ble_eq_true rfl) (Nat.le_of_ble_eq_true rfl) (m_nodes (dd := dd + 6) pc 5 1 _ prw (by decide) (by decide)) ?_
    refine J_icmp_geN (tgt := 184) (pc := 138) dX3_digest_138 (by decide) (by omega) (by omega) (fun c138 => ?_) (fun c138 => by exfalso; first | omega | simp_all)
    refine J_sub (lv' := [(3, .int (nI (j))), (1, .long (D)), (0, .ref (53))]) [1, 2, 3] rfl ?_
    exact hq
  | succ k ih =>
    intro p D hp hq
    refine J_iload (i := 4) (pc := 126) dX3_digest_126 rfl ?_
    refine J_aload_n (i := 0) (pc := 128) dX3_digest_128 rfl rfl ?_
    refine J_getf (k := 8) (pc := 129) dX3_digest_129 flX3_24 a4 rfl ?_
    refine J_iload_n (i := 3) (pc := 132) dX3_digest_132 rfl rfl ?_
    refine J_aald (j := j) (b := ρ j) (pc := 133) dX3_digest_133 (by decide) a7 rfl (by omega) (by omega) (a7b j hj) ?_
    refine J_iconst (v := nI (1)) (pc := 134) dX3_digest_134 rfl ?_
    refine J_cSi (st := [.int (nI (p))]) (As := [.ref (ρ j), .int (nI (1))]) (pc := 135) dX3_digest_135 okX3_nodes q4_38 q4_39 rfl (Nat.le_of_ble_eq_true rfl) (Nat.le_of_ble_eq_true rfl) (m_nodes (dd := dd + 6) pc 5 1 _ prw (by decide) (by decide)) ?_
    refine J_icmp_geN (tgt := 184) (pc := 138) dX3_digest_138 (by decide) (by omega) (by omega) (fun c138 => by exfalso; first | omega | simp_all) (fun c138 => ?_)
    refine J_iconst (v := nI (0)) (pc := 141) dX3_digest_141 rfl ?_
    refine J_istore (i := 5) (lv' := [(5, .int (nI (0))), (4, .int (nI (p))), (3, .int (nI (j))), (1, .long (D)), (0, .ref (53))]) (pc := 142) dX3_digest_142 (by decide) rfl ?_
    refine J_iload (i := 5) (pc := 144) dX3_digest_144 rfl ?_
    refine J_bipush (v := nI (7)) (pc := 146) dX3_digest_146 rfl ?_
    refine J_icmp_geN (tgt := 178) (pc := 148) dX3_digest_148 (by decide) (by omega) (by omega) (fun c148 => by exfalso; first | omega | simp_all) (fun c148 => ?_)
    refine J_lload_n (i := 1) (pc := 151) dX3_digest_151 rfl rfl ?_
    refine J_ldc2 (v := 31) (pc := 152) dX3_digest_152 q4_125 ?_
    refine J_lmul (pc := 155) dX3_digest_155 ?_
    refine J_aload_n (i := 0) (pc := 156) dX3_digest_156 rfl rfl ?_
    refine J_getf (k := 8) (pc := 157) dX3_digest_157 flX3_24 a4 rfl ?_
    refine J_iload_n (i := 3) (pc := 160) dX3_digest_160 rfl rfl ?_
    refine J_aald (j := j) (b := ρ j) (pc := 161) dX3_digest_161 (by decide) a7 rfl (by omega) (by omega) (a7b j hj) ?_
    refine J_iload (i := 4) (pc := 162) dX3_digest_162 rfl ?_
    refine J_iload (i := 5) (pc := 164) dX3_digest_164 rfl ?_
    refine J_cSi (st := [.long ((D) * (31))]) (As := [.ref (ρ j), .int (nI (p)), .int (nI (0))]) (pc := 166) dX3_digest_166 okX3_nodeTold q4_41 q4_42 rfl (Nat.le_of_ble_eq_true rfl) (Nat.le_of_ble_eq_true rfl) (m_nodeTold0 (dd := dd) pc prw (by omega)) ?_
    refine J_i2l (pc := 169) dX3_digest_169 ?_
    refine J_ladd (pc := 170) dX3_digest_170 ?_
    refine J_lstore_n (i := 1) (lv' := [(1, .long (((D) * (31)) + (((enc (ndS (σ.2.2.1 j) p 0))).toInt64))), (5, .int (nI (0))), (4, .int (nI (p))), (3, .int (nI (j))), (0, .ref (53))]) (pc := 171) dX3_digest_171 rfl (by decide) rfl ?_
    refine J_iinc (i := 5) (v := nI (1)) (lv' := [(5, .int (nI (1))), (1, .long (((D) * (31)) + (((enc (ndS (σ.2.2.1 j) p 0))).toInt64))), (4, .int (nI (p))), (3, .int (nI (j))), (0, .ref (53))]) (pc := 172) dX3_digest_172 rfl rfl (by decide) rfl ?_
    refine J_goto (tgt := 144) (pc := 175) dX3_digest_175 (by decide) ?_
    refine J_iload (i := 5) (pc := 144) dX3_digest_144 rfl ?_
    refine J_bipush (v := nI (7)) (pc := 146) dX3_digest_146 rfl ?_
    refine J_icmp_geN (tgt := 178) (pc := 148) dX3_digest_148 (by decide) (by omega) (by omega) (fun c148 => by exfalso; first | omega | simp_all) (fun c148 => ?_)
    refine J_lload_n (i := 1) (pc := 151) dX3_digest_151 rfl rfl ?_
    refine J_ldc2 (v := 31) (pc := 152) dX3_digest_152 q4_125 ?_
    refine J_lmul (pc := 155) dX3_digest_155 ?_
    refine J_aload_n (i := 0) (pc := 156) dX3_digest_156 rfl rfl ?_
    refine J_getf (k := 8) (pc := 157) dX3_digest_157 flX3_24 a4 rfl ?_
    refine J_iload_n (i := 3) (pc := 160) dX3_digest_160 rfl rfl ?_
    refine J_aald (j := j) (b := ρ j) (pc := 161) dX3_digest_161 (by decide) a7 rfl (by omega) (by omega) (a7b j hj) ?_
    refine J_iload (i := 4) (pc := 162) dX3_digest_162 rfl ?_
    refine J_iload (i := 5) (pc := 164) dX3_digest_164 rfl ?_
    refine J_cSi (st := [.long ((((D) * (31)) + (((enc (ndS (σ.2.2.1 j) p 0))).toInt64)) * (31))]) (As := [.ref (ρ j), .int (nI (p)), .int (nI (1))]) (pc := 166) dX3_digest_166 okX3_nodeTold q4_41 q4_42 rfl (Nat.le_of_ble_eq_true rfl) (Nat.le_of_ble_eq_true rfl) (m_nodeTold1 (dd := dd) pc prw (by omega)) ?_
    refine J_i2l (pc := 169) dX3_digest_169 ?_
    refine J_ladd (pc := 170) dX3_digest_170 ?_
    refine J_lstore_n (i := 1) (lv' := [(1, .long (((((D) * (31)) + (((enc (ndS (σ.2.2.1 j) p 0))).toInt64)) * (31)) + (((enc (ndS (σ.2.2.1 j) p 1))).toInt64))), (5, .int (nI (1))), (4, .int (nI (p))), (3, .int (nI (j))), (0, .ref (53))]) (pc := 171) dX3_digest_171 rfl (by decide) rfl ?_
    refine J_iinc (i := 5) (v := nI (2)) (lv' := [(5, .int (nI (2))), (1, .long (((((D) * (31)) + (((enc (ndS (σ.2.2.1 j) p 0))).toInt64)) * (31)) + (((enc (ndS (σ.2.2.1 j) p 1))).toInt64))), (4, .int (nI (p))), (3, .int (nI (j))), (0, .ref (53))]) (pc := 172) dX3_digest_172 rfl rfl (by decide) rfl ?_
    refine J_goto (tgt := 144) (pc := 175) dX3_digest_175 (by decide) ?_
    refine J_iload (i := 5) (pc := 144) dX3_digest_144 rfl ?_
    refine J_bipush (v := nI (7)) (pc := 146) dX3_digest_146 rfl ?_
    refine J_icmp_geN (tgt := 178) (pc := 148) dX3_digest_148 (by decide) (by omega) (by omega) (fun c148 => by exfalso; first | omega | simp_all) (fun c148 => ?_)
    refine J_lload_n (i := 1) (pc := 151) dX3_digest_151 rfl rfl ?_
    refine J_ldc2 (v := 31) (pc := 152) dX3_digest_152 q4_125 ?_
    refine J_lmul (pc := 155) dX3_digest_155 ?_
    refine J_aload_n (i := 0) (pc := 156) dX3_digest_156 rfl rfl ?_
    refine J_getf (k := 8) (pc := 157) dX3_digest_157 flX3_24 a4 rfl ?_
    refine J_iload_n (i := 3) (pc := 160) dX3_digest_160 rfl rfl ?_
    refine J_aald (j := j) (b := ρ j) (pc := 161) dX3_digest_161 (by decide) a7 rfl (by omega) (by omega) (a7b j hj) ?_
    refine J_iload (i := 4) (pc := 162) dX3_digest_162 rfl ?_
    refine J_iload (i := 5) (pc := 164) dX3_digest_164 rfl ?_
    refine J_cSi (st := [.long ((((((D) * (31)) + (((enc (ndS (σ.2.2.1 j) p 0))).toInt64)) * (31)) + (((enc (ndS (σ.2.2.1 j) p 1))).toInt64)) * (31))]) (As := [.ref (ρ j), .int (nI (p)), .int (nI (2))]) (pc := 166) dX3_digest_166 okX3_nodeTold q4_41 q4_42 rfl (Nat.le_of_ble_eq_true rfl) (Nat.le_of_ble_eq_true rfl) (m_nodeTold2 (dd := dd) pc prw (by omega)) ?_
    refine J_i2l (pc := 169) dX3_digest_169 ?_
    refine J_ladd (pc := 170) dX3_digest_170 ?_
    refine J_lstore_n (i := 1) (lv' := [(1, .long (((((((D) * (31)) + (((enc (ndS (σ.2.2.1 j) p 0))).toInt64)) * (31)) + (((enc (ndS (σ.2.2.1 j) p 1))).toInt64)) * (31)) + (((enc (ndS (σ.2.2.1 j) p 2))).toInt64))), (5, .int (nI (2))), (4, .int (nI (p))), (3, .int (nI (j))), (0, .ref (53))]) (pc := 171) dX3_digest_171 rfl (by decide) rfl ?_
    refine J_iinc (i := 5) (v := nI (3)) (lv' := [(5, .int (nI (3))), (1, .long (((((((D) * (31)) + (((enc (ndS (σ.2.2.1 j) p 0))).toInt64)) * (31)) + (((enc (ndS (σ.2.2.1 j) p 1))).toInt64)) * (31)) + (((enc (ndS (σ.2.2.1 j) p 2))).toInt64))), (4, .int (nI (p))), (3, .int (nI (j))), (0, .ref (53))]) (pc := 172) dX3_digest_172 rfl rfl (by decide) rfl ?_
    refine J_goto (tgt := 144) (pc := 175) dX3_digest_175 (by decide) ?_
    refine J_iload (i := 5) (pc := 144) dX3_digest_144 rfl ?_
    refine J_bipush (v := nI (7)) (pc := 146) dX3_digest_146 rfl ?_
    refine J_icmp_geN (tgt := 178) (pc := 148) dX3_digest_148 (by decide) (by omega) (by omega) (fun c148 => by exfalso; first | omega | simp_all) (fun c148 => ?_)
    refine J_lload_n (i := 1) (pc := 151) dX3_digest_151 rfl rfl ?_
    refine J_ldc2 (v := 31) (pc := 152) dX3_digest_152 q4_125 ?_
    refine J_lmul (pc := 155) dX3_digest_155 ?_
    refine J_aload_n (i := 0) (pc := 156) dX3_digest_156 rfl rfl ?_
    refine J_getf (k := 8) (pc := 157) dX3_digest_157 flX3_24 a4 rfl ?_
    refine J_iload_n (i := 3) (pc := 160) dX3_digest_160 rfl rfl ?_
    refine J_aald (j := j) (b := ρ j) (pc := 161) dX3_digest_161 (by decide) a7 rfl (by omega) (by omega) (a7b j hj) ?_
    refine J_iload (i := 4) (pc := 162) dX3_digest_162 rfl ?_
    refine J_iload (i := 5) (pc := 164) dX3_digest_164 rfl ?_
    refine J_cSi (st := [.long ((((((((D) * (31)) + (((enc (ndS (σ.2.2.1 j) p 0))).toInt64)) * (31)) + (((enc (ndS (σ.2.2.1 j) p 1))).toInt64)) * (31)) + (((enc (ndS (σ.2.2.1 j) p 2))).toInt64)) * (31))]) (As := [.ref (ρ j), .int (nI (p)), .int (nI (3))]) (pc := 166) dX3_digest_166 okX3_nodeTold q4_41 q4_42 rfl (Nat.le_of_ble_eq_true rfl) (Nat.le_of_ble_eq_true rfl) (m_nodeTold3 (dd := dd) pc prw (by omega)) ?_
    refine J_i2l (pc := 169) dX3_digest_169 ?_
    refine J_ladd (pc := 170) dX3_digest_170 ?_
    refine J_lstore_n (i := 1) (lv' := [(1, .long (((((((((D) * (31)) + (((enc (ndS (σ.2.2.1 j) p 0))).toInt64)) * (31)) + (((enc (ndS (σ.2.2.1 j) p 1))).toInt64)) * (31)) + (((enc (ndS (σ.2.2.1 j) p 2))).toInt64)) * (31)) + (((enc (ndS (σ.2.2.1 j) p 3))).toInt64))), (5, .int (nI (3))), (4, .int (nI (p))), (3, .int (nI (j))), (0, .ref (53))]) (pc := 171) dX3_digest_171 rfl (by decide) rfl ?_
    refine J_iinc (i := 5) (v := nI (4)) (lv' := [(5, .int (nI (4))), (1, .long (((((((((D) * (31)) + (((enc (ndS (σ.2.2.1 j) p 0))).toInt64)) * (31)) + (((enc (ndS (σ.2.2.1 j) p 1))).toInt64)) * (31)) + (((enc (ndS (σ.2.2.1 j) p 2))).toInt64)) * (31)) + (((enc (ndS (σ.2.2.1 j) p 3))).toInt64))), (4, .int (nI (p))), (3, .int (nI (j))), (0, .ref (53))]) (pc := 172) dX3_digest_172 rfl rfl (by decide) rfl ?_
    refine J_goto (tgt := 144) (pc := 175) dX3_digest_175 (by decide) ?_
    refine J_iload (i := 5) (pc := 144) dX3_digest_144 rfl ?_
    refine J_bipush (v := nI (7)) (pc := 146) dX3_digest_146 rfl ?_
    refine J_icmp_geN (tgt := 178) (pc := 148) dX3_digest_148 (by decide) (by omega) (by omega) (fun c148 => by exfalso; first | omega | simp_all) (fun c148 => ?_)
    refine J_lload_n (i := 1) (pc := 151) dX3_digest_151 rfl rfl ?_
    refine J_ldc2 (v := 31) (pc := 152) dX3_digest_152 q4_125 ?_
    refine J_lmul (pc := 155) dX3_digest_155 ?_
    refine J_aload_n (i := 0) (pc := 156) dX3_digest_156 rfl rfl ?_
    refine J_getf (k := 8) (pc := 157) dX3_digest_157 flX3_24 a4 rfl ?_
    refine J_iload_n (i := 3) (pc := 160) dX3_digest_160 rfl rfl ?_
    refine J_aald (j := j) (b := ρ j) (pc := 161) dX3_digest_161 (by decide) a7 rfl (by omega) (by omega) (a7b j hj) ?_
    refine J_iload (i := 4) (pc := 162) dX3_digest_162 rfl ?_
    refine J_iload (i := 5) (pc := 164) dX3_digest_164 rfl ?_
    refine J_cSi (st := [.long ((((((((((D) * (31)) + (((enc (ndS (σ.2.2.1 j) p 0))).toInt64)) * (31)) + (((enc (ndS (σ.2.2.1 j) p 1))).toInt64)) * (31)) + (((enc (ndS (σ.2.2.1 j) p 2))).toInt64)) * (31)) + (((enc (ndS (σ.2.2.1 j) p 3))).toInt64)) * (31))]) (As := [.ref (ρ j), .int (nI (p)), .int (nI (4))]) (pc := 166) dX3_digest_166 okX3_nodeTold q4_41 q4_42 rfl (Nat.le_of_ble_eq_true rfl) (Nat.le_of_ble_eq_true rfl) (m_nodeTold4 (dd := dd) pc prw (by omega)) ?_
    refine J_i2l (pc := 169) dX3_digest_169 ?_
    refine J_ladd (pc := 170) dX3_digest_170 ?_
    refine J_lstore_n (i := 1) (lv' := [(1, .long (((((((((((D) * (31)) + (((enc (ndS (σ.2.2.1 j) p 0))).toInt64)) * (31)) + (((enc (ndS (σ.2.2.1 j) p 1))).toInt64)) * (31)) + (((enc (ndS (σ.2.2.1 j) p 2))).toInt64)) * (31)) + (((enc (ndS (σ.2.2.1 j) p 3))).toInt64)) * (31)) + (((enc (ndS (σ.2.2.1 j) p 4))).toInt64))), (5, .int (nI (4))), (4, .int (nI (p))), (3, .int (nI (j))), (0, .ref (53))]) (pc := 171) dX3_digest_171 rfl (by decide) rfl ?_
    refine J_iinc (i := 5) (v := nI (5)) (lv' := [(5, .int (nI (5))), (1, .long (((((((((((D) * (31)) + (((enc (ndS (σ.2.2.1 j) p 0))).toInt64)) * (31)) + (((enc (ndS (σ.2.2.1 j) p 1))).toInt64)) * (31)) + (((enc (ndS (σ.2.2.1 j) p 2))).toInt64)) * (31)) + (((enc (ndS (σ.2.2.1 j) p 3))).toInt64)) * (31)) + (((enc (ndS (σ.2.2.1 j) p 4))).toInt64))), (4, .int (nI (p))), (3, .int (nI (j))), (0, .ref (53))]) (pc := 172) dX3_digest_172 rfl rfl (by decide) rfl ?_
    refine J_goto (tgt := 144) (pc := 175) dX3_digest_175 (by decide) ?_
    refine J_iload (i := 5) (pc := 144) dX3_digest_144 rfl ?_
    refine J_bipush (v := nI (7)) (pc := 146) dX3_digest_146 rfl ?_
    refine J_icmp_geN (tgt := 178) (pc := 148) dX3_digest_148 (by decide) (by omega) (by omega) (fun c148 => by exfalso; first | omega | simp_all) (fun c148 => ?_)
    refine J_lload_n (i := 1) (pc := 151) dX3_digest_151 rfl rfl ?_
    refine J_ldc2 (v := 31) (pc := 152) dX3_digest_152 q4_125 ?_
    refine J_lmul (pc := 155) dX3_digest_155 ?_
    refine J_aload_n (i := 0) (pc := 156) dX3_digest_156 rfl rfl ?_
    refine J_getf (k := 8) (pc := 157) dX3_digest_157 flX3_24 a4 rfl ?_
    refine J_iload_n (i := 3) (pc := 160) dX3_digest_160 rfl rfl ?_
    refine J_aald (j := j) (b := ρ j) (pc := 161) dX3_digest_161 (by decide) a7 rfl (by omega) (by omega) (a7b j hj) ?_
    refine J_iload (i := 4) (pc := 162) dX3_digest_162 rfl ?_
    refine J_iload (i := 5) (pc := 164) dX3_digest_164 rfl ?_
    refine J_cSi (st := [.long ((((((((((((D) * (31)) + (((enc (ndS (σ.2.2.1 j) p 0))).toInt64)) * (31)) + (((enc (ndS (σ.2.2.1 j) p 1))).toInt64)) * (31)) + (((enc (ndS (σ.2.2.1 j) p 2))).toInt64)) * (31)) + (((enc (ndS (σ.2.2.1 j) p 3))).toInt64)) * (31)) + (((enc (ndS (σ.2.2.1 j) p 4))).toInt64)) * (31))]) (As := [.ref (ρ j), .int (nI (p)), .int (nI (5))]) (pc := 166) dX3_digest_166 okX3_nodeTold q4_41 q4_42 rfl (Nat.le_of_ble_eq_true rfl) (Nat.le_of_ble_eq_true rfl) (m_nodeTold5 (dd := dd) pc prw (by omega)) ?_
    refine J_i2l (pc := 169) dX3_digest_169 ?_
    refine J_ladd (pc := 170) dX3_digest_170 ?_
    refine J_lstore_n (i := 1) (lv' := [(1, .long (((((((((((((D) * (31)) + (((enc (ndS (σ.2.2.1 j) p 0))).toInt64)) * (31)) + (((enc (ndS (σ.2.2.1 j) p 1))).toInt64)) * (31)) + (((enc (ndS (σ.2.2.1 j) p 2))).toInt64)) * (31)) + (((enc (ndS (σ.2.2.1 j) p 3))).toInt64)) * (31)) + (((enc (ndS (σ.2.2.1 j) p 4))).toInt64)) * (31)) + (((enc (ndS (σ.2.2.1 j) p 5))).toInt64))), (5, .int (nI (5))), (4, .int (nI (p))), (3, .int (nI (j))), (0, .ref (53))]) (pc := 171) dX3_digest_171 rfl (by decide) rfl ?_
    refine J_iinc (i := 5) (v := nI (6)) (lv' := [(5, .int (nI (6))), (1, .long (((((((((((((D) * (31)) + (((enc (ndS (σ.2.2.1 j) p 0))).toInt64)) * (31)) + (((enc (ndS (σ.2.2.1 j) p 1))).toInt64)) * (31)) + (((enc (ndS (σ.2.2.1 j) p 2))).toInt64)) * (31)) + (((enc (ndS (σ.2.2.1 j) p 3))).toInt64)) * (31)) + (((enc (ndS (σ.2.2.1 j) p 4))).toInt64)) * (31)) + (((enc (ndS (σ.2.2.1 j) p 5))).toInt64))), (4, .int (nI (p))), (3, .int (nI (j))), (0, .ref (53))]) (pc := 172) dX3_digest_172 rfl rfl (by decide) rfl ?_
    refine J_goto (tgt := 144) (pc := 175) dX3_digest_175 (by decide) ?_
    refine J_iload (i := 5) (pc := 144) dX3_digest_144 rfl ?_
    refine J_bipush (v := nI (7)) (pc := 146) dX3_digest_146 rfl ?_
    refine J_icmp_geN (tgt := 178) (pc := 148) dX3_digest_148 (by decide) (by omega) (by omega) (fun c148 => by exfalso; first | omega | simp_all) (fun c148 => ?_)
    refine J_lload_n (i := 1) (pc := 151) dX3_digest_151 rfl rfl ?_
    refine J_ldc2 (v := 31) (pc := 152) dX3_digest_152 q4_125 ?_
    refine J_lmul (pc := 155) dX3_digest_155 ?_
    refine J_aload_n (i := 0) (pc := 156) dX3_digest_156 rfl rfl ?_
    refine J_getf (k := 8) (pc := 157) dX3_digest_157 flX3_24 a4 rfl ?_
    refine J_iload_n (i := 3) (pc := 160) dX3_digest_160 rfl rfl ?_
    refine J_aald (j := j) (b := ρ j) (pc := 161) dX3_digest_161 (by decide) a7 rfl (by omega) (by omega) (a7b j hj) ?_
    refine J_iload (i := 4) (pc := 162) dX3_digest_162 rfl ?_
    refine J_iload (i := 5) (pc := 164) dX3_digest_164 rfl ?_
    refine J_cSi (st := [.long ((((((((((((((D) * (31)) + (((enc (ndS (σ.2.2.1 j) p 0))).toInt64)) * (31)) + (((enc (ndS (σ.2.2.1 j) p 1))).toInt64)) * (31)) + (((enc (ndS (σ.2.2.1 j) p 2))).toInt64)) * (31)) + (((enc (ndS (σ.2.2.1 j) p 3))).toInt64)) * (31)) + (((enc (ndS (σ.2.2.1 j) p 4))).toInt64)) * (31)) + (((enc (ndS (σ.2.2.1 j) p 5))).toInt64)) * (31))]) (As := [.ref (ρ j), .int (nI (p)), .int (nI (6))]) (pc := 166) dX3_digest_166 okX3_nodeTold q4_41 q4_42 rfl (Nat.le_of_ble_eq_true rfl) (Nat.le_of_ble_eq_true rfl) (m_nodeTold6 (dd := dd) pc prw (by omega)) ?_
    refine J_i2l (pc := 169) dX3_digest_169 ?_
    refine J_ladd (pc := 170) dX3_digest_170 ?_
    refine J_lstore_n (i := 1) (lv' := [(1, .long (((((((((((((((D) * (31)) + (((enc (ndS (σ.2.2.1 j) p 0))).toInt64)) * (31)) + (((enc (ndS (σ.2.2.1 j) p 1))).toInt64)) * (31)) + (((enc (ndS (σ.2.2.1 j) p 2))).toInt64)) * (31)) + (((enc (ndS (σ.2.2.1 j) p 3))).toInt64)) * (31)) + (((enc (ndS (σ.2.2.1 j) p 4))).toInt64)) * (31)) + (((enc (ndS (σ.2.2.1 j) p 5))).toInt64)) * (31)) + (((enc (ndS (σ.2.2.1 j) p 6))).toInt64))), (5, .int (nI (6))), (4, .int (nI (p))), (3, .int (nI (j))), (0, .ref (53))]) (pc := 171) dX3_digest_171 rfl (by decide) rfl ?_
    refine J_iinc (i := 5) (v := nI (7)) (lv' := [(5, .int (nI (7))), (1, .long (((((((((((((((D) * (31)) + (((enc (ndS (σ.2.2.1 j) p 0))).toInt64)) * (31)) + (((enc (ndS (σ.2.2.1 j) p 1))).toInt64)) * (31)) + (((enc (ndS (σ.2.2.1 j) p 2))).toInt64)) * (31)) + (((enc (ndS (σ.2.2.1 j) p 3))).toInt64)) * (31)) + (((enc (ndS (σ.2.2.1 j) p 4))).toInt64)) * (31)) + (((enc (ndS (σ.2.2.1 j) p 5))).toInt64)) * (31)) + (((enc (ndS (σ.2.2.1 j) p 6))).toInt64))), (4, .int (nI (p))), (3, .int (nI (j))), (0, .ref (53))]) (pc := 172) dX3_digest_172 rfl rfl (by decide) rfl ?_
    refine J_goto (tgt := 144) (pc := 175) dX3_digest_175 (by decide) ?_
    refine J_iload (i := 5) (pc := 144) dX3_digest_144 rfl ?_
    refine J_bipush (v := nI (7)) (pc := 146) dX3_digest_146 rfl ?_
    refine J_icmp_geN (tgt := 178) (pc := 148) dX3_digest_148 (by decide) (by omega) (by omega) (fun c148 => ?_) (fun c148 => by exfalso; first | omega | simp_all)
    refine J_iinc (i := 4) (v := nI (p + 1)) (lv' := [(4, .int (nI (p + 1))), (5, .int (nI (7))), (1, .long (((((((((((((((D) * (31)) + (((enc (ndS (σ.2.2.1 j) p 0))).toInt64)) * (31)) + (((enc (ndS (σ.2.2.1 j) p 1))).toInt64)) * (31)) + (((enc (ndS (σ.2.2.1 j) p 2))).toInt64)) * (31)) + (((enc (ndS (σ.2.2.1 j) p 3))).toInt64)) * (31)) + (((enc (ndS (σ.2.2.1 j) p 4))).toInt64)) * (31)) + (((enc (ndS (σ.2.2.1 j) p 5))).toInt64)) * (31)) + (((enc (ndS (σ.2.2.1 j) p 6))).toInt64))), (3, .int (nI (j))), (0, .ref (53))]) (pc := 178) dX3_digest_178 rfl (nI_add (p) 1) (by decide) rfl ?_
    refine J_goto (tgt := 126) (pc := 181) dX3_digest_181 (by decide) ?_
    refine J_sub (lv' := [(4, .int (nI (p + 1))), (3, .int (nI (j))), (1, .long (((((((((((((((D) * (31)) + (((enc (ndS (σ.2.2.1 j) p 0))).toInt64)) * (31)) + (((enc (ndS (σ.2.2.1 j) p 1))).toInt64)) * (31)) + (((enc (ndS (σ.2.2.1 j) p 2))).toInt64)) * (31)) + (((enc (ndS (σ.2.2.1 j) p 3))).toInt64)) * (31)) + (((enc (ndS (σ.2.2.1 j) p 4))).toInt64)) * (31)) + (((enc (ndS (σ.2.2.1 j) p 5))).toInt64)) * (31)) + (((enc (ndS (σ.2.2.1 j) p 6))).toInt64))), (0, .ref (53))]) [0, 3, 2, 4] rfl ?_
    exact ih (p + 1) _ (by omega) hq

set_option maxHeartbeats 2000000 in
set_option maxRecDepth 20000 in
theorem mdt_loop {g : GT} {dd : Nat} {σ : ST} {ρ : Nat → Nat} {th : Int32} {Q : RT → MH → Prop} : ∀ (k j : Nat) (D : Int64) (h : MH), j + k = σ.2.1.1 → MP h σ ρ th → (∀ h', Ext h h' → Q (.inl (some (.long (dgF σ k j D)))) h') → J g (dd + 13) (k * (cnt (gro σ.1) + cnt σ.1.2.1)) (3 * (k * (cnt (gro σ.1) + cnt σ.1.2.1))) mX3_digest 84 [(3, .int (nI (j))), (1, .long (D)), (0, .ref (53))] [] h Q := by
  intro k
  induction k with
  | zero =>
    intro j D h hj hP hq
    obtain ⟨a1, a2, a3, a4, ⟨mf, a5, a5b⟩, ⟨sf, a6, a6b⟩, ⟨rf, a7, a7b⟩, ⟨pf, a8, a8b⟩, ⟨lf, a9, a9b⟩, a10, a11⟩ := id hP
    obtain ⟨o1, o2, o3, o4⟩ := id a2
    have hM := MP_MS hP
    obtain ⟨hn, hc9, hm5, hs2⟩ := id a1
    have hp9 := pw_le hn
    refine J_iload_n (i := 3) (pc := 84) dX3_digest_84 rfl rfl ?_
    refine J_aload_n (i := 0) (pc := 85) dX3_digest_85 rfl rfl ?_
    refine J_getf (k := 7) (pc := 86) dX3_digest_86 flX3_37 a4 rfl ?_
    refine J_icmp_geN (tgt := 190) (pc := 89) dX3_digest_89 (by decide) (by omega) (by omega) (fun c89 => ?_) (fun c89 => by exfalso; first | omega | simp_all)
    refine J_lload_n (i := 1) (pc := 190) dX3_digest_190 rfl rfl ?_
    refine J_lret (pc := 191) dX3_digest_191 rfl ?_
    exact hq h Ext_rfl
  | succ k ih =>
    intro j D h hk hP hq
    have hj : j < σ.2.1.1 := by omega
    have hmul : (k + 1) * (cnt (gro σ.1) + cnt σ.1.2.1) = k * (cnt (gro σ.1) + cnt σ.1.2.1) + (cnt (gro σ.1) + cnt σ.1.2.1) := Nat.succ_mul _ _
    obtain ⟨a1, a2, a3, a4, ⟨mf, a5, a5b⟩, ⟨sf, a6, a6b⟩, ⟨rf, a7, a7b⟩, ⟨pf, a8, a8b⟩, ⟨lf, a9, a9b⟩, a10, a11⟩ := id hP
    obtain ⟨o1, o2, o3, o4⟩ := id a2
    have hM := MP_MS hP
    obtain ⟨hn, hc9, hm5, hs2⟩ := id a1
    have hp9 := pw_le hn
    refine J_iload_n (i := 3) (pc := 84) dX3_digest_84 rfl rfl ?_
    refine J_aload_n (i := 0) (pc := 85) dX3_digest_85 rfl rfl ?_
    refine J_getf (k := 7) (pc := 86) dX3_digest_86 flX3_37 a4 rfl ?_
    refine J_icmp_geN (tgt := 190) (pc := 89) dX3_digest_89 (by decide) (by omega) (by omega) (fun c89 => by exfalso; first | omega | simp_all) (fun c89 => ?_)
    refine J_iconst (v := nI (0)) (pc := 92) dX3_digest_92 rfl ?_
    refine J_istore (i := 4) (lv' := [(4, .int (nI (0))), (3, .int (nI (j))), (1, .long (D)), (0, .ref (53))]) (pc := 93) dX3_digest_93 (by decide) rfl ?_
    refine J_iload (i := 4) (pc := 95) dX3_digest_95 rfl ?_
    refine J_bipush (v := nI (7)) (pc := 97) dX3_digest_97 rfl ?_
    refine J_icmp_geN (tgt := 123) (pc := 99) dX3_digest_99 (by decide) (by omega) (by omega) (fun c99 => by exfalso; first | omega | simp_all) (fun c99 => ?_)
    refine J_lload_n (i := 1) (pc := 102) dX3_digest_102 rfl rfl ?_
    refine J_ldc2 (v := 31) (pc := 103) dX3_digest_103 q4_125 ?_
    refine J_lmul (pc := 106) dX3_digest_106 ?_
    refine J_aload_n (i := 0) (pc := 107) dX3_digest_107 rfl rfl ?_
    refine J_iload_n (i := 3) (pc := 108) dX3_digest_108 rfl rfl ?_
    refine J_iload (i := 4) (pc := 109) dX3_digest_109 rfl ?_
    refine J_cVB (st := [.long ((D) * (31))]) (As := [.int (nI (j)), .int (nI (0))]) (v := some (.int (abS σ j 0))) (ca1 := 0) (sa1 := 0) (ca2 := cnt (gro σ.1) + cnt σ.1.2.1 + k * (cnt (gro σ.1) + cnt σ.1.2.1)) (sa2 := 3 * (cnt (gro σ.1) + cnt σ.1.2.1 + k * (cnt (gro σ.1) + cnt σ.1.2.1))) (pc := 111) dX3_digest_111 okX3_treeTold q4_54 q4_56 qs2_13 (rfl : vwCl[3]? = some _) a4 rfl (Nat.le_of_ble_eq_true rfl) (Nat.le_of_ble_eq_true rfl) (m_treeTold0 (dd := dd + 5) hP hj) (by omega) (by omega) (fun h_1 q_2 => ?_)
    have zh_1 := q_2.1
    have H_3 : h_1.2 (53) = some (oB 3 [.int (th), .int (nI (σ.1.1)), .ref (54), .ref (55), .int (nI (σ.1.2.1)), .int (nI (σ.2.1.2.1)), .int (nI (σ.2.1.2.2)), .int (nI (σ.2.1.1)), .ref (56), .ref (57), .ref (58)]) := (q_2.2 _ (by omega)).trans a4
    have H_4 : h_1.2 (56) = some (aG (5) (rf)) := (q_2.2 _ (by omega)).trans a7
    have H_5 : Ext h h_1 := Ext_tr Ext_rfl q_2
    have H_6 : MS h_1 σ.1 := MS_ext q_2 (by omega) hM
    have H_7 : MP h_1 σ ρ th := MP_ext q_2 hP
    refine J_i2l (pc := 114) dX3_digest_114 ?_
    refine J_ladd (pc := 115) dX3_digest_115 ?_
    refine J_lstore_n (i := 1) (lv' := [(1, .long (((D) * (31)) + (((abS σ j 0)).toInt64))), (4, .int (nI (0))), (3, .int (nI (j))), (0, .ref (53))]) (pc := 116) dX3_digest_116 rfl (by decide) rfl ?_
    refine J_iinc (i := 4) (v := nI (1)) (lv' := [(4, .int (nI (1))), (1, .long (((D) * (31)) + (((abS σ j 0)).toInt64))), (3, .int (nI (j))), (0, .ref (53))]) (pc := 117) dX3_digest_117 rfl rfl (by decide) rfl ?_
    refine J_goto (tgt := 95) (pc := 120) dX3_digest_120 (by decide) ?_
    refine J_iload (i := 4) (pc := 95) dX3_digest_95 rfl ?_
    refine J_bipush (v := nI (7)) (pc := 97) dX3_digest_97 rfl ?_
    refine J_icmp_geN (tgt := 123) (pc := 99) dX3_digest_99 (by decide) (by omega) (by omega) (fun c99 => by exfalso; first | omega | simp_all) (fun c99 => ?_)
    refine J_lload_n (i := 1) (pc := 102) dX3_digest_102 rfl rfl ?_
    refine J_ldc2 (v := 31) (pc := 103) dX3_digest_103 q4_125 ?_
    refine J_lmul (pc := 106) dX3_digest_106 ?_
    refine J_aload_n (i := 0) (pc := 107) dX3_digest_107 rfl rfl ?_
    refine J_iload_n (i := 3) (pc := 108) dX3_digest_108 rfl rfl ?_
    refine J_iload (i := 4) (pc := 109) dX3_digest_109 rfl ?_
    refine J_cVB (st := [.long ((((D) * (31)) + (((abS σ j 0)).toInt64)) * (31))]) (As := [.int (nI (j)), .int (nI (1))]) (v := some (.int (abS σ j 1))) (ca1 := 0) (sa1 := 0) (ca2 := cnt (gro σ.1) + cnt σ.1.2.1 + k * (cnt (gro σ.1) + cnt σ.1.2.1)) (sa2 := 3 * (cnt (gro σ.1) + cnt σ.1.2.1 + k * (cnt (gro σ.1) + cnt σ.1.2.1))) (pc := 111) dX3_digest_111 okX3_treeTold q4_54 q4_56 qs2_13 (rfl : vwCl[3]? = some _) H_3 rfl (Nat.le_of_ble_eq_true rfl) (Nat.le_of_ble_eq_true rfl) (m_treeTold1 (dd := dd + 5) H_7 hj) (by omega) (by omega) (fun h_8 q_9 => ?_)
    have zh_8 := q_9.1
    have H_10 : h_8.2 (53) = some (oB 3 [.int (th), .int (nI (σ.1.1)), .ref (54), .ref (55), .int (nI (σ.1.2.1)), .int (nI (σ.2.1.2.1)), .int (nI (σ.2.1.2.2)), .int (nI (σ.2.1.1)), .ref (56), .ref (57), .ref (58)]) := (q_9.2 _ (by omega)).trans H_3
    have H_11 : h_8.2 (56) = some (aG (5) (rf)) := (q_9.2 _ (by omega)).trans H_4
    have H_12 : Ext h h_8 := Ext_tr H_5 q_9
    have H_13 : MS h_8 σ.1 := MS_ext q_9 (by omega) H_6
    have H_14 : MP h_8 σ ρ th := MP_ext q_9 H_7
    refine J_i2l (pc := 114) dX3_digest_114 ?_
    refine J_ladd (pc := 115) dX3_digest_115 ?_
    refine J_lstore_n (i := 1) (lv' := [(1, .long (((((D) * (31)) + (((abS σ j 0)).toInt64)) * (31)) + (((abS σ j 1)).toInt64))), (4, .int (nI (1))), (3, .int (nI (j))), (0, .ref (53))]) (pc := 116) dX3_digest_116 rfl (by decide) rfl ?_
    refine J_iinc (i := 4) (v := nI (2)) (lv' := [(4, .int (nI (2))), (1, .long (((((D) * (31)) + (((abS σ j 0)).toInt64)) * (31)) + (((abS σ j 1)).toInt64))), (3, .int (nI (j))), (0, .ref (53))]) (pc := 117) dX3_digest_117 rfl rfl (by decide) rfl ?_
    refine J_goto (tgt := 95) (pc := 120) dX3_digest_120 (by decide) ?_
    refine J_iload (i := 4) (pc := 95) dX3_digest_95 rfl ?_
    refine J_bipush (v := nI (7)) (pc := 97) dX3_digest_97 rfl ?_
    refine J_icmp_geN (tgt := 123) (pc := 99) dX3_digest_99 (by decide) (by omega) (by omega) (fun c99 => by exfalso; first | omega | simp_all) (fun c99 => ?_)
    refine J_lload_n (i := 1) (pc := 102) dX3_digest_102 rfl rfl ?_
    refine J_ldc2 (v := 31) (pc := 103) dX3_digest_103 q4_125 ?_
    refine J_lmul (pc := 106) dX3_digest_106 ?_
    refine J_aload_n (i := 0) (pc := 107) dX3_digest_107 rfl rfl ?_
    refine J_iload_n (i := 3) (pc := 108) dX3_digest_108 rfl rfl ?_
    refine J_iload (i := 4) (pc := 109) dX3_digest_109 rfl ?_
    refine J_cVB (st := [.long ((((((D) * (31)) + (((abS σ j 0)).toInt64)) * (31)) + (((abS σ j 1)).toInt64)) * (31))]) (As := [.int (nI (j)), .int (nI (2))]) (v := some (.int (abS σ j 2))) (ca1 := 0) (sa1 := 0) (ca2 := cnt (gro σ.1) + cnt σ.1.2.1 + k * (cnt (gro σ.1) + cnt σ.1.2.1)) (sa2 := 3 * (cnt (gro σ.1) + cnt σ.1.2.1 + k * (cnt (gro σ.1) + cnt σ.1.2.1))) (pc := 111) dX3_digest_111 okX3_treeTold q4_54 q4_56 qs2_13 (rfl : vwCl[3]? = some _) H_10 rfl (Nat.le_of_ble_eq_true rfl) (Nat.le_of_ble_eq_true rfl) (m_treeTold2 (dd := dd + 5) H_14 hj) (by omega) (by omega) (fun h_15 q_16 => ?_)
    have zh_15 := q_16.1
    have H_17 : h_15.2 (53) = some (oB 3 [.int (th), .int (nI (σ.1.1)), .ref (54), .ref (55), .int (nI (σ.1.2.1)), .int (nI (σ.2.1.2.1)), .int (nI (σ.2.1.2.2)), .int (nI (σ.2.1.1)), .ref (56), .ref (57), .ref (58)]) := (q_16.2 _ (by omega)).trans H_10
    have H_18 : h_15.2 (56) = some (aG (5) (rf)) := (q_16.2 _ (by omega)).trans H_11
    have H_19 : Ext h h_15 := Ext_tr H_12 q_16
    have H_20 : MS h_15 σ.1 := MS_ext q_16 (by omega) H_13
    have H_21 : MP h_15 σ ρ th := MP_ext q_16 H_14
    refine J_i2l (pc := 114) dX3_digest_114 ?_
    refine J_ladd (pc := 115) dX3_digest_115 ?_
    refine J_lstore_n (i := 1) (lv' := [(1, .long (((((((D) * (31)) + (((abS σ j 0)).toInt64)) * (31)) + (((abS σ j 1)).toInt64)) * (31)) + (((abS σ j 2)).toInt64))), (4, .int (nI (2))), (3, .int (nI (j))), (0, .ref (53))]) (pc := 116) dX3_digest_116 rfl (by decide) rfl ?_
    refine J_iinc (i := 4) (v := nI (3)) (lv' := [(4, .int (nI (3))), (1, .long (((((((D) * (31)) + (((abS σ j 0)).toInt64)) * (31)) + (((abS σ j 1)).toInt64)) * (31)) + (((abS σ j 2)).toInt64))), (3, .int (nI (j))), (0, .ref (53))]) (pc := 117) dX3_digest_117 rfl rfl (by decide) rfl ?_
    refine J_goto (tgt := 95) (pc := 120) dX3_digest_120 (by decide) ?_
    refine J_iload (i := 4) (pc := 95) dX3_digest_95 rfl ?_
    refine J_bipush (v := nI (7)) (pc := 97) dX3_digest_97 rfl ?_
    refine J_icmp_geN (tgt := 123) (pc := 99) dX3_digest_99 (by decide) (by omega) (by omega) (fun c99 => by exfalso; first | omega | simp_all) (fun c99 => ?_)
    refine J_lload_n (i := 1) (pc := 102) dX3_digest_102 rfl rfl ?_
    refine J_ldc2 (v := 31) (pc := 103) dX3_digest_103 q4_125 ?_
    refine J_lmul (pc := 106) dX3_digest_106 ?_
    refine J_aload_n (i := 0) (pc := 107) dX3_digest_107 rfl rfl ?_
    refine J_iload_n (i := 3) (pc := 108) dX3_digest_108 rfl rfl ?_
    refine J_iload (i := 4) (pc := 109) dX3_digest_109 rfl ?_
    refine J_cVB (st := [.long ((((((((D) * (31)) + (((abS σ j 0)).toInt64)) * (31)) + (((abS σ j 1)).toInt64)) * (31)) + (((abS σ j 2)).toInt64)) * (31))]) (As := [.int (nI (j)), .int (nI (3))]) (v := some (.int (abS σ j 3))) (ca1 := cnt (gro σ.1)) (sa1 := 3 * cnt (gro σ.1)) (ca2 := cnt σ.1.2.1 + k * (cnt (gro σ.1) + cnt σ.1.2.1)) (sa2 := 3 * (cnt σ.1.2.1 + k * (cnt (gro σ.1) + cnt σ.1.2.1))) (pc := 111) dX3_digest_111 okX3_treeTold q4_54 q4_56 qs2_13 (rfl : vwCl[3]? = some _) H_17 rfl (Nat.le_of_ble_eq_true rfl) (Nat.le_of_ble_eq_true rfl) (m_treeTold3 (dd := dd + 5) H_21 hj) (by omega) (by omega) (fun h_22 q_23 => ?_)
    have zh_22 := q_23.1
    have H_24 : h_22.2 (53) = some (oB 3 [.int (th), .int (nI (σ.1.1)), .ref (54), .ref (55), .int (nI (σ.1.2.1)), .int (nI (σ.2.1.2.1)), .int (nI (σ.2.1.2.2)), .int (nI (σ.2.1.1)), .ref (56), .ref (57), .ref (58)]) := (q_23.2 _ (by omega)).trans H_17
    have H_25 : h_22.2 (56) = some (aG (5) (rf)) := (q_23.2 _ (by omega)).trans H_18
    have H_26 : Ext h h_22 := Ext_tr H_19 q_23
    have H_27 : MS h_22 σ.1 := MS_ext q_23 (by omega) H_20
    have H_28 : MP h_22 σ ρ th := MP_ext q_23 H_21
    refine J_i2l (pc := 114) dX3_digest_114 ?_
    refine J_ladd (pc := 115) dX3_digest_115 ?_
    refine J_lstore_n (i := 1) (lv' := [(1, .long (((((((((D) * (31)) + (((abS σ j 0)).toInt64)) * (31)) + (((abS σ j 1)).toInt64)) * (31)) + (((abS σ j 2)).toInt64)) * (31)) + (((abS σ j 3)).toInt64))), (4, .int (nI (3))), (3, .int (nI (j))), (0, .ref (53))]) (pc := 116) dX3_digest_116 rfl (by decide) rfl ?_
    refine J_iinc (i := 4) (v := nI (4)) (lv' := [(4, .int (nI (4))), (1, .long (((((((((D) * (31)) + (((abS σ j 0)).toInt64)) * (31)) + (((abS σ j 1)).toInt64)) * (31)) + (((abS σ j 2)).toInt64)) * (31)) + (((abS σ j 3)).toInt64))), (3, .int (nI (j))), (0, .ref (53))]) (pc := 117) dX3_digest_117 rfl rfl (by decide) rfl ?_
    refine J_goto (tgt := 95) (pc := 120) dX3_digest_120 (by decide) ?_
    refine J_iload (i := 4) (pc := 95) dX3_digest_95 rfl ?_
    refine J_bipush (v := nI (7)) (pc := 97) dX3_digest_97 rfl ?_
    refine J_icmp_geN (tgt := 123) (pc := 99) dX3_digest_99 (by decide) (by omega) (by omega) (fun c99 => by exfalso; first | omega | simp_all) (fun c99 => ?_)
    refine J_lload_n (i := 1) (pc := 102) dX3_digest_102 rfl rfl ?_
    refine J_ldc2 (v := 31) (pc := 103) dX3_digest_103 q4_125 ?_
    refine J_lmul (pc := 106) dX3_digest_106 ?_
    refine J_aload_n (i := 0) (pc := 107) dX3_digest_107 rfl rfl ?_
    refine J_iload_n (i := 3) (pc := 108) dX3_digest_108 rfl rfl ?_
    refine J_iload (i := 4) (pc := 109) dX3_digest_109 rfl ?_
    refine J_cVB (st := [.long ((((((((((D) * (31)) + (((abS σ j 0)).toInt64)) * (31)) + (((abS σ j 1)).toInt64)) * (31)) + (((abS σ j 2)).toInt64)) * (31)) + (((abS σ j 3)).toInt64)) * (31))]) (As := [.int (nI (j)), .int (nI (4))]) (v := some (.int (abS σ j 4))) (ca1 := cnt σ.1.2.1) (sa1 := 3 * cnt σ.1.2.1) (ca2 := k * (cnt (gro σ.1) + cnt σ.1.2.1)) (sa2 := 3 * (k * (cnt (gro σ.1) + cnt σ.1.2.1))) (pc := 111) dX3_digest_111 okX3_treeTold q4_54 q4_56 qs2_13 (rfl : vwCl[3]? = some _) H_24 rfl (Nat.le_of_ble_eq_true rfl) (Nat.le_of_ble_eq_true rfl) (m_treeTold4 (dd := dd + 5) H_28 hj) (by omega) (by omega) (fun h_29 q_30 => ?_)
    have zh_29 := q_30.1
    have H_31 : h_29.2 (53) = some (oB 3 [.int (th), .int (nI (σ.1.1)), .ref (54), .ref (55), .int (nI (σ.1.2.1)), .int (nI (σ.2.1.2.1)), .int (nI (σ.2.1.2.2)), .int (nI (σ.2.1.1)), .ref (56), .ref (57), .ref (58)]) := (q_30.2 _ (by omega)).trans H_24
    have H_32 : h_29.2 (56) = some (aG (5) (rf)) := (q_30.2 _ (by omega)).trans H_25
    have H_33 : Ext h h_29 := Ext_tr H_26 q_30
    have H_34 : MS h_29 σ.1 := MS_ext q_30 (by omega) H_27
    have H_35 : MP h_29 σ ρ th := MP_ext q_30 H_28
    refine J_i2l (pc := 114) dX3_digest_114 ?_
    refine J_ladd (pc := 115) dX3_digest_115 ?_
    refine J_lstore_n (i := 1) (lv' := [(1, .long (((((((((((D) * (31)) + (((abS σ j 0)).toInt64)) * (31)) + (((abS σ j 1)).toInt64)) * (31)) + (((abS σ j 2)).toInt64)) * (31)) + (((abS σ j 3)).toInt64)) * (31)) + (((abS σ j 4)).toInt64))), (4, .int (nI (4))), (3, .int (nI (j))), (0, .ref (53))]) (pc := 116) dX3_digest_116 rfl (by decide) rfl ?_
    refine J_iinc (i := 4) (v := nI (5)) (lv' := [(4, .int (nI (5))), (1, .long (((((((((((D) * (31)) + (((abS σ j 0)).toInt64)) * (31)) + (((abS σ j 1)).toInt64)) * (31)) + (((abS σ j 2)).toInt64)) * (31)) + (((abS σ j 3)).toInt64)) * (31)) + (((abS σ j 4)).toInt64))), (3, .int (nI (j))), (0, .ref (53))]) (pc := 117) dX3_digest_117 rfl rfl (by decide) rfl ?_
    refine J_goto (tgt := 95) (pc := 120) dX3_digest_120 (by decide) ?_
    refine J_iload (i := 4) (pc := 95) dX3_digest_95 rfl ?_
    refine J_bipush (v := nI (7)) (pc := 97) dX3_digest_97 rfl ?_
    refine J_icmp_geN (tgt := 123) (pc := 99) dX3_digest_99 (by decide) (by omega) (by omega) (fun c99 => by exfalso; first | omega | simp_all) (fun c99 => ?_)
    refine J_lload_n (i := 1) (pc := 102) dX3_digest_102 rfl rfl ?_
    refine J_ldc2 (v := 31) (pc := 103) dX3_digest_103 q4_125 ?_
    refine J_lmul (pc := 106) dX3_digest_106 ?_
    refine J_aload_n (i := 0) (pc := 107) dX3_digest_107 rfl rfl ?_
    refine J_iload_n (i := 3) (pc := 108) dX3_digest_108 rfl rfl ?_
    refine J_iload (i := 4) (pc := 109) dX3_digest_109 rfl ?_
    refine J_cVB (st := [.long ((((((((((((D) * (31)) + (((abS σ j 0)).toInt64)) * (31)) + (((abS σ j 1)).toInt64)) * (31)) + (((abS σ j 2)).toInt64)) * (31)) + (((abS σ j 3)).toInt64)) * (31)) + (((abS σ j 4)).toInt64)) * (31))]) (As := [.int (nI (j)), .int (nI (5))]) (v := some (.int (abS σ j 5))) (ca1 := 0) (sa1 := 0) (ca2 := k * (cnt (gro σ.1) + cnt σ.1.2.1)) (sa2 := 3 * (k * (cnt (gro σ.1) + cnt σ.1.2.1))) (pc := 111) dX3_digest_111 okX3_treeTold q4_54 q4_56 qs2_13 (rfl : vwCl[3]? = some _) H_31 rfl (Nat.le_of_ble_eq_true rfl) (Nat.le_of_ble_eq_true rfl) (m_treeTold5 (dd := dd + 5) H_35 hj) (by omega) (by omega) (fun h_36 q_37 => ?_)
    have zh_36 := q_37.1
    have H_38 : h_36.2 (53) = some (oB 3 [.int (th), .int (nI (σ.1.1)), .ref (54), .ref (55), .int (nI (σ.1.2.1)), .int (nI (σ.2.1.2.1)), .int (nI (σ.2.1.2.2)), .int (nI (σ.2.1.1)), .ref (56), .ref (57), .ref (58)]) := (q_37.2 _ (by omega)).trans H_31
    have H_39 : h_36.2 (56) = some (aG (5) (rf)) := (q_37.2 _ (by omega)).trans H_32
    have H_40 : Ext h h_36 := Ext_tr H_33 q_37
    have H_41 : MS h_36 σ.1 := MS_ext q_37 (by omega) H_34
    have H_42 : MP h_36 σ ρ th := MP_ext q_37 H_35
    refine J_i2l (pc := 114) dX3_digest_114 ?_
    refine J_ladd (pc := 115) dX3_digest_115 ?_
    refine J_lstore_n (i := 1) (lv' := [(1, .long (((((((((((((D) * (31)) + (((abS σ j 0)).toInt64)) * (31)) + (((abS σ j 1)).toInt64)) * (31)) + (((abS σ j 2)).toInt64)) * (31)) + (((abS σ j 3)).toInt64)) * (31)) + (((abS σ j 4)).toInt64)) * (31)) + (((abS σ j 5)).toInt64))), (4, .int (nI (5))), (3, .int (nI (j))), (0, .ref (53))]) (pc := 116) dX3_digest_116 rfl (by decide) rfl ?_
    refine J_iinc (i := 4) (v := nI (6)) (lv' := [(4, .int (nI (6))), (1, .long (((((((((((((D) * (31)) + (((abS σ j 0)).toInt64)) * (31)) + (((abS σ j 1)).toInt64)) * (31)) + (((abS σ j 2)).toInt64)) * (31)) + (((abS σ j 3)).toInt64)) * (31)) + (((abS σ j 4)).toInt64)) * (31)) + (((abS σ j 5)).toInt64))), (3, .int (nI (j))), (0, .ref (53))]) (pc := 117) dX3_digest_117 rfl rfl (by decide) rfl ?_
    refine J_goto (tgt := 95) (pc := 120) dX3_digest_120 (by decide) ?_
    refine J_iload (i := 4) (pc := 95) dX3_digest_95 rfl ?_
    refine J_bipush (v := nI (7)) (pc := 97) dX3_digest_97 rfl ?_
    refine J_icmp_geN (tgt := 123) (pc := 99) dX3_digest_99 (by decide) (by omega) (by omega) (fun c99 => by exfalso; first | omega | simp_all) (fun c99 => ?_)
    refine J_lload_n (i := 1) (pc := 102) dX3_digest_102 rfl rfl ?_
    refine J_ldc2 (v := 31) (pc := 103) dX3_digest_103 q4_125 ?_
    refine J_lmul (pc := 106) dX3_digest_106 ?_
    refine J_aload_n (i := 0) (pc := 107) dX3_digest_107 rfl rfl ?_
    refine J_iload_n (i := 3) (pc := 108) dX3_digest_108 rfl rfl ?_
    refine J_iload (i := 4) (pc := 109) dX3_digest_109 rfl ?_
    refine J_cVB (st := [.long ((((((((((((((D) * (31)) + (((abS σ j 0)).toInt64)) * (31)) + (((abS σ j 1)).toInt64)) * (31)) + (((abS σ j 2)).toInt64)) * (31)) + (((abS σ j 3)).toInt64)) * (31)) + (((abS σ j 4)).toInt64)) * (31)) + (((abS σ j 5)).toInt64)) * (31))]) (As := [.int (nI (j)), .int (nI (6))]) (v := some (.int (abS σ j 6))) (ca1 := 0) (sa1 := 0) (ca2 := k * (cnt (gro σ.1) + cnt σ.1.2.1)) (sa2 := 3 * (k * (cnt (gro σ.1) + cnt σ.1.2.1))) (pc := 111) dX3_digest_111 okX3_treeTold q4_54 q4_56 qs2_13 (rfl : vwCl[3]? = some _) H_38 rfl (Nat.le_of_ble_eq_true rfl) (Nat.le_of_ble_eq_true rfl) (m_treeTold6 (dd := dd + 5) H_42 hj) (by omega) (by omega) (fun h_43 q_44 => ?_)
    have zh_43 := q_44.1
    have H_45 : h_43.2 (53) = some (oB 3 [.int (th), .int (nI (σ.1.1)), .ref (54), .ref (55), .int (nI (σ.1.2.1)), .int (nI (σ.2.1.2.1)), .int (nI (σ.2.1.2.2)), .int (nI (σ.2.1.1)), .ref (56), .ref (57), .ref (58)]) := (q_44.2 _ (by omega)).trans H_38
    have H_46 : h_43.2 (56) = some (aG (5) (rf)) := (q_44.2 _ (by omega)).trans H_39
    have H_47 : Ext h h_43 := Ext_tr H_40 q_44
    have H_48 : MS h_43 σ.1 := MS_ext q_44 (by omega) H_41
    have H_49 : MP h_43 σ ρ th := MP_ext q_44 H_42
    refine J_i2l (pc := 114) dX3_digest_114 ?_
    refine J_ladd (pc := 115) dX3_digest_115 ?_
    refine J_lstore_n (i := 1) (lv' := [(1, .long (((((((((((((((D) * (31)) + (((abS σ j 0)).toInt64)) * (31)) + (((abS σ j 1)).toInt64)) * (31)) + (((abS σ j 2)).toInt64)) * (31)) + (((abS σ j 3)).toInt64)) * (31)) + (((abS σ j 4)).toInt64)) * (31)) + (((abS σ j 5)).toInt64)) * (31)) + (((abS σ j 6)).toInt64))), (4, .int (nI (6))), (3, .int (nI (j))), (0, .ref (53))]) (pc := 116) dX3_digest_116 rfl (by decide) rfl ?_
    refine J_iinc (i := 4) (v := nI (7)) (lv' := [(4, .int (nI (7))), (1, .long (((((((((((((((D) * (31)) + (((abS σ j 0)).toInt64)) * (31)) + (((abS σ j 1)).toInt64)) * (31)) + (((abS σ j 2)).toInt64)) * (31)) + (((abS σ j 3)).toInt64)) * (31)) + (((abS σ j 4)).toInt64)) * (31)) + (((abS σ j 5)).toInt64)) * (31)) + (((abS σ j 6)).toInt64))), (3, .int (nI (j))), (0, .ref (53))]) (pc := 117) dX3_digest_117 rfl rfl (by decide) rfl ?_
    refine J_goto (tgt := 95) (pc := 120) dX3_digest_120 (by decide) ?_
    refine J_iload (i := 4) (pc := 95) dX3_digest_95 rfl ?_
    refine J_bipush (v := nI (7)) (pc := 97) dX3_digest_97 rfl ?_
    refine J_icmp_geN (tgt := 123) (pc := 99) dX3_digest_99 (by decide) (by omega) (by omega) (fun c99 => ?_) (fun c99 => by exfalso; first | omega | simp_all)
    refine J_iconst (v := nI (0)) (pc := 123) dX3_digest_123 rfl ?_
    refine J_istore (i := 4) (lv' := [(4, .int (nI (0))), (1, .long (((((((((((((((D) * (31)) + (((abS σ j 0)).toInt64)) * (31)) + (((abS σ j 1)).toInt64)) * (31)) + (((abS σ j 2)).toInt64)) * (31)) + (((abS σ j 3)).toInt64)) * (31)) + (((abS σ j 4)).toInt64)) * (31)) + (((abS σ j 5)).toInt64)) * (31)) + (((abS σ j 6)).toInt64))), (3, .int (nI (j))), (0, .ref (53))]) (pc := 124) dX3_digest_124 (by decide) rfl ?_
    refine J_sub (lv' := [(4, .int (nI (0))), (3, .int (nI (j))), (1, .long (((((((((((((((D) * (31)) + (((abS σ j 0)).toInt64)) * (31)) + (((abS σ j 1)).toInt64)) * (31)) + (((abS σ j 2)).toInt64)) * (31)) + (((abS σ j 3)).toInt64)) * (31)) + (((abS σ j 4)).toInt64)) * (31)) + (((abS σ j 5)).toInt64)) * (31)) + (((abS σ j 6)).toInt64))), (0, .ref (53))]) [0, 2, 1, 3] rfl ?_
    refine mdn_loop H_49 hj (nN 5 (σ.2.2.1 j)) 0 _ (Nat.zero_add _) ?_
    refine J_iinc (i := 3) (v := nI (j + 1)) (lv' := [(3, .int (nI (j + 1))), (1, .long (dgT σ j D)), (0, .ref (53))]) (pc := 184) dX3_digest_184 rfl (nI_add (j) 1) (by decide) rfl ?_
    refine J_goto (tgt := 84) (pc := 187) dX3_digest_187 (by decide) ?_
    exact ih (j + 1) _ h_43 (by omega) H_49 (fun h' x9 => hq h' (Ext_tr H_47 x9))

set_option maxHeartbeats 2000000 in
set_option maxRecDepth 20000 in
theorem mdb_loop {g : GT} {dd : Nat} {h : MH} {σ : ST} {ρ : Nat → Nat} {th : Int32} (hP : MP h σ ρ th) {Q : RT → MH → Prop} (hq : ∀ h', Ext h h' → Q (.inl (some (.long (dgS σ)))) h') : ∀ (k b : Nat) (D : Int64), b + k = σ.1.1 → dgB σ k b D = dgB σ σ.1.1 0 (dgC σ) → J g (dd + 13) (σ.2.1.1 * (cnt (gro σ.1) + cnt σ.1.2.1)) (3 * (σ.2.1.1 * (cnt (gro σ.1) + cnt σ.1.2.1))) mX3_digest 38 [(3, .int (nI (b))), (1, .long (D)), (0, .ref (53))] [] h Q := by
  obtain ⟨a1, a2, a3, a4, ⟨mf, a5, a5b⟩, ⟨sf, a6, a6b⟩, ⟨rf, a7, a7b⟩, ⟨pf, a8, a8b⟩, ⟨lf, a9, a9b⟩, a10, a11⟩ := id hP
  obtain ⟨o1, o2, o3, o4⟩ := id a2
  have hM := MP_MS hP
  obtain ⟨hn, hc9, hm5, hs2⟩ := id a1
  have hp9 := pw_le hn
  intro k
  induction k with
  | zero =>
    intro b D hb eD
    have eD2 : D = dgB σ σ.1.1 0 (dgC σ) := eD
    refine J_iload_n (i := 3) (pc := 38) dX3_digest_38 rfl rfl ?_
    refine J_aload_n (i := 0) (pc := 39) dX3_digest_39 rfl rfl ?_
    refine J_getf (k := 1) (pc := 40) dX3_digest_40 flX3_44 a4 rfl ?_
    refine J_icmp_geN (tgt := 82) (pc := 43) dX3_digest_43 (by decide) (by omega) (by omega) (fun c43 => ?_) (fun c43 => by exfalso; first | omega | simp_all)
    refine J_iconst (v := nI (0)) (pc := 82) dX3_digest_82 rfl ?_
    refine J_istore_n (i := 3) (lv' := [(3, .int (nI (0))), (1, .long (D)), (0, .ref (53))]) (pc := 83) dX3_digest_83 rfl (by decide) rfl ?_
    refine J_sub (lv' := [(3, .int (nI (0))), (1, .long (D)), (0, .ref (53))]) [0, 1, 2] rfl ?_
    exact mdt_loop σ.2.1.1 0 D h (Nat.zero_add _) hP (fun h' x9 => by rw [eD2]; exact hq h' x9)
  | succ k ih =>
    intro b D hk eD
    have hb : b < σ.1.1 := by omega
    refine J_iload_n (i := 3) (pc := 38) dX3_digest_38 rfl rfl ?_
    refine J_aload_n (i := 0) (pc := 39) dX3_digest_39 rfl rfl ?_
    refine J_getf (k := 1) (pc := 40) dX3_digest_40 flX3_44 a4 rfl ?_
    refine J_icmp_geN (tgt := 82) (pc := 43) dX3_digest_43 (by decide) (by omega) (by omega) (fun c43 => by exfalso; first | omega | simp_all) (fun c43 => ?_)
    refine J_iconst (v := nI (0)) (pc := 46) dX3_digest_46 rfl ?_
    refine J_istore (i := 4) (lv' := [(4, .int (nI (0))), (3, .int (nI (b))), (1, .long (D)), (0, .ref (53))]) (pc := 47) dX3_digest_47 (by decide) rfl ?_
    refine J_iload (i := 4) (pc := 49) dX3_digest_49 rfl ?_
    refine J_iconst (v := nI (5)) (pc := 51) dX3_digest_51 rfl ?_
    refine J_icmp_geN (tgt := 76) (pc := 52) dX3_digest_52 (by decide) (by omega) (by omega) (fun c52 => by exfalso; first | omega | simp_all) (fun c52 => ?_)
    refine J_lload_n (i := 1) (pc := 55) dX3_digest_55 rfl rfl ?_
    refine J_ldc2 (v := 31) (pc := 56) dX3_digest_56 q4_125 ?_
    refine J_lmul (pc := 59) dX3_digest_59 ?_
    refine J_aload_n (i := 0) (pc := 60) dX3_digest_60 rfl rfl ?_
    refine J_iload_n (i := 3) (pc := 61) dX3_digest_61 rfl rfl ?_
    refine J_iload (i := 4) (pc := 62) dX3_digest_62 rfl ?_
    refine J_cVi (st := [.long ((D) * (31))]) (As := [.int (nI (b)), .int (nI (0))]) (pc := 64) dX3_digest_64 okX3_beanTold q4_69 q4_71 qs2_14 (rfl : vwCl[3]? = some _) a4 rfl (Nat.le_of_ble_eq_true rfl) (Nat.le_of_ble_eq_true rfl) (m_beanTold0 (dd := dd + 11) hP hb) ?_
    refine J_i2l (pc := 67) dX3_digest_67 ?_
    refine J_ladd (pc := 68) dX3_digest_68 ?_
    refine J_lstore_n (i := 1) (lv' := [(1, .long (((D) * (31)) + (((nI (toS σ b 0))).toInt64))), (4, .int (nI (0))), (3, .int (nI (b))), (0, .ref (53))]) (pc := 69) dX3_digest_69 rfl (by decide) rfl ?_
    refine J_iinc (i := 4) (v := nI (1)) (lv' := [(4, .int (nI (1))), (1, .long (((D) * (31)) + (((nI (toS σ b 0))).toInt64))), (3, .int (nI (b))), (0, .ref (53))]) (pc := 70) dX3_digest_70 rfl rfl (by decide) rfl ?_
    refine J_goto (tgt := 49) (pc := 73) dX3_digest_73 (by decide) ?_
    refine J_iload (i := 4) (pc := 49) dX3_digest_49 rfl ?_
    refine J_iconst (v := nI (5)) (pc := 51) dX3_digest_51 rfl ?_
    refine J_icmp_geN (tgt := 76) (pc := 52) dX3_digest_52 (by decide) (by omega) (by omega) (fun c52 => by exfalso; first | omega | simp_all) (fun c52 => ?_)
    refine J_lload_n (i := 1) (pc := 55) dX3_digest_55 rfl rfl ?_
    refine J_ldc2 (v := 31) (pc := 56) dX3_digest_56 q4_125 ?_
    refine J_lmul (pc := 59) dX3_digest_59 ?_
    refine J_aload_n (i := 0) (pc := 60) dX3_digest_60 rfl rfl ?_
    refine J_iload_n (i := 3) (pc := 61) dX3_digest_61 rfl rfl ?_
    refine J_iload (i := 4) (pc := 62) dX3_digest_62 rfl ?_
    refine J_cVi (st := [.long ((((D) * (31)) + (((nI (toS σ b 0))).toInt64)) * (31))]) (As := [.int (nI (b)), .int (nI (1))]) (pc := 64) dX3_digest_64 okX3_beanTold q4_69 q4_71 qs2_14 (rfl : vwCl[3]? = some _) a4 rfl (Nat.le_of_ble_eq_true rfl) (Nat.le_of_ble_eq_true rfl) (m_beanTold1 (dd := dd + 11) hP hb) ?_
    refine J_i2l (pc := 67) dX3_digest_67 ?_
    refine J_ladd (pc := 68) dX3_digest_68 ?_
    refine J_lstore_n (i := 1) (lv' := [(1, .long (((((D) * (31)) + (((nI (toS σ b 0))).toInt64)) * (31)) + (((nI (toS σ b 1))).toInt64))), (4, .int (nI (1))), (3, .int (nI (b))), (0, .ref (53))]) (pc := 69) dX3_digest_69 rfl (by decide) rfl ?_
    refine J_iinc (i := 4) (v := nI (2)) (lv' := [(4, .int (nI (2))), (1, .long (((((D) * (31)) + (((nI (toS σ b 0))).toInt64)) * (31)) + (((nI (toS σ b 1))).toInt64))), (3, .int (nI (b))), (0, .ref (53))]) (pc := 70) dX3_digest_70 rfl rfl (by decide) rfl ?_
    refine J_goto (tgt := 49) (pc := 73) dX3_digest_73 (by decide) ?_
    refine J_iload (i := 4) (pc := 49) dX3_digest_49 rfl ?_
    refine J_iconst (v := nI (5)) (pc := 51) dX3_digest_51 rfl ?_
    refine J_icmp_geN (tgt := 76) (pc := 52) dX3_digest_52 (by decide) (by omega) (by omega) (fun c52 => by exfalso; first | omega | simp_all) (fun c52 => ?_)
    refine J_lload_n (i := 1) (pc := 55) dX3_digest_55 rfl rfl ?_
    refine J_ldc2 (v := 31) (pc := 56) dX3_digest_56 q4_125 ?_
    refine J_lmul (pc := 59) dX3_digest_59 ?_
    refine J_aload_n (i := 0) (pc := 60) dX3_digest_60 rfl rfl ?_
    refine J_iload_n (i := 3) (pc := 61) dX3_digest_61 rfl rfl ?_
    refine J_iload (i := 4) (pc := 62) dX3_digest_62 rfl ?_
    refine J_cVi (st := [.long ((((((D) * (31)) + (((nI (toS σ b 0))).toInt64)) * (31)) + (((nI (toS σ b 1))).toInt64)) * (31))]) (As := [.int (nI (b)), .int (nI (2))]) (pc := 64) dX3_digest_64 okX3_beanTold q4_69 q4_71 qs2_14 (rfl : vwCl[3]? = some _) a4 rfl (Nat.le_of_ble_eq_true rfl) (Nat.le_of_ble_eq_true rfl) (m_beanTold2 (dd := dd + 11) hP hb) ?_
    refine J_i2l (pc := 67) dX3_digest_67 ?_
    refine J_ladd (pc := 68) dX3_digest_68 ?_
    refine J_lstore_n (i := 1) (lv' := [(1, .long (((((((D) * (31)) + (((nI (toS σ b 0))).toInt64)) * (31)) + (((nI (toS σ b 1))).toInt64)) * (31)) + (((nI (toS σ b 2))).toInt64))), (4, .int (nI (2))), (3, .int (nI (b))), (0, .ref (53))]) (pc := 69) dX3_digest_69 rfl (by decide) rfl ?_
    refine J_iinc (i := 4) (v := nI (3)) (lv' := [(4, .int (nI (3))), (1, .long (((((((D) * (31)) + (((nI (toS σ b 0))).toInt64)) * (31)) + (((nI (toS σ b 1))).toInt64)) * (31)) + (((nI (toS σ b 2))).toInt64))), (3, .int (nI (b))), (0, .ref (53))]) (pc := 70) dX3_digest_70 rfl rfl (by decide) rfl ?_
    refine J_goto (tgt := 49) (pc := 73) dX3_digest_73 (by decide) ?_
    refine J_iload (i := 4) (pc := 49) dX3_digest_49 rfl ?_
    refine J_iconst (v := nI (5)) (pc := 51) dX3_digest_51 rfl ?_
    refine J_icmp_geN (tgt := 76) (pc := 52) dX3_digest_52 (by decide) (by omega) (by omega) (fun c52 => by exfalso; first | omega | simp_all) (fun c52 => ?_)
    refine J_lload_n (i := 1) (pc := 55) dX3_digest_55 rfl rfl ?_
    refine J_ldc2 (v := 31) (pc := 56) dX3_digest_56 q4_125 ?_
    refine J_lmul (pc := 59) dX3_digest_59 ?_
    refine J_aload_n (i := 0) (pc := 60) dX3_digest_60 rfl rfl ?_
    refine J_iload_n (i := 3) (pc := 61) dX3_digest_61 rfl rfl ?_
    refine J_iload (i := 4) (pc := 62) dX3_digest_62 rfl ?_
    refine J_cVi (st := [.long ((((((((D) * (31)) + (((nI (toS σ b 0))).toInt64)) * (31)) + (((nI (toS σ b 1))).toInt64)) * (31)) + (((nI (toS σ b 2))).toInt64)) * (31))]) (As := [.int (nI (b)), .int (nI (3))]) (pc := 64) dX3_digest_64 okX3_beanTold q4_69 q4_71 qs2_14 (rfl : vwCl[3]? = some _) a4 rfl (Nat.le_of_ble_eq_true rfl) (Nat.le_of_ble_eq_true rfl) (m_beanTold3 (dd := dd + 11) hP hb) ?_
    refine J_i2l (pc := 67) dX3_digest_67 ?_
    refine J_ladd (pc := 68) dX3_digest_68 ?_
    refine J_lstore_n (i := 1) (lv' := [(1, .long (((((((((D) * (31)) + (((nI (toS σ b 0))).toInt64)) * (31)) + (((nI (toS σ b 1))).toInt64)) * (31)) + (((nI (toS σ b 2))).toInt64)) * (31)) + (((nI (toS σ b 3))).toInt64))), (4, .int (nI (3))), (3, .int (nI (b))), (0, .ref (53))]) (pc := 69) dX3_digest_69 rfl (by decide) rfl ?_
    refine J_iinc (i := 4) (v := nI (4)) (lv' := [(4, .int (nI (4))), (1, .long (((((((((D) * (31)) + (((nI (toS σ b 0))).toInt64)) * (31)) + (((nI (toS σ b 1))).toInt64)) * (31)) + (((nI (toS σ b 2))).toInt64)) * (31)) + (((nI (toS σ b 3))).toInt64))), (3, .int (nI (b))), (0, .ref (53))]) (pc := 70) dX3_digest_70 rfl rfl (by decide) rfl ?_
    refine J_goto (tgt := 49) (pc := 73) dX3_digest_73 (by decide) ?_
    refine J_iload (i := 4) (pc := 49) dX3_digest_49 rfl ?_
    refine J_iconst (v := nI (5)) (pc := 51) dX3_digest_51 rfl ?_
    refine J_icmp_geN (tgt := 76) (pc := 52) dX3_digest_52 (by decide) (by omega) (by omega) (fun c52 => by exfalso; first | omega | simp_all) (fun c52 => ?_)
    refine J_lload_n (i := 1) (pc := 55) dX3_digest_55 rfl rfl ?_
    refine J_ldc2 (v := 31) (pc := 56) dX3_digest_56 q4_125 ?_
    refine J_lmul (pc := 59) dX3_digest_59 ?_
    refine J_aload_n (i := 0) (pc := 60) dX3_digest_60 rfl rfl ?_
    refine J_iload_n (i := 3) (pc := 61) dX3_digest_61 rfl rfl ?_
    refine J_iload (i := 4) (pc := 62) dX3_digest_62 rfl ?_
    refine J_cVi (st := [.long ((((((((((D) * (31)) + (((nI (toS σ b 0))).toInt64)) * (31)) + (((nI (toS σ b 1))).toInt64)) * (31)) + (((nI (toS σ b 2))).toInt64)) * (31)) + (((nI (toS σ b 3))).toInt64)) * (31))]) (As := [.int (nI (b)), .int (nI (4))]) (pc := 64) dX3_digest_64 okX3_beanTold q4_69 q4_71 qs2_14 (rfl : vwCl[3]? = some _) a4 rfl (Nat.le_of_ble_eq_true rfl) (Nat.le_of_ble_eq_true rfl) (m_beanTold4 (dd := dd + 11) hP hb) ?_
    refine J_i2l (pc := 67) dX3_digest_67 ?_
    refine J_ladd (pc := 68) dX3_digest_68 ?_
    refine J_lstore_n (i := 1) (lv' := [(1, .long (((((((((((D) * (31)) + (((nI (toS σ b 0))).toInt64)) * (31)) + (((nI (toS σ b 1))).toInt64)) * (31)) + (((nI (toS σ b 2))).toInt64)) * (31)) + (((nI (toS σ b 3))).toInt64)) * (31)) + (((nI (toS σ b 4))).toInt64))), (4, .int (nI (4))), (3, .int (nI (b))), (0, .ref (53))]) (pc := 69) dX3_digest_69 rfl (by decide) rfl ?_
    refine J_iinc (i := 4) (v := nI (5)) (lv' := [(4, .int (nI (5))), (1, .long (((((((((((D) * (31)) + (((nI (toS σ b 0))).toInt64)) * (31)) + (((nI (toS σ b 1))).toInt64)) * (31)) + (((nI (toS σ b 2))).toInt64)) * (31)) + (((nI (toS σ b 3))).toInt64)) * (31)) + (((nI (toS σ b 4))).toInt64))), (3, .int (nI (b))), (0, .ref (53))]) (pc := 70) dX3_digest_70 rfl rfl (by decide) rfl ?_
    refine J_goto (tgt := 49) (pc := 73) dX3_digest_73 (by decide) ?_
    refine J_iload (i := 4) (pc := 49) dX3_digest_49 rfl ?_
    refine J_iconst (v := nI (5)) (pc := 51) dX3_digest_51 rfl ?_
    refine J_icmp_geN (tgt := 76) (pc := 52) dX3_digest_52 (by decide) (by omega) (by omega) (fun c52 => ?_) (fun c52 => by exfalso; first | omega | simp_all)
    refine J_iinc (i := 3) (v := nI (b + 1)) (lv' := [(3, .int (nI (b + 1))), (4, .int (nI (5))), (1, .long (((((((((((D) * (31)) + (((nI (toS σ b 0))).toInt64)) * (31)) + (((nI (toS σ b 1))).toInt64)) * (31)) + (((nI (toS σ b 2))).toInt64)) * (31)) + (((nI (toS σ b 3))).toInt64)) * (31)) + (((nI (toS σ b 4))).toInt64))), (0, .ref (53))]) (pc := 76) dX3_digest_76 rfl (nI_add (b) 1) (by decide) rfl ?_
    refine J_goto (tgt := 38) (pc := 79) dX3_digest_79 (by decide) ?_
    refine J_sub (lv' := [(3, .int (nI (b + 1))), (1, .long (((((((((((D) * (31)) + (((nI (toS σ b 0))).toInt64)) * (31)) + (((nI (toS σ b 1))).toInt64)) * (31)) + (((nI (toS σ b 2))).toInt64)) * (31)) + (((nI (toS σ b 3))).toInt64)) * (31)) + (((nI (toS σ b 4))).toInt64))), (0, .ref (53))]) [0, 2, 3] rfl ?_
    exact ih (b + 1) _ (by omega) eD

set_option maxHeartbeats 2000000 in
set_option maxRecDepth 20000 in
theorem m_digest {g : GT} {dd : Nat} {h : MH} {σ : ST} {ρ : Nat → Nat} {th : Int32} (hP : MP h σ ρ th) : J g (dd + 13) (2 * cnt (gro σ.1) + 2 * cnt σ.1.2.1 + σ.2.1.1 * (cnt (gro σ.1) + cnt σ.1.2.1)) (3 * (2 * cnt (gro σ.1) + 2 * cnt σ.1.2.1 + σ.2.1.1 * (cnt (gro σ.1) + cnt σ.1.2.1))) mX3_digest 0 (lv_args 0 [.ref (53)]) [] h (RMo (.long (dgS σ)) h σ (nI 0)) := by
  have a40 := hP.2.2.2.1
  have hz0 := hP.2.2.1
  refine J_aload_n (i := 0) (pc := 0) dX3_digest_0 rfl rfl ?_
  refine J_iconst (v := nI (0)) (pc := 1) dX3_digest_1 rfl ?_
  refine J_putf (k := 0) (pc := 2) dX3_digest_2 fpX3_digest_34 (fun g => ⟨rfl, rfl⟩) a40 (Nat.le_of_ble_eq_true rfl) ?_
  obtain ⟨h_1, eh_1⟩ : ∃ z : MH, z = (h.1, hset h.2 (53) (oB 3 [.int (nI (0)), .int (nI (σ.1.1)), .ref (54), .ref (55), .int (nI (σ.1.2.1)), .int (nI (σ.2.1.2.1)), .int (nI (σ.2.1.2.2)), .int (nI (σ.2.1.1)), .ref (56), .ref (57), .ref (58)])) := ⟨_, rfl⟩
  refine J_heq (h2 := h_1) eh_1 ?_
  have zh_1 : h_1.1 = h.1 := by rw [eh_1]
  have H_2 : h_1.2 (53) = some (oB 3 [.int (nI (0)), .int (nI (σ.1.1)), .ref (54), .ref (55), .int (nI (σ.1.2.1)), .int (nI (σ.2.1.2.1)), .int (nI (σ.2.1.2.2)), .int (nI (σ.2.1.1)), .ref (56), .ref (57), .ref (58)]) := hs_s eh_1
  have hP1 : MP h_1 σ ρ (nI 0) := MP_53 hP eh_1
  have fm1 : FM h h_1 := FM_set eh_1 (by decide) (by decide)
  obtain ⟨a1, a2, a3, a4, ⟨mf, a5, a5b⟩, ⟨sf, a6, a6b⟩, ⟨rf, a7, a7b⟩, ⟨pf, a8, a8b⟩, ⟨lf, a9, a9b⟩, a10, a11⟩ := id hP1
  obtain ⟨o1, o2, o3, o4⟩ := id a2
  have hM := MP_MS hP1
  obtain ⟨hn, hc9, hm5, hs2⟩ := id a1
  have hp9 := pw_le hn
  refine J_ldc2 (v := 1699) (pc := 5) dX3_digest_5 q4_124 ?_
  refine J_lstore_n (i := 1) (lv' := [(1, .long (1699)), (0, .ref (53))]) (pc := 8) dX3_digest_8 rfl (by decide) rfl ?_
  refine J_iconst (v := nI (0)) (pc := 9) dX3_digest_9 rfl ?_
  refine J_istore_n (i := 3) (lv' := [(3, .int (nI (0))), (1, .long (1699)), (0, .ref (53))]) (pc := 10) dX3_digest_10 rfl (by decide) rfl ?_
  refine J_iload_n (i := 3) (pc := 11) dX3_digest_11 rfl rfl ?_
  refine J_bipush (v := nI (7)) (pc := 12) dX3_digest_12 rfl ?_
  refine J_icmp_geN (tgt := 36) (pc := 14) dX3_digest_14 (by decide) (by omega) (by omega) (fun c14 => by exfalso; first | omega | simp_all) (fun c14 => ?_)
  refine J_lload_n (i := 1) (pc := 17) dX3_digest_17 rfl rfl ?_
  refine J_ldc2 (v := 31) (pc := 18) dX3_digest_18 q4_125 ?_
  refine J_lmul (pc := 21) dX3_digest_21 ?_
  refine J_aload_n (i := 0) (pc := 22) dX3_digest_22 rfl rfl ?_
  refine J_iload_n (i := 3) (pc := 23) dX3_digest_23 rfl rfl ?_
  refine J_cVB (st := [.long ((1699) * (31))]) (As := [.int (nI (0))]) (v := some (.int (nI (ctS σ 0)))) (ca1 := 0) (sa1 := 0) (ca2 := 2 * cnt (gro σ.1) + 2 * cnt σ.1.2.1 + σ.2.1.1 * (cnt (gro σ.1) + cnt σ.1.2.1)) (sa2 := 3 * (2 * cnt (gro σ.1) + 2 * cnt σ.1.2.1 + σ.2.1.1 * (cnt (gro σ.1) + cnt σ.1.2.1))) (pc := 24) dX3_digest_24 okX3_counted q4_89 q4_91 qs3_0 (rfl : vwCl[3]? = some _) a4 rfl (Nat.le_of_ble_eq_true rfl) (Nat.le_of_ble_eq_true rfl) (m_counted0 (dd := dd + 8) hP1) (by omega) (by omega) (fun h_3 q_4 => ?_)
  have zh_3 := q_4.1
  have H_5 : h_3.2 (53) = some (oB 3 [.int (nI (0)), .int (nI (σ.1.1)), .ref (54), .ref (55), .int (nI (σ.1.2.1)), .int (nI (σ.2.1.2.1)), .int (nI (σ.2.1.2.2)), .int (nI (σ.2.1.1)), .ref (56), .ref (57), .ref (58)]) := (q_4.2 _ (by omega)).trans a4
  have H_6 : h_3.2 (54) = some (aI (60) (mf)) := (q_4.2 _ (by omega)).trans a5
  have H_7 : h_3.2 (55) = some (aI (20) (sf)) := (q_4.2 _ (by omega)).trans a6
  have H_8 : h_3.2 (56) = some (aG (5) (rf)) := (q_4.2 _ (by omega)).trans a7
  have H_9 : h_3.2 (57) = some (aI (5) (pf)) := (q_4.2 _ (by omega)).trans a8
  have H_10 : h_3.2 (58) = some (aI (5) (lf)) := (q_4.2 _ (by omega)).trans a9
  have H_11 : Ext h_1 h_3 := Ext_tr Ext_rfl q_4
  have H_12 : MS h_3 σ.1 := MS_ext q_4 (by omega) hM
  have H_13 : MP h_3 σ ρ (nI 0) := MP_ext q_4 hP1
  refine J_i2l (pc := 27) dX3_digest_27 ?_
  refine J_ladd (pc := 28) dX3_digest_28 ?_
  refine J_lstore_n (i := 1) (lv' := [(1, .long (((1699) * (31)) + (((nI (ctS σ 0))).toInt64))), (3, .int (nI (0))), (0, .ref (53))]) (pc := 29) dX3_digest_29 rfl (by decide) rfl ?_
  refine J_iinc (i := 3) (v := nI (1)) (lv' := [(3, .int (nI (1))), (1, .long (((1699) * (31)) + (((nI (ctS σ 0))).toInt64))), (0, .ref (53))]) (pc := 30) dX3_digest_30 rfl rfl (by decide) rfl ?_
  refine J_goto (tgt := 11) (pc := 33) dX3_digest_33 (by decide) ?_
  refine J_iload_n (i := 3) (pc := 11) dX3_digest_11 rfl rfl ?_
  refine J_bipush (v := nI (7)) (pc := 12) dX3_digest_12 rfl ?_
  refine J_icmp_geN (tgt := 36) (pc := 14) dX3_digest_14 (by decide) (by omega) (by omega) (fun c14 => by exfalso; first | omega | simp_all) (fun c14 => ?_)
  refine J_lload_n (i := 1) (pc := 17) dX3_digest_17 rfl rfl ?_
  refine J_ldc2 (v := 31) (pc := 18) dX3_digest_18 q4_125 ?_
  refine J_lmul (pc := 21) dX3_digest_21 ?_
  refine J_aload_n (i := 0) (pc := 22) dX3_digest_22 rfl rfl ?_
  refine J_iload_n (i := 3) (pc := 23) dX3_digest_23 rfl rfl ?_
  refine J_cVB (st := [.long ((((1699) * (31)) + (((nI (ctS σ 0))).toInt64)) * (31))]) (As := [.int (nI (1))]) (v := some (.int (nI (ctS σ 1)))) (ca1 := 0) (sa1 := 0) (ca2 := 2 * cnt (gro σ.1) + 2 * cnt σ.1.2.1 + σ.2.1.1 * (cnt (gro σ.1) + cnt σ.1.2.1)) (sa2 := 3 * (2 * cnt (gro σ.1) + 2 * cnt σ.1.2.1 + σ.2.1.1 * (cnt (gro σ.1) + cnt σ.1.2.1))) (pc := 24) dX3_digest_24 okX3_counted q4_89 q4_91 qs3_0 (rfl : vwCl[3]? = some _) H_5 rfl (Nat.le_of_ble_eq_true rfl) (Nat.le_of_ble_eq_true rfl) (m_counted1 (dd := dd + 8) H_13) (by omega) (by omega) (fun h_14 q_15 => ?_)
  have zh_14 := q_15.1
  have H_16 : h_14.2 (53) = some (oB 3 [.int (nI (0)), .int (nI (σ.1.1)), .ref (54), .ref (55), .int (nI (σ.1.2.1)), .int (nI (σ.2.1.2.1)), .int (nI (σ.2.1.2.2)), .int (nI (σ.2.1.1)), .ref (56), .ref (57), .ref (58)]) := (q_15.2 _ (by omega)).trans H_5
  have H_17 : h_14.2 (54) = some (aI (60) (mf)) := (q_15.2 _ (by omega)).trans H_6
  have H_18 : h_14.2 (55) = some (aI (20) (sf)) := (q_15.2 _ (by omega)).trans H_7
  have H_19 : h_14.2 (56) = some (aG (5) (rf)) := (q_15.2 _ (by omega)).trans H_8
  have H_20 : h_14.2 (57) = some (aI (5) (pf)) := (q_15.2 _ (by omega)).trans H_9
  have H_21 : h_14.2 (58) = some (aI (5) (lf)) := (q_15.2 _ (by omega)).trans H_10
  have H_22 : Ext h_1 h_14 := Ext_tr H_11 q_15
  have H_23 : MS h_14 σ.1 := MS_ext q_15 (by omega) H_12
  have H_24 : MP h_14 σ ρ (nI 0) := MP_ext q_15 H_13
  refine J_i2l (pc := 27) dX3_digest_27 ?_
  refine J_ladd (pc := 28) dX3_digest_28 ?_
  refine J_lstore_n (i := 1) (lv' := [(1, .long (((((1699) * (31)) + (((nI (ctS σ 0))).toInt64)) * (31)) + (((nI (ctS σ 1))).toInt64))), (3, .int (nI (1))), (0, .ref (53))]) (pc := 29) dX3_digest_29 rfl (by decide) rfl ?_
  refine J_iinc (i := 3) (v := nI (2)) (lv' := [(3, .int (nI (2))), (1, .long (((((1699) * (31)) + (((nI (ctS σ 0))).toInt64)) * (31)) + (((nI (ctS σ 1))).toInt64))), (0, .ref (53))]) (pc := 30) dX3_digest_30 rfl rfl (by decide) rfl ?_
  refine J_goto (tgt := 11) (pc := 33) dX3_digest_33 (by decide) ?_
  refine J_iload_n (i := 3) (pc := 11) dX3_digest_11 rfl rfl ?_
  refine J_bipush (v := nI (7)) (pc := 12) dX3_digest_12 rfl ?_
  refine J_icmp_geN (tgt := 36) (pc := 14) dX3_digest_14 (by decide) (by omega) (by omega) (fun c14 => by exfalso; first | omega | simp_all) (fun c14 => ?_)
  refine J_lload_n (i := 1) (pc := 17) dX3_digest_17 rfl rfl ?_
  refine J_ldc2 (v := 31) (pc := 18) dX3_digest_18 q4_125 ?_
  refine J_lmul (pc := 21) dX3_digest_21 ?_
  refine J_aload_n (i := 0) (pc := 22) dX3_digest_22 rfl rfl ?_
  refine J_iload_n (i := 3) (pc := 23) dX3_digest_23 rfl rfl ?_
  refine J_cVB (st := [.long ((((((1699) * (31)) + (((nI (ctS σ 0))).toInt64)) * (31)) + (((nI (ctS σ 1))).toInt64)) * (31))]) (As := [.int (nI (2))]) (v := some (.int (nI (ctS σ 2)))) (ca1 := 0) (sa1 := 0) (ca2 := 2 * cnt (gro σ.1) + 2 * cnt σ.1.2.1 + σ.2.1.1 * (cnt (gro σ.1) + cnt σ.1.2.1)) (sa2 := 3 * (2 * cnt (gro σ.1) + 2 * cnt σ.1.2.1 + σ.2.1.1 * (cnt (gro σ.1) + cnt σ.1.2.1))) (pc := 24) dX3_digest_24 okX3_counted q4_89 q4_91 qs3_0 (rfl : vwCl[3]? = some _) H_16 rfl (Nat.le_of_ble_eq_true rfl) (Nat.le_of_ble_eq_true rfl) (m_counted2 (dd := dd + 8) H_24) (by omega) (by omega) (fun h_25 q_26 => ?_)
  have zh_25 := q_26.1
  have H_27 : h_25.2 (53) = some (oB 3 [.int (nI (0)), .int (nI (σ.1.1)), .ref (54), .ref (55), .int (nI (σ.1.2.1)), .int (nI (σ.2.1.2.1)), .int (nI (σ.2.1.2.2)), .int (nI (σ.2.1.1)), .ref (56), .ref (57), .ref (58)]) := (q_26.2 _ (by omega)).trans H_16
  have H_28 : h_25.2 (54) = some (aI (60) (mf)) := (q_26.2 _ (by omega)).trans H_17
  have H_29 : h_25.2 (55) = some (aI (20) (sf)) := (q_26.2 _ (by omega)).trans H_18
  have H_30 : h_25.2 (56) = some (aG (5) (rf)) := (q_26.2 _ (by omega)).trans H_19
  have H_31 : h_25.2 (57) = some (aI (5) (pf)) := (q_26.2 _ (by omega)).trans H_20
  have H_32 : h_25.2 (58) = some (aI (5) (lf)) := (q_26.2 _ (by omega)).trans H_21
  have H_33 : Ext h_1 h_25 := Ext_tr H_22 q_26
  have H_34 : MS h_25 σ.1 := MS_ext q_26 (by omega) H_23
  have H_35 : MP h_25 σ ρ (nI 0) := MP_ext q_26 H_24
  refine J_i2l (pc := 27) dX3_digest_27 ?_
  refine J_ladd (pc := 28) dX3_digest_28 ?_
  refine J_lstore_n (i := 1) (lv' := [(1, .long (((((((1699) * (31)) + (((nI (ctS σ 0))).toInt64)) * (31)) + (((nI (ctS σ 1))).toInt64)) * (31)) + (((nI (ctS σ 2))).toInt64))), (3, .int (nI (2))), (0, .ref (53))]) (pc := 29) dX3_digest_29 rfl (by decide) rfl ?_
  refine J_iinc (i := 3) (v := nI (3)) (lv' := [(3, .int (nI (3))), (1, .long (((((((1699) * (31)) + (((nI (ctS σ 0))).toInt64)) * (31)) + (((nI (ctS σ 1))).toInt64)) * (31)) + (((nI (ctS σ 2))).toInt64))), (0, .ref (53))]) (pc := 30) dX3_digest_30 rfl rfl (by decide) rfl ?_
  refine J_goto (tgt := 11) (pc := 33) dX3_digest_33 (by decide) ?_
  refine J_iload_n (i := 3) (pc := 11) dX3_digest_11 rfl rfl ?_
  refine J_bipush (v := nI (7)) (pc := 12) dX3_digest_12 rfl ?_
  refine J_icmp_geN (tgt := 36) (pc := 14) dX3_digest_14 (by decide) (by omega) (by omega) (fun c14 => by exfalso; first | omega | simp_all) (fun c14 => ?_)
  refine J_lload_n (i := 1) (pc := 17) dX3_digest_17 rfl rfl ?_
  refine J_ldc2 (v := 31) (pc := 18) dX3_digest_18 q4_125 ?_
  refine J_lmul (pc := 21) dX3_digest_21 ?_
  refine J_aload_n (i := 0) (pc := 22) dX3_digest_22 rfl rfl ?_
  refine J_iload_n (i := 3) (pc := 23) dX3_digest_23 rfl rfl ?_
  refine J_cVB (st := [.long ((((((((1699) * (31)) + (((nI (ctS σ 0))).toInt64)) * (31)) + (((nI (ctS σ 1))).toInt64)) * (31)) + (((nI (ctS σ 2))).toInt64)) * (31))]) (As := [.int (nI (3))]) (v := some (.int (nI (ctS σ 3)))) (ca1 := 2 * cnt (gro σ.1)) (sa1 := 6 * cnt (gro σ.1)) (ca2 := 2 * cnt σ.1.2.1 + σ.2.1.1 * (cnt (gro σ.1) + cnt σ.1.2.1)) (sa2 := 3 * (2 * cnt σ.1.2.1 + σ.2.1.1 * (cnt (gro σ.1) + cnt σ.1.2.1))) (pc := 24) dX3_digest_24 okX3_counted q4_89 q4_91 qs3_0 (rfl : vwCl[3]? = some _) H_27 rfl (Nat.le_of_ble_eq_true rfl) (Nat.le_of_ble_eq_true rfl) (m_counted3 (dd := dd + 8) H_35) (by omega) (by omega) (fun h_36 q_37 => ?_)
  have zh_36 := q_37.1
  have H_38 : h_36.2 (53) = some (oB 3 [.int (nI (0)), .int (nI (σ.1.1)), .ref (54), .ref (55), .int (nI (σ.1.2.1)), .int (nI (σ.2.1.2.1)), .int (nI (σ.2.1.2.2)), .int (nI (σ.2.1.1)), .ref (56), .ref (57), .ref (58)]) := (q_37.2 _ (by omega)).trans H_27
  have H_39 : h_36.2 (54) = some (aI (60) (mf)) := (q_37.2 _ (by omega)).trans H_28
  have H_40 : h_36.2 (55) = some (aI (20) (sf)) := (q_37.2 _ (by omega)).trans H_29
  have H_41 : h_36.2 (56) = some (aG (5) (rf)) := (q_37.2 _ (by omega)).trans H_30
  have H_42 : h_36.2 (57) = some (aI (5) (pf)) := (q_37.2 _ (by omega)).trans H_31
  have H_43 : h_36.2 (58) = some (aI (5) (lf)) := (q_37.2 _ (by omega)).trans H_32
  have H_44 : Ext h_1 h_36 := Ext_tr H_33 q_37
  have H_45 : MS h_36 σ.1 := MS_ext q_37 (by omega) H_34
  have H_46 : MP h_36 σ ρ (nI 0) := MP_ext q_37 H_35
  refine J_i2l (pc := 27) dX3_digest_27 ?_
  refine J_ladd (pc := 28) dX3_digest_28 ?_
  refine J_lstore_n (i := 1) (lv' := [(1, .long (((((((((1699) * (31)) + (((nI (ctS σ 0))).toInt64)) * (31)) + (((nI (ctS σ 1))).toInt64)) * (31)) + (((nI (ctS σ 2))).toInt64)) * (31)) + (((nI (ctS σ 3))).toInt64))), (3, .int (nI (3))), (0, .ref (53))]) (pc := 29) dX3_digest_29 rfl (by decide) rfl ?_
  refine J_iinc (i := 3) (v := nI (4)) (lv' := [(3, .int (nI (4))), (1, .long (((((((((1699) * (31)) + (((nI (ctS σ 0))).toInt64)) * (31)) + (((nI (ctS σ 1))).toInt64)) * (31)) + (((nI (ctS σ 2))).toInt64)) * (31)) + (((nI (ctS σ 3))).toInt64))), (0, .ref (53))]) (pc := 30) dX3_digest_30 rfl rfl (by decide) rfl ?_
  refine J_goto (tgt := 11) (pc := 33) dX3_digest_33 (by decide) ?_
  refine J_iload_n (i := 3) (pc := 11) dX3_digest_11 rfl rfl ?_
  refine J_bipush (v := nI (7)) (pc := 12) dX3_digest_12 rfl ?_
  refine J_icmp_geN (tgt := 36) (pc := 14) dX3_digest_14 (by decide) (by omega) (by omega) (fun c14 => by exfalso; first | omega | simp_all) (fun c14 => ?_)
  refine J_lload_n (i := 1) (pc := 17) dX3_digest_17 rfl rfl ?_
  refine J_ldc2 (v := 31) (pc := 18) dX3_digest_18 q4_125 ?_
  refine J_lmul (pc := 21) dX3_digest_21 ?_
  refine J_aload_n (i := 0) (pc := 22) dX3_digest_22 rfl rfl ?_
  refine J_iload_n (i := 3) (pc := 23) dX3_digest_23 rfl rfl ?_
  refine J_cVB (st := [.long ((((((((((1699) * (31)) + (((nI (ctS σ 0))).toInt64)) * (31)) + (((nI (ctS σ 1))).toInt64)) * (31)) + (((nI (ctS σ 2))).toInt64)) * (31)) + (((nI (ctS σ 3))).toInt64)) * (31))]) (As := [.int (nI (4))]) (v := some (.int (nI (ctS σ 4)))) (ca1 := 2 * cnt σ.1.2.1) (sa1 := 6 * cnt σ.1.2.1) (ca2 := σ.2.1.1 * (cnt (gro σ.1) + cnt σ.1.2.1)) (sa2 := 3 * (σ.2.1.1 * (cnt (gro σ.1) + cnt σ.1.2.1))) (pc := 24) dX3_digest_24 okX3_counted q4_89 q4_91 qs3_0 (rfl : vwCl[3]? = some _) H_38 rfl (Nat.le_of_ble_eq_true rfl) (Nat.le_of_ble_eq_true rfl) (m_counted4 (dd := dd + 8) H_46) (by omega) (by omega) (fun h_47 q_48 => ?_)
  have zh_47 := q_48.1
  have H_49 : h_47.2 (53) = some (oB 3 [.int (nI (0)), .int (nI (σ.1.1)), .ref (54), .ref (55), .int (nI (σ.1.2.1)), .int (nI (σ.2.1.2.1)), .int (nI (σ.2.1.2.2)), .int (nI (σ.2.1.1)), .ref (56), .ref (57), .ref (58)]) := (q_48.2 _ (by omega)).trans H_38
  have H_50 : h_47.2 (54) = some (aI (60) (mf)) := (q_48.2 _ (by omega)).trans H_39
  have H_51 : h_47.2 (55) = some (aI (20) (sf)) := (q_48.2 _ (by omega)).trans H_40
  have H_52 : h_47.2 (56) = some (aG (5) (rf)) := (q_48.2 _ (by omega)).trans H_41
  have H_53 : h_47.2 (57) = some (aI (5) (pf)) := (q_48.2 _ (by omega)).trans H_42
  have H_54 : h_47.2 (58) = some (aI (5) (lf)) := (q_48.2 _ (by omega)).trans H_43
  have H_55 : Ext h_1 h_47 := Ext_tr H_44 q_48
  have H_56 : MS h_47 σ.1 := MS_ext q_48 (by omega) H_45
  have H_57 : MP h_47 σ ρ (nI 0) := MP_ext q_48 H_46
  refine J_i2l (pc := 27) dX3_digest_27 ?_
  refine J_ladd (pc := 28) dX3_digest_28 ?_
  refine J_lstore_n (i := 1) (lv' := [(1, .long (((((((((((1699) * (31)) + (((nI (ctS σ 0))).toInt64)) * (31)) + (((nI (ctS σ 1))).toInt64)) * (31)) + (((nI (ctS σ 2))).toInt64)) * (31)) + (((nI (ctS σ 3))).toInt64)) * (31)) + (((nI (ctS σ 4))).toInt64))), (3, .int (nI (4))), (0, .ref (53))]) (pc := 29) dX3_digest_29 rfl (by decide) rfl ?_
  refine J_iinc (i := 3) (v := nI (5)) (lv' := [(3, .int (nI (5))), (1, .long (((((((((((1699) * (31)) + (((nI (ctS σ 0))).toInt64)) * (31)) + (((nI (ctS σ 1))).toInt64)) * (31)) + (((nI (ctS σ 2))).toInt64)) * (31)) + (((nI (ctS σ 3))).toInt64)) * (31)) + (((nI (ctS σ 4))).toInt64))), (0, .ref (53))]) (pc := 30) dX3_digest_30 rfl rfl (by decide) rfl ?_
  refine J_goto (tgt := 11) (pc := 33) dX3_digest_33 (by decide) ?_
  refine J_iload_n (i := 3) (pc := 11) dX3_digest_11 rfl rfl ?_
  refine J_bipush (v := nI (7)) (pc := 12) dX3_digest_12 rfl ?_
  refine J_icmp_geN (tgt := 36) (pc := 14) dX3_digest_14 (by decide) (by omega) (by omega) (fun c14 => by exfalso; first | omega | simp_all) (fun c14 => ?_)
  refine J_lload_n (i := 1) (pc := 17) dX3_digest_17 rfl rfl ?_
  refine J_ldc2 (v := 31) (pc := 18) dX3_digest_18 q4_125 ?_
  refine J_lmul (pc := 21) dX3_digest_21 ?_
  refine J_aload_n (i := 0) (pc := 22) dX3_digest_22 rfl rfl ?_
  refine J_iload_n (i := 3) (pc := 23) dX3_digest_23 rfl rfl ?_
  refine J_cVB (st := [.long ((((((((((((1699) * (31)) + (((nI (ctS σ 0))).toInt64)) * (31)) + (((nI (ctS σ 1))).toInt64)) * (31)) + (((nI (ctS σ 2))).toInt64)) * (31)) + (((nI (ctS σ 3))).toInt64)) * (31)) + (((nI (ctS σ 4))).toInt64)) * (31))]) (As := [.int (nI (5))]) (v := some (.int (nI (ctS σ 5)))) (ca1 := 0) (sa1 := 0) (ca2 := σ.2.1.1 * (cnt (gro σ.1) + cnt σ.1.2.1)) (sa2 := 3 * (σ.2.1.1 * (cnt (gro σ.1) + cnt σ.1.2.1))) (pc := 24) dX3_digest_24 okX3_counted q4_89 q4_91 qs3_0 (rfl : vwCl[3]? = some _) H_49 rfl (Nat.le_of_ble_eq_true rfl) (Nat.le_of_ble_eq_true rfl) (m_counted5 (dd := dd + 8) H_57) (by omega) (by omega) (fun h_58 q_59 => ?_)
  have zh_58 := q_59.1
  have H_60 : h_58.2 (53) = some (oB 3 [.int (nI (0)), .int (nI (σ.1.1)), .ref (54), .ref (55), .int (nI (σ.1.2.1)), .int (nI (σ.2.1.2.1)), .int (nI (σ.2.1.2.2)), .int (nI (σ.2.1.1)), .ref (56), .ref (57), .ref (58)]) := (q_59.2 _ (by omega)).trans H_49
  have H_61 : h_58.2 (54) = some (aI (60) (mf)) := (q_59.2 _ (by omega)).trans H_50
  have H_62 : h_58.2 (55) = some (aI (20) (sf)) := (q_59.2 _ (by omega)).trans H_51
  have H_63 : h_58.2 (56) = some (aG (5) (rf)) := (q_59.2 _ (by omega)).trans H_52
  have H_64 : h_58.2 (57) = some (aI (5) (pf)) := (q_59.2 _ (by omega)).trans H_53
  have H_65 : h_58.2 (58) = some (aI (5) (lf)) := (q_59.2 _ (by omega)).trans H_54
  have H_66 : Ext h_1 h_58 := Ext_tr H_55 q_59
  have H_67 : MS h_58 σ.1 := MS_ext q_59 (by omega) H_56
  have H_68 : MP h_58 σ ρ (nI 0) := MP_ext q_59 H_57
  refine J_i2l (pc := 27) dX3_digest_27 ?_
  refine J_ladd (pc := 28) dX3_digest_28 ?_
  refine J_lstore_n (i := 1) (lv' := [(1, .long (((((((((((((1699) * (31)) + (((nI (ctS σ 0))).toInt64)) * (31)) + (((nI (ctS σ 1))).toInt64)) * (31)) + (((nI (ctS σ 2))).toInt64)) * (31)) + (((nI (ctS σ 3))).toInt64)) * (31)) + (((nI (ctS σ 4))).toInt64)) * (31)) + (((nI (ctS σ 5))).toInt64))), (3, .int (nI (5))), (0, .ref (53))]) (pc := 29) dX3_digest_29 rfl (by decide) rfl ?_
  refine J_iinc (i := 3) (v := nI (6)) (lv' := [(3, .int (nI (6))), (1, .long (((((((((((((1699) * (31)) + (((nI (ctS σ 0))).toInt64)) * (31)) + (((nI (ctS σ 1))).toInt64)) * (31)) + (((nI (ctS σ 2))).toInt64)) * (31)) + (((nI (ctS σ 3))).toInt64)) * (31)) + (((nI (ctS σ 4))).toInt64)) * (31)) + (((nI (ctS σ 5))).toInt64))), (0, .ref (53))]) (pc := 30) dX3_digest_30 rfl rfl (by decide) rfl ?_
  refine J_goto (tgt := 11) (pc := 33) dX3_digest_33 (by decide) ?_
  refine J_iload_n (i := 3) (pc := 11) dX3_digest_11 rfl rfl ?_
  refine J_bipush (v := nI (7)) (pc := 12) dX3_digest_12 rfl ?_
  refine J_icmp_geN (tgt := 36) (pc := 14) dX3_digest_14 (by decide) (by omega) (by omega) (fun c14 => by exfalso; first | omega | simp_all) (fun c14 => ?_)
  refine J_lload_n (i := 1) (pc := 17) dX3_digest_17 rfl rfl ?_
  refine J_ldc2 (v := 31) (pc := 18) dX3_digest_18 q4_125 ?_
  refine J_lmul (pc := 21) dX3_digest_21 ?_
  refine J_aload_n (i := 0) (pc := 22) dX3_digest_22 rfl rfl ?_
  refine J_iload_n (i := 3) (pc := 23) dX3_digest_23 rfl rfl ?_
  refine J_cVB (st := [.long ((((((((((((((1699) * (31)) + (((nI (ctS σ 0))).toInt64)) * (31)) + (((nI (ctS σ 1))).toInt64)) * (31)) + (((nI (ctS σ 2))).toInt64)) * (31)) + (((nI (ctS σ 3))).toInt64)) * (31)) + (((nI (ctS σ 4))).toInt64)) * (31)) + (((nI (ctS σ 5))).toInt64)) * (31))]) (As := [.int (nI (6))]) (v := some (.int (nI (ctS σ 6)))) (ca1 := 0) (sa1 := 0) (ca2 := σ.2.1.1 * (cnt (gro σ.1) + cnt σ.1.2.1)) (sa2 := 3 * (σ.2.1.1 * (cnt (gro σ.1) + cnt σ.1.2.1))) (pc := 24) dX3_digest_24 okX3_counted q4_89 q4_91 qs3_0 (rfl : vwCl[3]? = some _) H_60 rfl (Nat.le_of_ble_eq_true rfl) (Nat.le_of_ble_eq_true rfl) (m_counted6 (dd := dd + 8) H_68) (by omega) (by omega) (fun h_69 q_70 => ?_)
  have zh_69 := q_70.1
  have H_71 : h_69.2 (53) = some (oB 3 [.int (nI (0)), .int (nI (σ.1.1)), .ref (54), .ref (55), .int (nI (σ.1.2.1)), .int (nI (σ.2.1.2.1)), .int (nI (σ.2.1.2.2)), .int (nI (σ.2.1.1)), .ref (56), .ref (57), .ref (58)]) := (q_70.2 _ (by omega)).trans H_60
  have H_72 : h_69.2 (54) = some (aI (60) (mf)) := (q_70.2 _ (by omega)).trans H_61
  have H_73 : h_69.2 (55) = some (aI (20) (sf)) := (q_70.2 _ (by omega)).trans H_62
  have H_74 : h_69.2 (56) = some (aG (5) (rf)) := (q_70.2 _ (by omega)).trans H_63
  have H_75 : h_69.2 (57) = some (aI (5) (pf)) := (q_70.2 _ (by omega)).trans H_64
  have H_76 : h_69.2 (58) = some (aI (5) (lf)) := (q_70.2 _ (by omega)).trans H_65
  have H_77 : Ext h_1 h_69 := Ext_tr H_66 q_70
  have H_78 : MS h_69 σ.1 := MS_ext q_70 (by omega) H_67
  have H_79 : MP h_69 σ ρ (nI 0) := MP_ext q_70 H_68
  refine J_i2l (pc := 27) dX3_digest_27 ?_
  refine J_ladd (pc := 28) dX3_digest_28 ?_
  refine J_lstore_n (i := 1) (lv' := [(1, .long (((((((((((((((1699) * (31)) + (((nI (ctS σ 0))).toInt64)) * (31)) + (((nI (ctS σ 1))).toInt64)) * (31)) + (((nI (ctS σ 2))).toInt64)) * (31)) + (((nI (ctS σ 3))).toInt64)) * (31)) + (((nI (ctS σ 4))).toInt64)) * (31)) + (((nI (ctS σ 5))).toInt64)) * (31)) + (((nI (ctS σ 6))).toInt64))), (3, .int (nI (6))), (0, .ref (53))]) (pc := 29) dX3_digest_29 rfl (by decide) rfl ?_
  refine J_iinc (i := 3) (v := nI (7)) (lv' := [(3, .int (nI (7))), (1, .long (((((((((((((((1699) * (31)) + (((nI (ctS σ 0))).toInt64)) * (31)) + (((nI (ctS σ 1))).toInt64)) * (31)) + (((nI (ctS σ 2))).toInt64)) * (31)) + (((nI (ctS σ 3))).toInt64)) * (31)) + (((nI (ctS σ 4))).toInt64)) * (31)) + (((nI (ctS σ 5))).toInt64)) * (31)) + (((nI (ctS σ 6))).toInt64))), (0, .ref (53))]) (pc := 30) dX3_digest_30 rfl rfl (by decide) rfl ?_
  refine J_goto (tgt := 11) (pc := 33) dX3_digest_33 (by decide) ?_
  refine J_iload_n (i := 3) (pc := 11) dX3_digest_11 rfl rfl ?_
  refine J_bipush (v := nI (7)) (pc := 12) dX3_digest_12 rfl ?_
  refine J_icmp_geN (tgt := 36) (pc := 14) dX3_digest_14 (by decide) (by omega) (by omega) (fun c14 => ?_) (fun c14 => by exfalso; first | omega | simp_all)
  refine J_iconst (v := nI (0)) (pc := 36) dX3_digest_36 rfl ?_
  refine J_istore_n (i := 3) (lv' := [(3, .int (nI (0))), (1, .long (((((((((((((((1699) * (31)) + (((nI (ctS σ 0))).toInt64)) * (31)) + (((nI (ctS σ 1))).toInt64)) * (31)) + (((nI (ctS σ 2))).toInt64)) * (31)) + (((nI (ctS σ 3))).toInt64)) * (31)) + (((nI (ctS σ 4))).toInt64)) * (31)) + (((nI (ctS σ 5))).toInt64)) * (31)) + (((nI (ctS σ 6))).toInt64))), (0, .ref (53))]) (pc := 37) dX3_digest_37 rfl (by decide) rfl ?_
  refine J_sub (lv' := [(3, .int (nI (0))), (1, .long (((((((((((((((1699) * (31)) + (((nI (ctS σ 0))).toInt64)) * (31)) + (((nI (ctS σ 1))).toInt64)) * (31)) + (((nI (ctS σ 2))).toInt64)) * (31)) + (((nI (ctS σ 3))).toInt64)) * (31)) + (((nI (ctS σ 4))).toInt64)) * (31)) + (((nI (ctS σ 5))).toInt64)) * (31)) + (((nI (ctS σ 6))).toInt64))), (0, .ref (53))]) [0, 1, 2] rfl ?_
  exact mdb_loop H_79 (fun h' x9 => ⟨rfl, FM_tr fm1 (FM_ext (by omega) (Ext_tr H_77 x9)), ρ, MP_ext (Ext_tr H_77 x9) hP1⟩) σ.1.1 0 _ (Nat.zero_add _) rfl

