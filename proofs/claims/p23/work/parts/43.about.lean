-- the grove: what is told of a tree; what would be; advice; the mean; pruning
def abS (σ : ST) (j w : Nat) : Int32 :=
  if w = 0 then nI (nN 5 (σ.2.2.1 j)) else if w = 1 then nI (lvT 5 (σ.2.2.1 j)) else if w = 2 then nI (dpT 5 (σ.2.2.1 j)) else if w = 3 then nI (rgT σ.1 5 (σ.2.2.1 j) (gro σ.1)) else if w = 4 then nI (rgT σ.1 5 (σ.2.2.1 j) σ.1.2.1) else if w = 5 then σ.2.2.2.1 j else σ.2.2.2.2 j
theorem GP_right {h h' : MH} {σ : ST} {π : Nat → Nat} {j : Nat} (hG : GP h σ π) (hj : j < σ.2.1.1) {cf sf gf df mf rf : Nat → Int32} (k : Fr (π j + 5) (π j + 5) h h') (hT : TO h' (π j) (nI (nN 5 (σ.2.2.1 j))) (σ.2.2.2.1 j) (σ.2.2.2.2 j) cf sf gf df mf rf) (hK : Blk (G4 cf sf gf df) 0 5 0 (σ.2.2.1 j)) : Fr 1 52 h h' ∧ GP h' σ π := by
  have h5 := hG.2.1.1
  have hp := GP_tr hG (show j < 5 by omega)
  exact ⟨Fr_up k (by omega) (by omega), GP_same hj (Fr_up k (by omega) (by omega)) ⟨_, _, _, _, _, _, hT, hK⟩ hG⟩

set_option maxHeartbeats 2000000 in
set_option maxRecDepth 20000 in
theorem c_about0 {g : GT} {d : Nat} {h : MH} {σ : ST} {π : Nat → Nat} (hG : GP h σ π) {j : Nat} (hj : j < σ.2.1.1) : J g (d + 3) 0 0 mX2_about 0 (lv_args 0 [.ref 1, .int (nI (j)), .int (nI (0))]) [] h (RH (abS σ j 0) (fun h' => Fr 1 52 h h' ∧ GP h' σ π)) := by
  obtain ⟨g1, g2, g3, g4, ⟨tf, g5, g5b⟩, g6, g7, g8⟩ := id hG
  obtain ⟨o1, o2, o3, o4⟩ := id g2
  have hB := g1
  have b9 := BH_2 g1
  obtain ⟨hn, hc9, hm5, hs2⟩ := id g1.1
  have hp9 := pw_le hn
  have hj5 : j < 5 := by omega
  obtain ⟨cf, sf, gf, df, mf, rf, hT, hK⟩ := g8 j hj
  obtain ⟨okj, n39⟩ := o4 j hj
  have n1 := nN_pos 5 (σ.2.2.1 j)
  obtain ⟨p18, p46, fs, hfs⟩ := GP_tr hG hj5
  have hR : ∀ p, p < nN 5 (σ.2.2.1 j) → G4 cf sf gf df p = E4 (rowT 5 0 (σ.2.2.1 j) p) := fun p hp => by have r := hK p hp; rw [Nat.zero_add] at r; exact r
  have hgr := gro_lt hB.1
  refine J_aload_n (i := 0) (pc := 0) dX2_about_0 rfl rfl ?_
  refine J_iload_n (i := 1) (pc := 1) dX2_about_1 rfl rfl ?_
  refine J_cVi (st := []) (As := [.int (nI (j))]) (pc := 2) dX2_about_2 okX2_isTree q1_233 q1_235 qs1_6 (rfl : vwCl[2]? = some _) g4 rfl (Nat.le_of_ble_eq_true rfl) (Nat.le_of_ble_eq_true rfl) (c_isTreeT hG hj) ?_
  refine J_if_neN (tgt := 18) (pc := 5) dX2_about_5 (by decide) (by omega) (fun c5 => ?_) (fun c5 => by exfalso; first | omega | simp_all)
  refine J_iload_n (i := 2) (pc := 18) dX2_about_18 rfl rfl ?_
  refine J_if_lt (tgt := 28) (pc := 19) dX2_about_19 (by decide) (fun c19 => absurd c19 (nI_pos (by decide))) (fun c19 => ?_)
  refine J_iload_n (i := 2) (pc := 22) dX2_about_22 rfl rfl ?_
  refine J_bipush (v := nI (6)) (pc := 23) dX2_about_23 rfl ?_
  refine J_icmp_leN (tgt := 38) (pc := 25) dX2_about_25 (by decide) (by omega) (by omega) (fun c25 => ?_) (fun c25 => by exfalso; first | omega | simp_all)
  refine J_aload_n (i := 0) (pc := 38) dX2_about_38 rfl rfl ?_
  refine J_getf (k := 1) (pc := 39) dX2_about_39 flX2_18 g4 rfl ?_
  refine J_iload_n (i := 1) (pc := 42) dX2_about_42 rfl rfl ?_
  refine J_aald (j := j) (b := π j) (pc := 43) dX2_about_43 (by decide) g5 rfl (by omega) (by omega) (g5b j hj5) ?_
  refine J_astore_n (i := 3) (lv' := [(3, .ref (π j)), (0, .ref (1)), (1, .int (nI (j))), (2, .int (nI (0)))]) (pc := 44) dX2_about_44 rfl (by decide) rfl ?_
  refine J_iload_n (i := 2) (pc := 45) dX2_about_45 rfl rfl ?_
  refine J_tableIn (off := 38) (tgt := 84) (pc := 46) dX2_about_46 (by decide) (by decide) (by decide +kernel) (by decide) ?_
  refine J_aload_n (i := 3) (pc := 84) dX2_about_84 rfl rfl ?_
  refine J_cVi (st := []) (As := []) (pc := 85) dX2_about_85 okX1_howManyNodes q2_68 q2_69 q2_70 (rfl : vwCl[1]? = some _) hfs rfl (Nat.le_of_ble_eq_true rfl) (Nat.le_of_ble_eq_true rfl) (c_howManyNodes (p := 0) hT n39) ?_
  refine J_iret (ty := .int) (pc := 88) dX2_about_88 rfl rfl ?_
  exact ⟨rfl, Fr_rfl, hG⟩

set_option maxHeartbeats 2000000 in
set_option maxRecDepth 20000 in
theorem c_about1 {g : GT} {d : Nat} {h : MH} {σ : ST} {π : Nat → Nat} (hG : GP h σ π) {j : Nat} (hj : j < σ.2.1.1) : J g (d + 3) 0 0 mX2_about 0 (lv_args 0 [.ref 1, .int (nI (j)), .int (nI (1))]) [] h (RH (abS σ j 1) (fun h' => Fr 1 52 h h' ∧ GP h' σ π)) := by
  obtain ⟨g1, g2, g3, g4, ⟨tf, g5, g5b⟩, g6, g7, g8⟩ := id hG
  obtain ⟨o1, o2, o3, o4⟩ := id g2
  have hB := g1
  have b9 := BH_2 g1
  obtain ⟨hn, hc9, hm5, hs2⟩ := id g1.1
  have hp9 := pw_le hn
  have hj5 : j < 5 := by omega
  obtain ⟨cf, sf, gf, df, mf, rf, hT, hK⟩ := g8 j hj
  obtain ⟨okj, n39⟩ := o4 j hj
  have n1 := nN_pos 5 (σ.2.2.1 j)
  obtain ⟨p18, p46, fs, hfs⟩ := GP_tr hG hj5
  have hR : ∀ p, p < nN 5 (σ.2.2.1 j) → G4 cf sf gf df p = E4 (rowT 5 0 (σ.2.2.1 j) p) := fun p hp => by have r := hK p hp; rw [Nat.zero_add] at r; exact r
  have hgr := gro_lt hB.1
  refine J_aload_n (i := 0) (pc := 0) dX2_about_0 rfl rfl ?_
  refine J_iload_n (i := 1) (pc := 1) dX2_about_1 rfl rfl ?_
  refine J_cVi (st := []) (As := [.int (nI (j))]) (pc := 2) dX2_about_2 okX2_isTree q1_233 q1_235 qs1_6 (rfl : vwCl[2]? = some _) g4 rfl (Nat.le_of_ble_eq_true rfl) (Nat.le_of_ble_eq_true rfl) (c_isTreeT hG hj) ?_
  refine J_if_neN (tgt := 18) (pc := 5) dX2_about_5 (by decide) (by omega) (fun c5 => ?_) (fun c5 => by exfalso; first | omega | simp_all)
  refine J_iload_n (i := 2) (pc := 18) dX2_about_18 rfl rfl ?_
  refine J_if_lt (tgt := 28) (pc := 19) dX2_about_19 (by decide) (fun c19 => absurd c19 (nI_pos (by decide))) (fun c19 => ?_)
  refine J_iload_n (i := 2) (pc := 22) dX2_about_22 rfl rfl ?_
  refine J_bipush (v := nI (6)) (pc := 23) dX2_about_23 rfl ?_
  refine J_icmp_leN (tgt := 38) (pc := 25) dX2_about_25 (by decide) (by omega) (by omega) (fun c25 => ?_) (fun c25 => by exfalso; first | omega | simp_all)
  refine J_aload_n (i := 0) (pc := 38) dX2_about_38 rfl rfl ?_
  refine J_getf (k := 1) (pc := 39) dX2_about_39 flX2_18 g4 rfl ?_
  refine J_iload_n (i := 1) (pc := 42) dX2_about_42 rfl rfl ?_
  refine J_aald (j := j) (b := π j) (pc := 43) dX2_about_43 (by decide) g5 rfl (by omega) (by omega) (g5b j hj5) ?_
  refine J_astore_n (i := 3) (lv' := [(3, .ref (π j)), (0, .ref (1)), (1, .int (nI (j))), (2, .int (nI (1)))]) (pc := 44) dX2_about_44 rfl (by decide) rfl ?_
  refine J_iload_n (i := 2) (pc := 45) dX2_about_45 rfl rfl ?_
  refine J_tableIn (off := 43) (tgt := 89) (pc := 46) dX2_about_46 (by decide) (by decide) (by decide +kernel) (by decide) ?_
  refine J_aload_n (i := 3) (pc := 89) dX2_about_89 rfl rfl ?_
  refine J_cVi (st := []) (As := []) (pc := 90) dX2_about_90 okX1_howManyLeaves q2_72 q2_73 q2_74 (rfl : vwCl[1]? = some _) hfs rfl (Nat.le_of_ble_eq_true rfl) (Nat.le_of_ble_eq_true rfl) ((by have r := c_howManyLeaves (g := g) (dd := d + 2) hT n39 (R := fun p => if p < nN 5 (σ.2.2.1 j) then (rowT 5 0 (σ.2.2.1 j) p).1 else none) (fun p n e => by by_cases q : p < nN 5 (σ.2.2.1 j); (· rw [if_pos q] at e; have := (ok_row 5 0 (σ.2.2.1 j) p okj q).1 n e; omega); (· rw [if_neg q] at e; cases e)) (fun p hp => by rw [if_pos hp]; exact congrArg (fun q : Q4 => q.1) (hR p hp)); rw [lv_sum 5 0 (σ.2.2.1 j) 0 _ (fun q hq => by rw [Nat.zero_add, if_pos hq])] at r; exact r)) ?_
  refine J_iret (ty := .int) (pc := 93) dX2_about_93 rfl rfl ?_
  exact ⟨rfl, Fr_rfl, hG⟩

set_option maxHeartbeats 2000000 in
set_option maxRecDepth 20000 in
theorem c_about2 {g : GT} {d : Nat} {h : MH} {σ : ST} {π : Nat → Nat} (hG : GP h σ π) {j : Nat} (hj : j < σ.2.1.1) : J g (d + 3) 0 0 mX2_about 0 (lv_args 0 [.ref 1, .int (nI (j)), .int (nI (2))]) [] h (RH (abS σ j 2) (fun h' => Fr 1 52 h h' ∧ GP h' σ π)) := by
  obtain ⟨g1, g2, g3, g4, ⟨tf, g5, g5b⟩, g6, g7, g8⟩ := id hG
  obtain ⟨o1, o2, o3, o4⟩ := id g2
  have hB := g1
  have b9 := BH_2 g1
  obtain ⟨hn, hc9, hm5, hs2⟩ := id g1.1
  have hp9 := pw_le hn
  have hj5 : j < 5 := by omega
  obtain ⟨cf, sf, gf, df, mf, rf, hT, hK⟩ := g8 j hj
  obtain ⟨okj, n39⟩ := o4 j hj
  have n1 := nN_pos 5 (σ.2.2.1 j)
  obtain ⟨p18, p46, fs, hfs⟩ := GP_tr hG hj5
  have hR : ∀ p, p < nN 5 (σ.2.2.1 j) → G4 cf sf gf df p = E4 (rowT 5 0 (σ.2.2.1 j) p) := fun p hp => by have r := hK p hp; rw [Nat.zero_add] at r; exact r
  have hgr := gro_lt hB.1
  refine J_aload_n (i := 0) (pc := 0) dX2_about_0 rfl rfl ?_
  refine J_iload_n (i := 1) (pc := 1) dX2_about_1 rfl rfl ?_
  refine J_cVi (st := []) (As := [.int (nI (j))]) (pc := 2) dX2_about_2 okX2_isTree q1_233 q1_235 qs1_6 (rfl : vwCl[2]? = some _) g4 rfl (Nat.le_of_ble_eq_true rfl) (Nat.le_of_ble_eq_true rfl) (c_isTreeT hG hj) ?_
  refine J_if_neN (tgt := 18) (pc := 5) dX2_about_5 (by decide) (by omega) (fun c5 => ?_) (fun c5 => by exfalso; first | omega | simp_all)
  refine J_iload_n (i := 2) (pc := 18) dX2_about_18 rfl rfl ?_
  refine J_if_lt (tgt := 28) (pc := 19) dX2_about_19 (by decide) (fun c19 => absurd c19 (nI_pos (by decide))) (fun c19 => ?_)
  refine J_iload_n (i := 2) (pc := 22) dX2_about_22 rfl rfl ?_
  refine J_bipush (v := nI (6)) (pc := 23) dX2_about_23 rfl ?_
  refine J_icmp_leN (tgt := 38) (pc := 25) dX2_about_25 (by decide) (by omega) (by omega) (fun c25 => ?_) (fun c25 => by exfalso; first | omega | simp_all)
  refine J_aload_n (i := 0) (pc := 38) dX2_about_38 rfl rfl ?_
  refine J_getf (k := 1) (pc := 39) dX2_about_39 flX2_18 g4 rfl ?_
  refine J_iload_n (i := 1) (pc := 42) dX2_about_42 rfl rfl ?_
  refine J_aald (j := j) (b := π j) (pc := 43) dX2_about_43 (by decide) g5 rfl (by omega) (by omega) (g5b j hj5) ?_
  refine J_astore_n (i := 3) (lv' := [(3, .ref (π j)), (0, .ref (1)), (1, .int (nI (j))), (2, .int (nI (2)))]) (pc := 44) dX2_about_44 rfl (by decide) rfl ?_
  refine J_iload_n (i := 2) (pc := 45) dX2_about_45 rfl rfl ?_
  refine J_tableIn (off := 48) (tgt := 94) (pc := 46) dX2_about_46 (by decide) (by decide) (by decide +kernel) (by decide) ?_
  refine J_aload_n (i := 3) (pc := 94) dX2_about_94 rfl rfl ?_
  refine J_cVi (st := []) (As := []) (pc := 95) dX2_about_95 okX1_deepest q2_76 q2_77 q2_78 (rfl : vwCl[1]? = some _) hfs rfl (Nat.le_of_ble_eq_true rfl) (Nat.le_of_ble_eq_true rfl) ((by have r := c_deepest (g := g) (dd := d + 2) hT n39 (R := fun p => (rowT 5 0 (σ.2.2.1 j) p).2.2.2) (fun p hp => by have := (row_dep 5 0 (σ.2.2.1 j) p hp).2.1; omega) (fun p hp => congrArg (fun q : Q4 => q.2.2.2) (hR p hp)); rw [dp_max 5 0 (σ.2.2.1 j) 0 _ (fun q hq => by rw [Nat.zero_add]), Nat.zero_add] at r; exact r)) ?_
  refine J_iret (ty := .int) (pc := 98) dX2_about_98 rfl rfl ?_
  exact ⟨rfl, Fr_rfl, hG⟩

set_option maxHeartbeats 2000000 in
set_option maxRecDepth 20000 in
theorem c_about3 {g : GT} {d : Nat} {h : MH} {σ : ST} {π : Nat → Nat} (hG : GP h σ π) {j : Nat} (hj : j < σ.2.1.1) : J g (d + 3) 0 0 mX2_about 0 (lv_args 0 [.ref 1, .int (nI (j)), .int (nI (3))]) [] h (RH (abS σ j 3) (fun h' => Fr 1 52 h h' ∧ GP h' σ π)) := by
  obtain ⟨g1, g2, g3, g4, ⟨tf, g5, g5b⟩, g6, g7, g8⟩ := id hG
  obtain ⟨o1, o2, o3, o4⟩ := id g2
  have hB := g1
  have b9 := BH_2 g1
  obtain ⟨hn, hc9, hm5, hs2⟩ := id g1.1
  have hp9 := pw_le hn
  have hj5 : j < 5 := by omega
  obtain ⟨cf, sf, gf, df, mf, rf, hT, hK⟩ := g8 j hj
  obtain ⟨okj, n39⟩ := o4 j hj
  have n1 := nN_pos 5 (σ.2.2.1 j)
  obtain ⟨p18, p46, fs, hfs⟩ := GP_tr hG hj5
  have hR : ∀ p, p < nN 5 (σ.2.2.1 j) → G4 cf sf gf df p = E4 (rowT 5 0 (σ.2.2.1 j) p) := fun p hp => by have r := hK p hp; rw [Nat.zero_add] at r; exact r
  have hgr := gro_lt hB.1
  refine J_aload_n (i := 0) (pc := 0) dX2_about_0 rfl rfl ?_
  refine J_iload_n (i := 1) (pc := 1) dX2_about_1 rfl rfl ?_
  refine J_cVi (st := []) (As := [.int (nI (j))]) (pc := 2) dX2_about_2 okX2_isTree q1_233 q1_235 qs1_6 (rfl : vwCl[2]? = some _) g4 rfl (Nat.le_of_ble_eq_true rfl) (Nat.le_of_ble_eq_true rfl) (c_isTreeT hG hj) ?_
  refine J_if_neN (tgt := 18) (pc := 5) dX2_about_5 (by decide) (by omega) (fun c5 => ?_) (fun c5 => by exfalso; first | omega | simp_all)
  refine J_iload_n (i := 2) (pc := 18) dX2_about_18 rfl rfl ?_
  refine J_if_lt (tgt := 28) (pc := 19) dX2_about_19 (by decide) (fun c19 => absurd c19 (nI_pos (by decide))) (fun c19 => ?_)
  refine J_iload_n (i := 2) (pc := 22) dX2_about_22 rfl rfl ?_
  refine J_bipush (v := nI (6)) (pc := 23) dX2_about_23 rfl ?_
  refine J_icmp_leN (tgt := 38) (pc := 25) dX2_about_25 (by decide) (by omega) (by omega) (fun c25 => ?_) (fun c25 => by exfalso; first | omega | simp_all)
  refine J_aload_n (i := 0) (pc := 38) dX2_about_38 rfl rfl ?_
  refine J_getf (k := 1) (pc := 39) dX2_about_39 flX2_18 g4 rfl ?_
  refine J_iload_n (i := 1) (pc := 42) dX2_about_42 rfl rfl ?_
  refine J_aald (j := j) (b := π j) (pc := 43) dX2_about_43 (by decide) g5 rfl (by omega) (by omega) (g5b j hj5) ?_
  refine J_astore_n (i := 3) (lv' := [(3, .ref (π j)), (0, .ref (1)), (1, .int (nI (j))), (2, .int (nI (3)))]) (pc := 44) dX2_about_44 rfl (by decide) rfl ?_
  refine J_iload_n (i := 2) (pc := 45) dX2_about_45 rfl rfl ?_
  refine J_tableIn (off := 53) (tgt := 99) (pc := 46) dX2_about_46 (by decide) (by decide) (by decide +kernel) (by decide) ?_
  refine J_aload_n (i := 3) (pc := 99) dX2_about_99 rfl rfl ?_
  refine J_aload_n (i := 0) (pc := 100) dX2_about_100 rfl rfl ?_
  refine J_getf (k := 0) (pc := 101) dX2_about_101 flX2_12 g4 rfl ?_
  refine J_aload_n (i := 0) (pc := 104) dX2_about_104 rfl rfl ?_
  refine J_getf (k := 0) (pc := 105) dX2_about_105 flX2_12 g4 rfl ?_
  refine J_cVi (st := [.ref (2), .ref (π j)]) (As := []) (pc := 108) dX2_about_108 okX0_growing q2_83 q1_164 q1_165 (rfl : vwCl[0]? = some _) b9 rfl (Nat.le_of_ble_eq_true rfl) (Nat.le_of_ble_eq_true rfl) (c_growing hB) ?_
  refine J_cVh (st := []) (As := [.ref (2), .int (nI (gro σ.1))]) (pc := 111) dX2_about_111 okX1_rightAbout q2_84 q2_85 q2_86 (rfl : vwCl[1]? = some _) hfs rfl (Nat.le_of_ble_eq_true rfl) (Nat.le_of_ble_eq_true rfl) (c_rightAbout hB hT (by omega) n39 hK okj (by decide) rfl (by omega)) (fun h_1 q_2 => ?_)
  refine J_iret (ty := .int) (pc := 114) dX2_about_114 rfl rfl ?_
  obtain ⟨mf2, fr2, hT2⟩ := q_2
  exact ⟨rfl, GP_right hG hj fr2 hT2 hK⟩

set_option maxHeartbeats 2000000 in
set_option maxRecDepth 20000 in
theorem c_about4 {g : GT} {d : Nat} {h : MH} {σ : ST} {π : Nat → Nat} (hG : GP h σ π) {j : Nat} (hj : j < σ.2.1.1) : J g (d + 3) 0 0 mX2_about 0 (lv_args 0 [.ref 1, .int (nI (j)), .int (nI (4))]) [] h (RH (abS σ j 4) (fun h' => Fr 1 52 h h' ∧ GP h' σ π)) := by
  obtain ⟨g1, g2, g3, g4, ⟨tf, g5, g5b⟩, g6, g7, g8⟩ := id hG
  obtain ⟨o1, o2, o3, o4⟩ := id g2
  have hB := g1
  have b9 := BH_2 g1
  obtain ⟨hn, hc9, hm5, hs2⟩ := id g1.1
  have hp9 := pw_le hn
  have hj5 : j < 5 := by omega
  obtain ⟨cf, sf, gf, df, mf, rf, hT, hK⟩ := g8 j hj
  obtain ⟨okj, n39⟩ := o4 j hj
  have n1 := nN_pos 5 (σ.2.2.1 j)
  obtain ⟨p18, p46, fs, hfs⟩ := GP_tr hG hj5
  have hR : ∀ p, p < nN 5 (σ.2.2.1 j) → G4 cf sf gf df p = E4 (rowT 5 0 (σ.2.2.1 j) p) := fun p hp => by have r := hK p hp; rw [Nat.zero_add] at r; exact r
  have hgr := gro_lt hB.1
  refine J_aload_n (i := 0) (pc := 0) dX2_about_0 rfl rfl ?_
  refine J_iload_n (i := 1) (pc := 1) dX2_about_1 rfl rfl ?_
  refine J_cVi (st := []) (As := [.int (nI (j))]) (pc := 2) dX2_about_2 okX2_isTree q1_233 q1_235 qs1_6 (rfl : vwCl[2]? = some _) g4 rfl (Nat.le_of_ble_eq_true rfl) (Nat.le_of_ble_eq_true rfl) (c_isTreeT hG hj) ?_
  refine J_if_neN (tgt := 18) (pc := 5) dX2_about_5 (by decide) (by omega) (fun c5 => ?_) (fun c5 => by exfalso; first | omega | simp_all)
  refine J_iload_n (i := 2) (pc := 18) dX2_about_18 rfl rfl ?_
  refine J_if_lt (tgt := 28) (pc := 19) dX2_about_19 (by decide) (fun c19 => absurd c19 (nI_pos (by decide))) (fun c19 => ?_)
  refine J_iload_n (i := 2) (pc := 22) dX2_about_22 rfl rfl ?_
  refine J_bipush (v := nI (6)) (pc := 23) dX2_about_23 rfl ?_
  refine J_icmp_leN (tgt := 38) (pc := 25) dX2_about_25 (by decide) (by omega) (by omega) (fun c25 => ?_) (fun c25 => by exfalso; first | omega | simp_all)
  refine J_aload_n (i := 0) (pc := 38) dX2_about_38 rfl rfl ?_
  refine J_getf (k := 1) (pc := 39) dX2_about_39 flX2_18 g4 rfl ?_
  refine J_iload_n (i := 1) (pc := 42) dX2_about_42 rfl rfl ?_
  refine J_aald (j := j) (b := π j) (pc := 43) dX2_about_43 (by decide) g5 rfl (by omega) (by omega) (g5b j hj5) ?_
  refine J_astore_n (i := 3) (lv' := [(3, .ref (π j)), (0, .ref (1)), (1, .int (nI (j))), (2, .int (nI (4)))]) (pc := 44) dX2_about_44 rfl (by decide) rfl ?_
  refine J_iload_n (i := 2) (pc := 45) dX2_about_45 rfl rfl ?_
  refine J_tableIn (off := 69) (tgt := 115) (pc := 46) dX2_about_46 (by decide) (by decide) (by decide +kernel) (by decide) ?_
  refine J_aload_n (i := 3) (pc := 115) dX2_about_115 rfl rfl ?_
  refine J_aload_n (i := 0) (pc := 116) dX2_about_116 rfl rfl ?_
  refine J_getf (k := 0) (pc := 117) dX2_about_117 flX2_12 g4 rfl ?_
  refine J_aload_n (i := 0) (pc := 120) dX2_about_120 rfl rfl ?_
  refine J_getf (k := 0) (pc := 121) dX2_about_121 flX2_12 g4 rfl ?_
  refine J_cVi (st := [.ref (2), .ref (π j)]) (As := []) (pc := 124) dX2_about_124 okX0_checks q2_2 q2_3 q2_4 (rfl : vwCl[0]? = some _) b9 rfl (Nat.le_of_ble_eq_true rfl) (Nat.le_of_ble_eq_true rfl) (c_checks hB) ?_
  refine J_cVh (st := []) (As := [.ref (2), .int (nI (σ.1.2.1))]) (pc := 127) dX2_about_127 okX1_rightAbout q2_84 q2_85 q2_86 (rfl : vwCl[1]? = some _) hfs rfl (Nat.le_of_ble_eq_true rfl) (Nat.le_of_ble_eq_true rfl) (c_rightAbout hB hT (by omega) n39 hK okj (by decide) rfl (by omega)) (fun h_1 q_2 => ?_)
  refine J_iret (ty := .int) (pc := 130) dX2_about_130 rfl rfl ?_
  obtain ⟨mf2, fr2, hT2⟩ := q_2
  exact ⟨rfl, GP_right hG hj fr2 hT2 hK⟩

set_option maxHeartbeats 2000000 in
set_option maxRecDepth 20000 in
theorem c_about5 {g : GT} {d : Nat} {h : MH} {σ : ST} {π : Nat → Nat} (hG : GP h σ π) {j : Nat} (hj : j < σ.2.1.1) : J g (d + 3) 0 0 mX2_about 0 (lv_args 0 [.ref 1, .int (nI (j)), .int (nI (5))]) [] h (RH (abS σ j 5) (fun h' => Fr 1 52 h h' ∧ GP h' σ π)) := by
  obtain ⟨g1, g2, g3, g4, ⟨tf, g5, g5b⟩, g6, g7, g8⟩ := id hG
  obtain ⟨o1, o2, o3, o4⟩ := id g2
  have hB := g1
  have b9 := BH_2 g1
  obtain ⟨hn, hc9, hm5, hs2⟩ := id g1.1
  have hp9 := pw_le hn
  have hj5 : j < 5 := by omega
  obtain ⟨cf, sf, gf, df, mf, rf, hT, hK⟩ := g8 j hj
  obtain ⟨okj, n39⟩ := o4 j hj
  have n1 := nN_pos 5 (σ.2.2.1 j)
  obtain ⟨p18, p46, fs, hfs⟩ := GP_tr hG hj5
  have hR : ∀ p, p < nN 5 (σ.2.2.1 j) → G4 cf sf gf df p = E4 (rowT 5 0 (σ.2.2.1 j) p) := fun p hp => by have r := hK p hp; rw [Nat.zero_add] at r; exact r
  have hgr := gro_lt hB.1
  refine J_aload_n (i := 0) (pc := 0) dX2_about_0 rfl rfl ?_
  refine J_iload_n (i := 1) (pc := 1) dX2_about_1 rfl rfl ?_
  refine J_cVi (st := []) (As := [.int (nI (j))]) (pc := 2) dX2_about_2 okX2_isTree q1_233 q1_235 qs1_6 (rfl : vwCl[2]? = some _) g4 rfl (Nat.le_of_ble_eq_true rfl) (Nat.le_of_ble_eq_true rfl) (c_isTreeT hG hj) ?_
  refine J_if_neN (tgt := 18) (pc := 5) dX2_about_5 (by decide) (by omega) (fun c5 => ?_) (fun c5 => by exfalso; first | omega | simp_all)
  refine J_iload_n (i := 2) (pc := 18) dX2_about_18 rfl rfl ?_
  refine J_if_lt (tgt := 28) (pc := 19) dX2_about_19 (by decide) (fun c19 => absurd c19 (nI_pos (by decide))) (fun c19 => ?_)
  refine J_iload_n (i := 2) (pc := 22) dX2_about_22 rfl rfl ?_
  refine J_bipush (v := nI (6)) (pc := 23) dX2_about_23 rfl ?_
  refine J_icmp_leN (tgt := 38) (pc := 25) dX2_about_25 (by decide) (by omega) (by omega) (fun c25 => ?_) (fun c25 => by exfalso; first | omega | simp_all)
  refine J_aload_n (i := 0) (pc := 38) dX2_about_38 rfl rfl ?_
  refine J_getf (k := 1) (pc := 39) dX2_about_39 flX2_18 g4 rfl ?_
  refine J_iload_n (i := 1) (pc := 42) dX2_about_42 rfl rfl ?_
  refine J_aald (j := j) (b := π j) (pc := 43) dX2_about_43 (by decide) g5 rfl (by omega) (by omega) (g5b j hj5) ?_
  refine J_astore_n (i := 3) (lv' := [(3, .ref (π j)), (0, .ref (1)), (1, .int (nI (j))), (2, .int (nI (5)))]) (pc := 44) dX2_about_44 rfl (by decide) rfl ?_
  refine J_iload_n (i := 2) (pc := 45) dX2_about_45 rfl rfl ?_
  refine J_tableIn (off := 85) (tgt := 131) (pc := 46) dX2_about_46 (by decide) (by decide) (by decide +kernel) (by decide) ?_
  refine J_aload_n (i := 3) (pc := 131) dX2_about_131 rfl rfl ?_
  refine J_cVi (st := []) (As := []) (pc := 132) dX2_about_132 okX1_partsTold q2_88 q2_89 q2_90 (rfl : vwCl[1]? = some _) hfs rfl (Nat.le_of_ble_eq_true rfl) (Nat.le_of_ble_eq_true rfl) (c_partsTold (p := 0) hT n39) ?_
  refine J_iret (ty := .int) (pc := 135) dX2_about_135 rfl rfl ?_
  exact ⟨rfl, Fr_rfl, hG⟩

set_option maxHeartbeats 2000000 in
set_option maxRecDepth 20000 in
theorem c_about6 {g : GT} {d : Nat} {h : MH} {σ : ST} {π : Nat → Nat} (hG : GP h σ π) {j : Nat} (hj : j < σ.2.1.1) : J g (d + 3) 0 0 mX2_about 0 (lv_args 0 [.ref 1, .int (nI (j)), .int (nI (6))]) [] h (RH (abS σ j 6) (fun h' => Fr 1 52 h h' ∧ GP h' σ π)) := by
  obtain ⟨g1, g2, g3, g4, ⟨tf, g5, g5b⟩, g6, g7, g8⟩ := id hG
  obtain ⟨o1, o2, o3, o4⟩ := id g2
  have hB := g1
  have b9 := BH_2 g1
  obtain ⟨hn, hc9, hm5, hs2⟩ := id g1.1
  have hp9 := pw_le hn
  have hj5 : j < 5 := by omega
  obtain ⟨cf, sf, gf, df, mf, rf, hT, hK⟩ := g8 j hj
  obtain ⟨okj, n39⟩ := o4 j hj
  have n1 := nN_pos 5 (σ.2.2.1 j)
  obtain ⟨p18, p46, fs, hfs⟩ := GP_tr hG hj5
  have hR : ∀ p, p < nN 5 (σ.2.2.1 j) → G4 cf sf gf df p = E4 (rowT 5 0 (σ.2.2.1 j) p) := fun p hp => by have r := hK p hp; rw [Nat.zero_add] at r; exact r
  have hgr := gro_lt hB.1
  refine J_aload_n (i := 0) (pc := 0) dX2_about_0 rfl rfl ?_
  refine J_iload_n (i := 1) (pc := 1) dX2_about_1 rfl rfl ?_
  refine J_cVi (st := []) (As := [.int (nI (j))]) (pc := 2) dX2_about_2 okX2_isTree q1_233 q1_235 qs1_6 (rfl : vwCl[2]? = some _) g4 rfl (Nat.le_of_ble_eq_true rfl) (Nat.le_of_ble_eq_true rfl) (c_isTreeT hG hj) ?_
  refine J_if_neN (tgt := 18) (pc := 5) dX2_about_5 (by decide) (by omega) (fun c5 => ?_) (fun c5 => by exfalso; first | omega | simp_all)
  refine J_iload_n (i := 2) (pc := 18) dX2_about_18 rfl rfl ?_
  refine J_if_lt (tgt := 28) (pc := 19) dX2_about_19 (by decide) (fun c19 => absurd c19 (nI_pos (by decide))) (fun c19 => ?_)
  refine J_iload_n (i := 2) (pc := 22) dX2_about_22 rfl rfl ?_
  refine J_bipush (v := nI (6)) (pc := 23) dX2_about_23 rfl ?_
  refine J_icmp_leN (tgt := 38) (pc := 25) dX2_about_25 (by decide) (by omega) (by omega) (fun c25 => ?_) (fun c25 => by exfalso; first | omega | simp_all)
  refine J_aload_n (i := 0) (pc := 38) dX2_about_38 rfl rfl ?_
  refine J_getf (k := 1) (pc := 39) dX2_about_39 flX2_18 g4 rfl ?_
  refine J_iload_n (i := 1) (pc := 42) dX2_about_42 rfl rfl ?_
  refine J_aald (j := j) (b := π j) (pc := 43) dX2_about_43 (by decide) g5 rfl (by omega) (by omega) (g5b j hj5) ?_
  refine J_astore_n (i := 3) (lv' := [(3, .ref (π j)), (0, .ref (1)), (1, .int (nI (j))), (2, .int (nI (6)))]) (pc := 44) dX2_about_44 rfl (by decide) rfl ?_
  refine J_iload_n (i := 2) (pc := 45) dX2_about_45 rfl rfl ?_
  refine J_tableOut (tgt := 136) (pc := 46) dX2_about_46 (by decide) (by decide) ?_
  refine J_aload_n (i := 3) (pc := 136) dX2_about_136 rfl rfl ?_
  refine J_cVi (st := []) (As := []) (pc := 137) dX2_about_137 okX1_leftTold q2_92 q2_93 q2_94 (rfl : vwCl[1]? = some _) hfs rfl (Nat.le_of_ble_eq_true rfl) (Nat.le_of_ble_eq_true rfl) (c_leftTold (p := 0) hT n39) ?_
  refine J_iret (ty := .int) (pc := 140) dX2_about_140 rfl rfl ?_
  exact ⟨rfl, Fr_rfl, hG⟩

def wdS (β : BT) (mo le w : Nat) : Nat := if gro β = 0 then 0 else if w = 0 then nN 5 (grT β le 5 mo (gro β)) else if w = 1 then rgT β 5 (grT β le 5 mo (gro β)) (gro β) else rgT β 5 (grT β le 5 mo (gro β)) β.2.1
theorem GP_tri {h h' : MH} {σ : ST} {π : Nat → Nat} {b : Nat} (hG : GP h σ π) (hb : b ≤ 17) (k : Fr 11 b h h') {n pa le : Int32} {cf sf gf df mf rf : Nat → Int32} (hT : TO h' 11 n pa le cf sf gf df mf rf) : Fr 1 52 h h' ∧ GP h' σ π := ⟨Fr_up k (by omega) (by omega), GP_trial (Fr_up k (by omega) (by omega)) ⟨_, _, _, _, _, _, _, _, _, hT⟩ hG⟩

set_option maxHeartbeats 2000000 in
set_option maxRecDepth 20000 in
theorem c_would0 {g : GT} {d : Nat} {h : MH} {σ : ST} {π : Nat → Nat} (hG : GP h σ π) {mo ls : Nat} (hm1 : 1 ≤ mo) (hm : mo ≤ 5) (hl1 : 1 ≤ ls) (hl : ls ≤ 6) (hg0 : gro σ.1 ≠ 0) : J g (d + 6) 0 0 mX2_would 0 (lv_args 0 [.ref 1, .int (nI mo), .int (nI ls), .int (nI 0)]) [] h (RH (nI (wdS σ.1 mo ls 0)) (fun h' => Fr 1 52 h h' ∧ GP h' σ π)) := by
  obtain ⟨g1, g2, g3, g4, ⟨tf, g5, g5b⟩, g6, g7, g8⟩ := id hG
  obtain ⟨o1, o2, o3, o4⟩ := id g2
  have hB := g1
  have b9 := BH_2 g1
  obtain ⟨hn, hc9, hm5, hs2⟩ := id g1.1
  have hp9 := pw_le hn
  obtain ⟨nt, pt, lt, cf, sf, gf, df, mf, rf, hT⟩ := g6
  have hgr := gro_lt hB.1
  have hc1 : 1 ≤ cnt (gro σ.1) := by rcases Nat.eq_zero_or_pos (cnt (gro σ.1)) with e | e; (· exact absurd ((cnt_0 hgr).mp e) hg0); (· exact e)
  refine J_iload_n (i := 1) (pc := 0) dX2_would_0 rfl rfl ?_
  refine J_cSi (st := []) (As := [.int (nI (mo))]) (pc := 1) dX2_would_1 okX2_isDepth q1_110 q1_111 rfl (Nat.le_of_ble_eq_true rfl) (Nat.le_of_ble_eq_true rfl) (c_isDepthT (inZ_nI (by omega) (by omega) (by decide))) ?_
  refine J_if_neN (tgt := 17) (pc := 4) dX2_would_4 (by decide) (by omega) (fun c4 => ?_) (fun c4 => by exfalso; first | omega | simp_all)
  refine J_iload_n (i := 2) (pc := 17) dX2_would_17 rfl rfl ?_
  refine J_cSi (st := []) (As := [.int (nI (ls))]) (pc := 18) dX2_would_18 okX2_isLeast q1_133 q1_134 rfl (Nat.le_of_ble_eq_true rfl) (Nat.le_of_ble_eq_true rfl) (c_isLeastT (inZ_nI (by omega) (by omega) (by decide))) ?_
  refine J_if_neN (tgt := 34) (pc := 21) dX2_would_21 (by decide) (by omega) (fun c21 => ?_) (fun c21 => by exfalso; first | omega | simp_all)
  refine J_iload_n (i := 3) (pc := 34) dX2_would_34 rfl rfl ?_
  refine J_if_lt (tgt := 43) (pc := 35) dX2_would_35 (by decide) (fun c35 => absurd c35 (nI_pos (by decide))) (fun c35 => ?_)
  refine J_iload_n (i := 3) (pc := 38) dX2_would_38 rfl rfl ?_
  refine J_iconst (v := nI (2)) (pc := 39) dX2_would_39 rfl ?_
  refine J_icmp_leN (tgt := 53) (pc := 40) dX2_would_40 (by decide) (by omega) (by omega) (fun c40 => ?_) (fun c40 => by exfalso; first | omega | simp_all)
  refine J_aload_n (i := 0) (pc := 53) dX2_would_53 rfl rfl ?_
  refine J_getf (k := 0) (pc := 54) dX2_would_54 flX2_12 g4 rfl ?_
  refine J_cVi (st := []) (As := []) (pc := 57) dX2_would_57 okX0_growing q2_83 q1_164 q1_165 (rfl : vwCl[0]? = some _) b9 rfl (Nat.le_of_ble_eq_true rfl) (Nat.le_of_ble_eq_true rfl) (c_growing hB) ?_
  refine J_istore (i := 4) (lv' := [(4, .int (nI (gro σ.1))), (0, .ref (1)), (1, .int (nI (mo))), (2, .int (nI (ls))), (3, .int (nI (0)))]) (pc := 60) dX2_would_60 (by decide) rfl ?_
  refine J_iload (i := 4) (pc := 62) dX2_would_62 rfl ?_
  refine J_if_neN (tgt := 69) (pc := 64) dX2_would_64 (by decide) (by omega) (fun c64 => ?_) (fun c64 => absurd c64 (fun q => hg0 q))
  refine J_aload_n (i := 0) (pc := 69) dX2_would_69 rfl rfl ?_
  refine J_getf (k := 2) (pc := 70) dX2_would_70 flX2_23 g4 rfl ?_
  refine J_aload_n (i := 0) (pc := 73) dX2_would_73 rfl rfl ?_
  refine J_getf (k := 0) (pc := 74) dX2_would_74 flX2_12 g4 rfl ?_
  refine J_iload (i := 4) (pc := 77) dX2_would_77 rfl ?_
  refine J_iload_n (i := 1) (pc := 79) dX2_would_79 rfl rfl ?_
  refine J_iload_n (i := 2) (pc := 80) dX2_would_80 rfl rfl ?_
  refine J_cVv (st := []) (As := [.ref (2), .int (nI (gro σ.1)), .int (nI (mo)), .int (nI (ls))]) (pc := 81) dX2_would_81 okX1_grow q1_168 q1_169 q1_170 (rfl : vwCl[1]? = some _) hT.1 rfl (Nat.le_of_ble_eq_true rfl) (Nat.le_of_ble_eq_true rfl) (c_grow (d := 5) hB hT (by decide) (by omega) (by omega) (by omega) (by omega) hgr hc1) (fun h_1 q_2 => ?_)
  obtain ⟨cf2, sf2, gf2, df2, mf2, fr2, hT2, hK2, hN2⟩ := q_2
  have hG2 := GP_tri hG (by decide) fr2 hT2
  obtain ⟨k1, k2, k3, k4, ⟨tf2, k5, k5b⟩, k6, k7, k8⟩ := id hG2.2
  have b92 := BH_2 k1
  refine J_iload_n (i := 3) (pc := 84) dX2_would_84 rfl rfl ?_
  refine J_lookup (off := 27) (tgt := 112) (pc := 85) dX2_would_85 (by decide) (by decide +kernel) (by decide) ?_
  refine J_aload_n (i := 0) (pc := 112) dX2_would_112 rfl rfl ?_
  refine J_getf (k := 2) (pc := 113) dX2_would_113 flX2_23 k4 rfl ?_
  refine J_cVi (st := []) (As := []) (pc := 116) dX2_would_116 okX1_howManyNodes q2_68 q2_69 q2_70 (rfl : vwCl[1]? = some _) hT2.1 rfl (Nat.le_of_ble_eq_true rfl) (Nat.le_of_ble_eq_true rfl) (c_howManyNodes (p := 0) hT2 hN2) ?_
  refine J_iret (ty := .int) (pc := 119) dX2_would_119 rfl rfl ?_
  exact ⟨congrArg (fun z : Nat => (Sum.inl (some (Value.int (nI z))) : RT)) (by unfold wdS; rw [if_neg hg0]; rfl), hG2⟩

set_option maxHeartbeats 2000000 in
set_option maxRecDepth 20000 in
theorem c_would1 {g : GT} {d : Nat} {h : MH} {σ : ST} {π : Nat → Nat} (hG : GP h σ π) {mo ls : Nat} (hm1 : 1 ≤ mo) (hm : mo ≤ 5) (hl1 : 1 ≤ ls) (hl : ls ≤ 6) (hg0 : gro σ.1 ≠ 0) : J g (d + 6) 0 0 mX2_would 0 (lv_args 0 [.ref 1, .int (nI mo), .int (nI ls), .int (nI 1)]) [] h (RH (nI (wdS σ.1 mo ls 1)) (fun h' => Fr 1 52 h h' ∧ GP h' σ π)) := by
  obtain ⟨g1, g2, g3, g4, ⟨tf, g5, g5b⟩, g6, g7, g8⟩ := id hG
  obtain ⟨o1, o2, o3, o4⟩ := id g2
  have hB := g1
  have b9 := BH_2 g1
  obtain ⟨hn, hc9, hm5, hs2⟩ := id g1.1
  have hp9 := pw_le hn
  obtain ⟨nt, pt, lt, cf, sf, gf, df, mf, rf, hT⟩ := g6
  have hgr := gro_lt hB.1
  have hc1 : 1 ≤ cnt (gro σ.1) := by rcases Nat.eq_zero_or_pos (cnt (gro σ.1)) with e | e; (· exact absurd ((cnt_0 hgr).mp e) hg0); (· exact e)
  refine J_iload_n (i := 1) (pc := 0) dX2_would_0 rfl rfl ?_
  refine J_cSi (st := []) (As := [.int (nI (mo))]) (pc := 1) dX2_would_1 okX2_isDepth q1_110 q1_111 rfl (Nat.le_of_ble_eq_true rfl) (Nat.le_of_ble_eq_true rfl) (c_isDepthT (inZ_nI (by omega) (by omega) (by decide))) ?_
  refine J_if_neN (tgt := 17) (pc := 4) dX2_would_4 (by decide) (by omega) (fun c4 => ?_) (fun c4 => by exfalso; first | omega | simp_all)
  refine J_iload_n (i := 2) (pc := 17) dX2_would_17 rfl rfl ?_
  refine J_cSi (st := []) (As := [.int (nI (ls))]) (pc := 18) dX2_would_18 okX2_isLeast q1_133 q1_134 rfl (Nat.le_of_ble_eq_true rfl) (Nat.le_of_ble_eq_true rfl) (c_isLeastT (inZ_nI (by omega) (by omega) (by decide))) ?_
  refine J_if_neN (tgt := 34) (pc := 21) dX2_would_21 (by decide) (by omega) (fun c21 => ?_) (fun c21 => by exfalso; first | omega | simp_all)
  refine J_iload_n (i := 3) (pc := 34) dX2_would_34 rfl rfl ?_
  refine J_if_lt (tgt := 43) (pc := 35) dX2_would_35 (by decide) (fun c35 => absurd c35 (nI_pos (by decide))) (fun c35 => ?_)
  refine J_iload_n (i := 3) (pc := 38) dX2_would_38 rfl rfl ?_
  refine J_iconst (v := nI (2)) (pc := 39) dX2_would_39 rfl ?_
  refine J_icmp_leN (tgt := 53) (pc := 40) dX2_would_40 (by decide) (by omega) (by omega) (fun c40 => ?_) (fun c40 => by exfalso; first | omega | simp_all)
  refine J_aload_n (i := 0) (pc := 53) dX2_would_53 rfl rfl ?_
  refine J_getf (k := 0) (pc := 54) dX2_would_54 flX2_12 g4 rfl ?_
  refine J_cVi (st := []) (As := []) (pc := 57) dX2_would_57 okX0_growing q2_83 q1_164 q1_165 (rfl : vwCl[0]? = some _) b9 rfl (Nat.le_of_ble_eq_true rfl) (Nat.le_of_ble_eq_true rfl) (c_growing hB) ?_
  refine J_istore (i := 4) (lv' := [(4, .int (nI (gro σ.1))), (0, .ref (1)), (1, .int (nI (mo))), (2, .int (nI (ls))), (3, .int (nI (1)))]) (pc := 60) dX2_would_60 (by decide) rfl ?_
  refine J_iload (i := 4) (pc := 62) dX2_would_62 rfl ?_
  refine J_if_neN (tgt := 69) (pc := 64) dX2_would_64 (by decide) (by omega) (fun c64 => ?_) (fun c64 => absurd c64 (fun q => hg0 q))
  refine J_aload_n (i := 0) (pc := 69) dX2_would_69 rfl rfl ?_
  refine J_getf (k := 2) (pc := 70) dX2_would_70 flX2_23 g4 rfl ?_
  refine J_aload_n (i := 0) (pc := 73) dX2_would_73 rfl rfl ?_
  refine J_getf (k := 0) (pc := 74) dX2_would_74 flX2_12 g4 rfl ?_
  refine J_iload (i := 4) (pc := 77) dX2_would_77 rfl ?_
  refine J_iload_n (i := 1) (pc := 79) dX2_would_79 rfl rfl ?_
  refine J_iload_n (i := 2) (pc := 80) dX2_would_80 rfl rfl ?_
  refine J_cVv (st := []) (As := [.ref (2), .int (nI (gro σ.1)), .int (nI (mo)), .int (nI (ls))]) (pc := 81) dX2_would_81 okX1_grow q1_168 q1_169 q1_170 (rfl : vwCl[1]? = some _) hT.1 rfl (Nat.le_of_ble_eq_true rfl) (Nat.le_of_ble_eq_true rfl) (c_grow (d := 5) hB hT (by decide) (by omega) (by omega) (by omega) (by omega) hgr hc1) (fun h_1 q_2 => ?_)
  obtain ⟨cf2, sf2, gf2, df2, mf2, fr2, hT2, hK2, hN2⟩ := q_2
  have hG2 := GP_tri hG (by decide) fr2 hT2
  obtain ⟨k1, k2, k3, k4, ⟨tf2, k5, k5b⟩, k6, k7, k8⟩ := id hG2.2
  have b92 := BH_2 k1
  refine J_iload_n (i := 3) (pc := 84) dX2_would_84 rfl rfl ?_
  refine J_lookup (off := 35) (tgt := 120) (pc := 85) dX2_would_85 (by decide) (by decide +kernel) (by decide) ?_
  refine J_aload_n (i := 0) (pc := 120) dX2_would_120 rfl rfl ?_
  refine J_getf (k := 2) (pc := 121) dX2_would_121 flX2_23 k4 rfl ?_
  refine J_aload_n (i := 0) (pc := 124) dX2_would_124 rfl rfl ?_
  refine J_getf (k := 0) (pc := 125) dX2_would_125 flX2_12 k4 rfl ?_
  refine J_iload (i := 4) (pc := 128) dX2_would_128 rfl ?_
  refine J_cVh (st := []) (As := [.ref (2), .int (nI (gro σ.1))]) (pc := 130) dX2_would_130 okX1_rightAbout q2_84 q2_85 q2_86 (rfl : vwCl[1]? = some _) hT2.1 rfl (Nat.le_of_ble_eq_true rfl) (Nat.le_of_ble_eq_true rfl) (c_rightAbout k1 hT2 (by decide) hN2 hK2 (ok_gr σ.1 ls 5 mo _) (by decide) rfl (by omega)) (fun h_3 q_4 => ?_)
  refine J_iret (ty := .int) (pc := 133) dX2_would_133 rfl rfl ?_
  obtain ⟨mf3, fr3, hT3⟩ := q_4
  have hG3 := GP_tri hG2.2 (by decide) (Fr_up fr3 (by decide) (Nat.le_refl _)) hT3
  exact ⟨congrArg (fun z : Nat => (Sum.inl (some (Value.int (nI z))) : RT)) (by unfold wdS; rw [if_neg hg0]; rfl), Fr_tr hG2.1 hG3.1, hG3.2⟩

set_option maxHeartbeats 2000000 in
set_option maxRecDepth 20000 in
theorem c_would2 {g : GT} {d : Nat} {h : MH} {σ : ST} {π : Nat → Nat} (hG : GP h σ π) {mo ls : Nat} (hm1 : 1 ≤ mo) (hm : mo ≤ 5) (hl1 : 1 ≤ ls) (hl : ls ≤ 6) (hg0 : gro σ.1 ≠ 0) : J g (d + 6) 0 0 mX2_would 0 (lv_args 0 [.ref 1, .int (nI mo), .int (nI ls), .int (nI 2)]) [] h (RH (nI (wdS σ.1 mo ls 2)) (fun h' => Fr 1 52 h h' ∧ GP h' σ π)) := by
  obtain ⟨g1, g2, g3, g4, ⟨tf, g5, g5b⟩, g6, g7, g8⟩ := id hG
  obtain ⟨o1, o2, o3, o4⟩ := id g2
  have hB := g1
  have b9 := BH_2 g1
  obtain ⟨hn, hc9, hm5, hs2⟩ := id g1.1
  have hp9 := pw_le hn
  obtain ⟨nt, pt, lt, cf, sf, gf, df, mf, rf, hT⟩ := g6
  have hgr := gro_lt hB.1
  have hc1 : 1 ≤ cnt (gro σ.1) := by rcases Nat.eq_zero_or_pos (cnt (gro σ.1)) with e | e; (· exact absurd ((cnt_0 hgr).mp e) hg0); (· exact e)
  refine J_iload_n (i := 1) (pc := 0) dX2_would_0 rfl rfl ?_
  refine J_cSi (st := []) (As := [.int (nI (mo))]) (pc := 1) dX2_would_1 okX2_isDepth q1_110 q1_111 rfl (Nat.le_of_ble_eq_true rfl) (Nat.le_of_ble_eq_true rfl) (c_isDepthT (inZ_nI (by omega) (by omega) (by decide))) ?_
  refine J_if_neN (tgt := 17) (pc := 4) dX2_would_4 (by decide) (by omega) (fun c4 => ?_) (fun c4 => by exfalso; first | omega | simp_all)
  refine J_iload_n (i := 2) (pc := 17) dX2_would_17 rfl rfl ?_
  refine J_cSi (st := []) (As := [.int (nI (ls))]) (pc := 18) dX2_would_18 okX2_isLeast q1_133 q1_134 rfl (Nat.le_of_ble_eq_true rfl) (Nat.le_of_ble_eq_true rfl) (c_isLeastT (inZ_nI (by omega) (by omega) (by decide))) ?_
  refine J_if_neN (tgt := 34) (pc := 21) dX2_would_21 (by decide) (by omega) (fun c21 => ?_) (fun c21 => by exfalso; first | omega | simp_all)
  refine J_iload_n (i := 3) (pc := 34) dX2_would_34 rfl rfl ?_
  refine J_if_lt (tgt := 43) (pc := 35) dX2_would_35 (by decide) (fun c35 => absurd c35 (nI_pos (by decide))) (fun c35 => ?_)
  refine J_iload_n (i := 3) (pc := 38) dX2_would_38 rfl rfl ?_
  refine J_iconst (v := nI (2)) (pc := 39) dX2_would_39 rfl ?_
  refine J_icmp_leN (tgt := 53) (pc := 40) dX2_would_40 (by decide) (by omega) (by omega) (fun c40 => ?_) (fun c40 => by exfalso; first | omega | simp_all)
  refine J_aload_n (i := 0) (pc := 53) dX2_would_53 rfl rfl ?_
  refine J_getf (k := 0) (pc := 54) dX2_would_54 flX2_12 g4 rfl ?_
  refine J_cVi (st := []) (As := []) (pc := 57) dX2_would_57 okX0_growing q2_83 q1_164 q1_165 (rfl : vwCl[0]? = some _) b9 rfl (Nat.le_of_ble_eq_true rfl) (Nat.le_of_ble_eq_true rfl) (c_growing hB) ?_
  refine J_istore (i := 4) (lv' := [(4, .int (nI (gro σ.1))), (0, .ref (1)), (1, .int (nI (mo))), (2, .int (nI (ls))), (3, .int (nI (2)))]) (pc := 60) dX2_would_60 (by decide) rfl ?_
  refine J_iload (i := 4) (pc := 62) dX2_would_62 rfl ?_
  refine J_if_neN (tgt := 69) (pc := 64) dX2_would_64 (by decide) (by omega) (fun c64 => ?_) (fun c64 => absurd c64 (fun q => hg0 q))
  refine J_aload_n (i := 0) (pc := 69) dX2_would_69 rfl rfl ?_
  refine J_getf (k := 2) (pc := 70) dX2_would_70 flX2_23 g4 rfl ?_
  refine J_aload_n (i := 0) (pc := 73) dX2_would_73 rfl rfl ?_
  refine J_getf (k := 0) (pc := 74) dX2_would_74 flX2_12 g4 rfl ?_
  refine J_iload (i := 4) (pc := 77) dX2_would_77 rfl ?_
  refine J_iload_n (i := 1) (pc := 79) dX2_would_79 rfl rfl ?_
  refine J_iload_n (i := 2) (pc := 80) dX2_would_80 rfl rfl ?_
  refine J_cVv (st := []) (As := [.ref (2), .int (nI (gro σ.1)), .int (nI (mo)), .int (nI (ls))]) (pc := 81) dX2_would_81 okX1_grow q1_168 q1_169 q1_170 (rfl : vwCl[1]? = some _) hT.1 rfl (Nat.le_of_ble_eq_true rfl) (Nat.le_of_ble_eq_true rfl) (c_grow (d := 5) hB hT (by decide) (by omega) (by omega) (by omega) (by omega) hgr hc1) (fun h_1 q_2 => ?_)
  obtain ⟨cf2, sf2, gf2, df2, mf2, fr2, hT2, hK2, hN2⟩ := q_2
  have hG2 := GP_tri hG (by decide) fr2 hT2
  obtain ⟨k1, k2, k3, k4, ⟨tf2, k5, k5b⟩, k6, k7, k8⟩ := id hG2.2
  have b92 := BH_2 k1
  refine J_iload_n (i := 3) (pc := 84) dX2_would_84 rfl rfl ?_
  refine J_lookup (off := 49) (tgt := 134) (pc := 85) dX2_would_85 (by decide) (by decide +kernel) (by decide) ?_
  refine J_aload_n (i := 0) (pc := 134) dX2_would_134 rfl rfl ?_
  refine J_getf (k := 2) (pc := 135) dX2_would_135 flX2_23 k4 rfl ?_
  refine J_aload_n (i := 0) (pc := 138) dX2_would_138 rfl rfl ?_
  refine J_getf (k := 0) (pc := 139) dX2_would_139 flX2_12 k4 rfl ?_
  refine J_aload_n (i := 0) (pc := 142) dX2_would_142 rfl rfl ?_
  refine J_getf (k := 0) (pc := 143) dX2_would_143 flX2_12 k4 rfl ?_
  refine J_cVi (st := [.ref (2), .ref (11)]) (As := []) (pc := 146) dX2_would_146 okX0_checks q2_2 q2_3 q2_4 (rfl : vwCl[0]? = some _) b92 rfl (Nat.le_of_ble_eq_true rfl) (Nat.le_of_ble_eq_true rfl) (c_checks k1) ?_
  refine J_cVh (st := []) (As := [.ref (2), .int (nI (σ.1.2.1))]) (pc := 149) dX2_would_149 okX1_rightAbout q2_84 q2_85 q2_86 (rfl : vwCl[1]? = some _) hT2.1 rfl (Nat.le_of_ble_eq_true rfl) (Nat.le_of_ble_eq_true rfl) (c_rightAbout k1 hT2 (by decide) hN2 hK2 (ok_gr σ.1 ls 5 mo _) (by decide) rfl (by omega)) (fun h_3 q_4 => ?_)
  refine J_iret (ty := .int) (pc := 152) dX2_would_152 rfl rfl ?_
  obtain ⟨mf3, fr3, hT3⟩ := q_4
  have hG3 := GP_tri hG2.2 (by decide) (Fr_up fr3 (by decide) (Nat.le_refl _)) hT3
  exact ⟨congrArg (fun z : Nat => (Sum.inl (some (Value.int (nI z))) : RT)) (by unfold wdS; rw [if_neg hg0]; rfl), Fr_tr hG2.1 hG3.1, hG3.2⟩

set_option maxHeartbeats 2000000 in
set_option maxRecDepth 20000 in
theorem c_wouldZ {g : GT} {d : Nat} {h : MH} {σ : ST} {π : Nat → Nat} (hG : GP h σ π) {mo ls ww : Nat} (hm1 : 1 ≤ mo) (hm : mo ≤ 5) (hl1 : 1 ≤ ls) (hl : ls ≤ 6) (hww : ww ≤ 2) (hg0 : gro σ.1 = 0) : J g (d + 6) 0 0 mX2_would 0 (lv_args 0 [.ref 1, .int (nI (mo)), .int (nI (ls)), .int (nI (ww))]) [] h (RI 0 h) := by
  obtain ⟨g1, g2, g3, g4, ⟨tf, g5, g5b⟩, g6, g7, g8⟩ := id hG
  obtain ⟨o1, o2, o3, o4⟩ := id g2
  have hB := g1
  have b9 := BH_2 g1
  obtain ⟨hn, hc9, hm5, hs2⟩ := id g1.1
  have hp9 := pw_le hn
  have hgr := gro_lt hB.1
  refine J_iload_n (i := 1) (pc := 0) dX2_would_0 rfl rfl ?_
  refine J_cSi (st := []) (As := [.int (nI (mo))]) (pc := 1) dX2_would_1 okX2_isDepth q1_110 q1_111 rfl (Nat.le_of_ble_eq_true rfl) (Nat.le_of_ble_eq_true rfl) (c_isDepthT (inZ_nI (by omega) (by omega) (by decide))) ?_
  refine J_if_neN (tgt := 17) (pc := 4) dX2_would_4 (by decide) (by omega) (fun c4 => ?_) (fun c4 => by exfalso; first | omega | simp_all)
  refine J_iload_n (i := 2) (pc := 17) dX2_would_17 rfl rfl ?_
  refine J_cSi (st := []) (As := [.int (nI (ls))]) (pc := 18) dX2_would_18 okX2_isLeast q1_133 q1_134 rfl (Nat.le_of_ble_eq_true rfl) (Nat.le_of_ble_eq_true rfl) (c_isLeastT (inZ_nI (by omega) (by omega) (by decide))) ?_
  refine J_if_neN (tgt := 34) (pc := 21) dX2_would_21 (by decide) (by omega) (fun c21 => ?_) (fun c21 => by exfalso; first | omega | simp_all)
  refine J_iload_n (i := 3) (pc := 34) dX2_would_34 rfl rfl ?_
  refine J_if_lt (tgt := 43) (pc := 35) dX2_would_35 (by decide) (fun c35 => absurd c35 (nI_pos (by omega))) (fun c35 => ?_)
  refine J_iload_n (i := 3) (pc := 38) dX2_would_38 rfl rfl ?_
  refine J_iconst (v := nI (2)) (pc := 39) dX2_would_39 rfl ?_
  refine J_icmp_leN (tgt := 53) (pc := 40) dX2_would_40 (by decide) (by omega) (by omega) (fun c40 => ?_) (fun c40 => by exfalso; first | omega | simp_all)
  refine J_aload_n (i := 0) (pc := 53) dX2_would_53 rfl rfl ?_
  refine J_getf (k := 0) (pc := 54) dX2_would_54 flX2_12 g4 rfl ?_
  refine J_cVi (st := []) (As := []) (pc := 57) dX2_would_57 okX0_growing q2_83 q1_164 q1_165 (rfl : vwCl[0]? = some _) b9 rfl (Nat.le_of_ble_eq_true rfl) (Nat.le_of_ble_eq_true rfl) (c_growing hB) ?_
  refine J_istore (i := 4) (lv' := [(4, .int (nI (gro σ.1))), (0, .ref (1)), (1, .int (nI (mo))), (2, .int (nI (ls))), (3, .int (nI (ww)))]) (pc := 60) dX2_would_60 (by decide) rfl ?_
  refine J_iload (i := 4) (pc := 62) dX2_would_62 rfl ?_
  refine J_if_neN (tgt := 69) (pc := 64) dX2_would_64 (by decide) (by omega) (fun c64 => absurd c64 (fun q => q hg0)) (fun c64 => ?_)
  refine J_iconst (v := nI (0)) (pc := 67) dX2_would_67 rfl ?_
  refine J_iret (ty := .int) (pc := 68) dX2_would_68 rfl rfl ?_
  exact ⟨rfl, rfl⟩

set_option maxHeartbeats 2000000 in
set_option maxRecDepth 20000 in
theorem c_prune {g : GT} {d : Nat} {h : MH} {σ : ST} {π : Nat → Nat} (hG : GP h σ π) {j : Nat} (hj : j < σ.2.1.1) : J g (d + 3) 0 0 mX2_prune 0 (lv_args 0 [.ref 1, .int (nI (j))]) [] h (RH (nI (tuP σ.1 5 (σ.2.2.1 j) σ.1.2.1)) (fun h' => Fr 1 52 h h' ∧ GP h' (σ.1, σ.2.1, va_up σ.2.2.1 j (prT σ.1 5 (σ.2.2.1 j) σ.1.2.1), σ.2.2.2) π)) := by
  obtain ⟨g1, g2, g3, g4, ⟨tf, g5, g5b⟩, g6, g7, g8⟩ := id hG
  obtain ⟨o1, o2, o3, o4⟩ := id g2
  have hB := g1
  have b9 := BH_2 g1
  obtain ⟨hn, hc9, hm5, hs2⟩ := id g1.1
  have hp9 := pw_le hn
  have hj5 : j < 5 := by omega
  obtain ⟨cf, sf, gf, df, mf, rf, hT, hK⟩ := g8 j hj
  obtain ⟨okj, n39⟩ := o4 j hj
  have n1 := nN_pos 5 (σ.2.2.1 j)
  obtain ⟨p18, p46, fs, hfs⟩ := GP_tr hG hj5

  refine J_aload_n (i := 0) (pc := 0) dX2_prune_0 rfl rfl ?_
  refine J_iload_n (i := 1) (pc := 1) dX2_prune_1 rfl rfl ?_
  refine J_cVi (st := []) (As := [.int (nI (j))]) (pc := 2) dX2_prune_2 okX2_isTree q1_233 q1_235 qs1_6 (rfl : vwCl[2]? = some _) g4 rfl (Nat.le_of_ble_eq_true rfl) (Nat.le_of_ble_eq_true rfl) (c_isTreeT hG hj) ?_
  refine J_if_neN (tgt := 18) (pc := 5) dX2_prune_5 (by decide) (by omega) (fun c5 => ?_) (fun c5 => by exfalso; first | omega | simp_all)
  refine J_aload_n (i := 0) (pc := 18) dX2_prune_18 rfl rfl ?_
  refine J_getf (k := 1) (pc := 19) dX2_prune_19 flX2_18 g4 rfl ?_
  refine J_iload_n (i := 1) (pc := 22) dX2_prune_22 rfl rfl ?_
  refine J_aald (j := j) (b := π j) (pc := 23) dX2_prune_23 (by decide) g5 rfl (by omega) (by omega) (g5b j hj5) ?_
  refine J_aload_n (i := 0) (pc := 24) dX2_prune_24 rfl rfl ?_
  refine J_getf (k := 0) (pc := 25) dX2_prune_25 flX2_12 g4 rfl ?_
  refine J_aload_n (i := 0) (pc := 28) dX2_prune_28 rfl rfl ?_
  refine J_getf (k := 0) (pc := 29) dX2_prune_29 flX2_12 g4 rfl ?_
  refine J_cVi (st := [.ref (2), .ref (π j)]) (As := []) (pc := 32) dX2_prune_32 okX0_checks q2_2 q2_3 q2_4 (rfl : vwCl[0]? = some _) b9 rfl (Nat.le_of_ble_eq_true rfl) (Nat.le_of_ble_eq_true rfl) (c_checks hB) ?_
  refine J_cVh (st := []) (As := [.ref (2), .int (nI (σ.1.2.1))]) (pc := 35) dX2_prune_35 okX1_pruneBy q2_6 q2_7 q2_8 (rfl : vwCl[1]? = some _) hfs rfl (Nat.le_of_ble_eq_true rfl) (Nat.le_of_ble_eq_true rfl) (c_pruneBy hB hT (by omega) n39 hK okj (by decide) rfl (by omega)) (fun h_1 q_2 => ?_)
  refine J_iret (ty := .int) (pc := 38) dX2_prune_38 rfl rfl ?_
  obtain ⟨cf2, sf2, gf2, df2, mf2, rf2, fr2, hT2, hK2⟩ := q_2
  have hpn := nN_pr σ.1 5 (σ.2.2.1 j) σ.1.2.1
  exact ⟨rfl, Fr_up fr2 (by omega) (by omega), GP_tree hj fr2 ⟨_, _, _, _, _, _, hT2, hK2⟩ ⟨ok_pr σ.1 5 _ _ okj, by omega⟩ hG⟩

theorem dd_ok : ∀ a, a < 196 → ∀ b, b < 6 → 0 < b → vf_n64 (FP.ddiv (FP.i2d (nI a)) (FP.i2d (nI b))) := by
  show ∀ a, a < 196 → ∀ b, b < 6 → 0 < b → FP.ddiv (FP.i2d (nI a)) (FP.i2d (nI b)) &&& 0x7fffffffffffffff ≤ 0x7ff0000000000000
  decide +kernel
def mnS (σ : ST) : UInt64 := if σ.2.1.1 = 0 then FP.dconst0 else FP.ddiv (FP.i2d (nI (sumP (fun i => nN 5 (σ.2.2.1 i)) σ.2.1.1 0))) (FP.i2d (nI σ.2.1.1))
abbrev RD (x : UInt64) (h : MH) : RT → MH → Prop := fun r h' => r = .inl (some (.double x)) ∧ h' = h

set_option maxHeartbeats 2000000 in
set_option maxRecDepth 20000 in
theorem mn_loop {g : GT} {d : Nat} {h : MH} {σ : ST} {π : Nat → Nat} (hG : GP h σ π) (hk0 : σ.2.1.1 ≠ 0) : ∀ (k i s : Nat), i + k = σ.2.1.1 → s ≤ 39 * i → s + sumP (fun i => nN 5 (σ.2.2.1 i)) k i = sumP (fun i => nN 5 (σ.2.2.1 i)) σ.2.1.1 0 → J g (d + 1) 0 0 mX2_mean 13 [(2, .int (nI (i))), (1, .int (nI (s))), (0, .ref (1))] [] h (RD (mnS σ) h) := by
  obtain ⟨g1, g2, g3, g4, ⟨tf, g5, g5b⟩, g6, g7, g8⟩ := id hG
  obtain ⟨o1, o2, o3, o4⟩ := id g2
  have hB := g1
  have b9 := BH_2 g1
  obtain ⟨hn, hc9, hm5, hs2⟩ := id g1.1
  have hp9 := pw_le hn
  intro k
  induction k with
  | zero =>
    intro i s hi hs es
    have es2 : s = sumP (fun i => nN 5 (σ.2.2.1 i)) σ.2.1.1 0 := es
    refine J_iload_n (i := 2) (pc := 13) dX2_mean_13 rfl rfl ?_
    refine J_aload_n (i := 0) (pc := 14) dX2_mean_14 rfl rfl ?_
    refine J_getf (k := 3) (pc := 15) dX2_mean_15 flX2_27 g4 rfl ?_
    refine J_icmp_geN (tgt := 39) (pc := 18) dX2_mean_18 (by decide) (by omega) (by omega) (fun c18 => ?_) (fun c18 => by exfalso; first | omega | simp_all)
    refine J_iload_n (i := 1) (pc := 39) dX2_mean_39 rfl rfl ?_
    refine J_i2d (pc := 40) dX2_mean_40 ?_
    refine J_aload_n (i := 0) (pc := 41) dX2_mean_41 rfl rfl ?_
    refine J_getf (k := 3) (pc := 42) dX2_mean_42 flX2_27 g4 rfl ?_
    refine J_i2d (pc := 45) dX2_mean_45 ?_
    refine J_ddiv (pc := 46) dX2_mean_46 (dd_ok _ (by omega) _ (by omega) (by omega)) ?_
    refine J_dret (pc := 47) dX2_mean_47 rfl ?_
    rw [es2]
    exact ⟨congrArg (fun z : UInt64 => (Sum.inl (some (Value.double z)) : RT)) (if_neg hk0).symm, rfl⟩
  | succ k ih =>
    intro i s hi hs es
    have hj : i < σ.2.1.1 := by omega
    have hj5 : i < 5 := by omega
    obtain ⟨cf, sf, gf, df, mf, rf, hT, hK⟩ := g8 i hj
    obtain ⟨oki, n39⟩ := o4 i hj
    have n1 := nN_pos 5 (σ.2.2.1 i)
    obtain ⟨p18, p46, fs, hfs⟩ := GP_tr hG hj5
    refine J_iload_n (i := 2) (pc := 13) dX2_mean_13 rfl rfl ?_
    refine J_aload_n (i := 0) (pc := 14) dX2_mean_14 rfl rfl ?_
    refine J_getf (k := 3) (pc := 15) dX2_mean_15 flX2_27 g4 rfl ?_
    refine J_icmp_geN (tgt := 39) (pc := 18) dX2_mean_18 (by decide) (by omega) (by omega) (fun c18 => by exfalso; first | omega | simp_all) (fun c18 => ?_)
    refine J_iload_n (i := 1) (pc := 21) dX2_mean_21 rfl rfl ?_
    refine J_aload_n (i := 0) (pc := 22) dX2_mean_22 rfl rfl ?_
    refine J_getf (k := 1) (pc := 23) dX2_mean_23 flX2_18 g4 rfl ?_
    refine J_iload_n (i := 2) (pc := 26) dX2_mean_26 rfl rfl ?_
    refine J_aald (j := i) (b := π i) (pc := 27) dX2_mean_27 (by decide) g5 rfl (by omega) (by omega) (g5b i hj5) ?_
    refine J_cVi (st := [.int (nI (s))]) (As := []) (pc := 28) dX2_mean_28 okX1_howManyNodes q2_68 q2_69 q2_70 (rfl : vwCl[1]? = some _) hfs rfl (Nat.le_of_ble_eq_true rfl) (Nat.le_of_ble_eq_true rfl) (c_howManyNodes (p := 0) hT n39) ?_
    refine J_iaddN (pc := 31) dX2_mean_31 ?_
    refine J_istore_n (i := 1) (lv' := [(1, .int (nI (s + (nN 5 (σ.2.2.1 i))))), (2, .int (nI (i))), (0, .ref (1))]) (pc := 32) dX2_mean_32 rfl (by decide) rfl ?_
    refine J_iinc (i := 2) (v := nI (i + 1)) (lv' := [(2, .int (nI (i + 1))), (1, .int (nI (s + (nN 5 (σ.2.2.1 i))))), (0, .ref (1))]) (pc := 33) dX2_mean_33 rfl (nI_add (i) 1) (by decide) rfl ?_
    refine J_goto (tgt := 13) (pc := 36) dX2_mean_36 (by decide) ?_
    refine J_sub (lv' := [(2, .int (nI (i + 1))), (1, .int (nI (s + (nN 5 (σ.2.2.1 i))))), (0, .ref (1))]) [0, 1, 2] rfl ?_
    exact ih (i + 1) (s + nN 5 (σ.2.2.1 i)) (by omega) (by omega) (by rw [Nat.add_assoc]; exact es)
theorem c_mean {g : GT} {d : Nat} {h : MH} {σ : ST} {π : Nat → Nat} (hG : GP h σ π) : J g (d + 1) 0 0 mX2_mean 0 (lv_args 0 [.ref 1]) [] h (RD (mnS σ) h) := by
  obtain ⟨g1, g2, g3, g4, ⟨tf, g5, g5b⟩, g6, g7, g8⟩ := id hG
  obtain ⟨o1, o2, o3, o4⟩ := id g2
  have hB := g1
  have b9 := BH_2 g1
  obtain ⟨hn, hc9, hm5, hs2⟩ := id g1.1
  have hp9 := pw_le hn
  refine J_aload_n (i := 0) (pc := 0) dX2_mean_0 rfl rfl ?_
  refine J_getf (k := 3) (pc := 1) dX2_mean_1 flX2_27 g4 rfl ?_
  refine J_if_neN (tgt := 9) (pc := 4) dX2_mean_4 (by decide) (by omega) (fun c4 => ?_) (fun c4 => ?_)
  · skip
    refine J_iconst (v := nI (0)) (pc := 9) dX2_mean_9 rfl ?_
    refine J_istore_n (i := 1) (lv' := [(1, .int (nI (0))), (0, .ref (1))]) (pc := 10) dX2_mean_10 rfl (by decide) rfl ?_
    refine J_iconst (v := nI (0)) (pc := 11) dX2_mean_11 rfl ?_
    refine J_istore_n (i := 2) (lv' := [(2, .int (nI (0))), (1, .int (nI (0))), (0, .ref (1))]) (pc := 12) dX2_mean_12 rfl (by decide) rfl ?_
    refine J_sub (lv' := [(2, .int (nI (0))), (1, .int (nI (0))), (0, .ref (1))]) [0, 1, 2] rfl ?_
    exact mn_loop hG c4 σ.2.1.1 0 0 (Nat.zero_add _) (by omega) (Nat.zero_add _)
  · skip
    refine J_dconst0 (pc := 7) dX2_mean_7 ?_
    refine J_dret (pc := 8) dX2_mean_8 rfl ?_
    exact ⟨congrArg (fun z : UInt64 => (Sum.inl (some (Value.double z)) : RT)) (if_pos c4).symm, rfl⟩
