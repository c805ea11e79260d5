-- the law's body: its first half
abbrev mL_law : MT := (yL_law, cL_law, 17, some .boolean, [])
abbrev QL : RT → MH → Prop := fun r _ => r = .inl (some (.int 1))
set_option maxHeartbeats 2000000 in
set_option maxRecDepth 20000 in
theorem l_A1 {g : GT} {d n T : Nat} {h : MH} {σ : ST} (hL : g_L g ≤ 260) (hn : n < 16) (I : LI h σ T) (kk : ∀ (h' : MH) (σ' : ST) (x : Int32) {a b : Nat}, a < 51 → b < 3 → LI h' σ' T → J g (d + 7) 0 0 mL_law 83 [(8, .int (nI (a))), (7, .int (nI (b))), (5, .long (dgS σ')), (4, .int (x)), (0, .ref (0)), (1, .ref (1)), (2, .int (nI (T))), (3, .int (nI (n)))] [] h' QL) : J g (d + 7) 0 0 mL_law 15 [(0, .ref (0)), (1, .ref (1)), (2, .int (nI (T))), (3, .int (nI (n)))] [] h QL := by
  obtain ⟨fs1, r1⟩ := LI_1 I
  obtain ⟨hW, ok, hn20, hT5, hn3⟩ := LI_b I
  obtain ⟨o1, o2, o3, o4⟩ := id ok
  refine J_iload_n (i := 3) (pc := 15) dL_law_15 rfl rfl ?_
  refine J_bipush (v := nI (16)) (pc := 16) dL_law_16 rfl ?_
  refine J_icmp_geN (tgt := 899) (pc := 18) dL_law_18 (by decide) (by omega) (by omega) (fun c18 => by exfalso; first | omega | simp_all) (fun c18 => ?_)
  refine J_aload_n (i := 0) (pc := 21) dL_law_21 rfl rfl ?_
  refine J_iload_n (i := 3) (pc := 22) dL_law_22 rfl rfl ?_
  refine J_cSi (st := []) (As := [.ref (0), .int (nI (n))]) (pc := 23) dL_law_23 okL_cell q2_180 q2_181 rfl (Nat.le_of_ble_eq_true rfl) (Nat.le_of_ble_eq_true rfl) (l_cell hL (by omega)) ?_
  obtain ⟨x, ex⟩ : ∃ z : Int32, z = cel g (n) := ⟨_, rfl⟩
  rw [← ex]
  refine J_istore (i := 4) (lv' := [(4, .int (x)), (0, .ref (0)), (1, .ref (1)), (2, .int (nI (T))), (3, .int (nI (n)))]) (pc := 26) dL_law_26 (by decide) rfl ?_
  refine J_aload_n (i := 1) (pc := 28) dL_law_28 rfl rfl ?_
  refine J_iconst (v := nI (1)) (pc := 29) dL_law_29 rfl ?_
  refine J_iload (i := 4) (pc := 30) dL_law_30 rfl ?_
  refine J_iconst (v := nI (5)) (pc := 32) dL_law_32 rfl ?_
  refine J_cSi (st := [.int (nI (1)), .ref (1)]) (As := [.int (x), .int (nI (5))]) (pc := 33) dL_law_33 okL_below q2_176 q2_177 rfl (Nat.le_of_ble_eq_true rfl) (Nat.le_of_ble_eq_true rfl) (l_below (by omega) (by omega)) ?_
  obtain ⟨m1, em1, hm1⟩ : ∃ z : Nat, z = bel ((x)) (5) ∧ z < 5 := ⟨_, rfl, bel_lt _ (by omega)⟩
  rw [← em1]
  refine J_iaddN (pc := 36) dL_law_36 ?_
  refine J_cVh (st := []) (As := [.int (nI (1 + m1))]) (pc := 37) dL_law_37 okX2_setDepth q1_106 q1_107 q1_108 (rfl : vwCl[2]? = some _) r1 rfl (Nat.le_of_ble_eq_true rfl) (Nat.le_of_ble_eq_true rfl) (i_setDepth (d := d + 5) I (by omega) (by omega)) (fun h_1 q_2 => ?_)
  obtain ⟨σ_1, I_1⟩ := q_2
  obtain ⟨fs_1, r_1⟩ := LI_1 I_1
  refine J_pop (pc := 40) dL_law_40 rfl ?_
  refine J_aload_n (i := 1) (pc := 41) dL_law_41 rfl rfl ?_
  refine J_iconst (v := nI (1)) (pc := 42) dL_law_42 rfl ?_
  refine J_iload (i := 4) (pc := 43) dL_law_43 rfl ?_
  refine J_iconst (v := nI (3)) (pc := 45) dL_law_45 rfl ?_
  refine J_ishr (pc := 46) dL_law_46 ?_
  refine J_iconst (v := nI (4)) (pc := 47) dL_law_47 rfl ?_
  refine J_cSi (st := [.int (nI (1)), .ref (1)]) (As := [.int ((x) >>> (nI (3) &&& 31)), .int (nI (4))]) (pc := 48) dL_law_48 okL_below q2_176 q2_177 rfl (Nat.le_of_ble_eq_true rfl) (Nat.le_of_ble_eq_true rfl) (l_below (by omega) (by omega)) ?_
  obtain ⟨m2, em2, hm2⟩ : ∃ z : Nat, z = bel (((x) >>> (nI (3) &&& 31))) (4) ∧ z < 4 := ⟨_, rfl, bel_lt _ (by omega)⟩
  rw [← em2]
  refine J_iaddN (pc := 51) dL_law_51 ?_
  refine J_cVh (st := []) (As := [.int (nI (1 + m2))]) (pc := 52) dL_law_52 okX2_setLeast q1_129 q1_130 q1_131 (rfl : vwCl[2]? = some _) r_1 rfl (Nat.le_of_ble_eq_true rfl) (Nat.le_of_ble_eq_true rfl) (i_setLeast (d := d + 5) I_1 (by omega) (by omega)) (fun h_3 q_4 => ?_)
  obtain ⟨σ_2, I_2⟩ := q_4
  obtain ⟨fs_2, r_2⟩ := LI_1 I_2
  refine J_pop (pc := 55) dL_law_55 rfl ?_
  refine J_aload_n (i := 1) (pc := 56) dL_law_56 rfl rfl ?_
  refine J_cVg (st := []) (As := []) (pc := 57) dL_law_57 okX2_digest q2_162 q2_163 q2_164 (rfl : vwCl[2]? = some _) r_2 rfl (Nat.le_of_ble_eq_true rfl) (Nat.le_of_ble_eq_true rfl) (i_digest (d := d + 1) I_2) (fun h_5 q_6 => ?_)
  have I_3 := q_6
  obtain ⟨fs_3, r_3⟩ := LI_1 I_3
  refine J_lstore (i := 5) (lv' := [(5, .long (dgS σ_2)), (4, .int (x)), (0, .ref (0)), (1, .ref (1)), (2, .int (nI (T))), (3, .int (nI (n)))]) (pc := 60) dL_law_60 (by decide) rfl ?_
  refine J_iload (i := 4) (pc := 62) dL_law_62 rfl ?_
  refine J_iconst (v := nI (2)) (pc := 64) dL_law_64 rfl ?_
  refine J_ishr (pc := 65) dL_law_65 ?_
  refine J_iconst (v := nI (3)) (pc := 66) dL_law_66 rfl ?_
  refine J_cSi (st := []) (As := [.int ((x) >>> (nI (2) &&& 31)), .int (nI (3))]) (pc := 67) dL_law_67 okL_below q2_176 q2_177 rfl (Nat.le_of_ble_eq_true rfl) (Nat.le_of_ble_eq_true rfl) (l_below (by omega) (by omega)) ?_
  obtain ⟨b, eb, hb⟩ : ∃ z : Nat, z = bel (((x) >>> (nI (2) &&& 31))) (3) ∧ z < 3 := ⟨_, rfl, bel_lt _ (by omega)⟩
  rw [← eb]
  refine J_istore (i := 7) (lv' := [(7, .int (nI (b))), (5, .long (dgS σ_2)), (4, .int (x)), (0, .ref (0)), (1, .ref (1)), (2, .int (nI (T))), (3, .int (nI (n)))]) (pc := 70) dL_law_70 (by decide) rfl ?_
  refine J_iload (i := 4) (pc := 72) dL_law_72 rfl ?_
  refine J_iconst (v := nI (4)) (pc := 74) dL_law_74 rfl ?_
  refine J_ishr (pc := 75) dL_law_75 ?_
  refine J_bipush (v := nI (51)) (pc := 76) dL_law_76 rfl ?_
  refine J_cSi (st := []) (As := [.int ((x) >>> (nI (4) &&& 31)), .int (nI (51))]) (pc := 78) dL_law_78 okL_below q2_176 q2_177 rfl (Nat.le_of_ble_eq_true rfl) (Nat.le_of_ble_eq_true rfl) (l_below (by omega) (by omega)) ?_
  obtain ⟨a, ea, ha⟩ : ∃ z : Nat, z = bel (((x) >>> (nI (4) &&& 31))) (51) ∧ z < 51 := ⟨_, rfl, bel_lt _ (by omega)⟩
  rw [← ea]
  refine J_istore (i := 8) (lv' := [(8, .int (nI (a))), (7, .int (nI (b))), (5, .long (dgS σ_2)), (4, .int (x)), (0, .ref (0)), (1, .ref (1)), (2, .int (nI (T))), (3, .int (nI (n)))]) (pc := 81) dL_law_81 (by decide) rfl ?_
  refine J_sub (lv' := [(8, .int (nI (a))), (7, .int (nI (b))), (5, .long (dgS σ_2)), (4, .int (x)), (0, .ref (0)), (1, .ref (1)), (2, .int (nI (T))), (3, .int (nI (n)))]) [0, 1, 2, 3, 4, 5, 6, 7] rfl ?_
  exact kk h_5 _ x ha hb I_3

set_option maxHeartbeats 2000000 in
set_option maxRecDepth 20000 in
theorem l_A2N {g : GT} {d n T : Nat} {h : MH} {σ : ST} {x : Int32} {a b  : Nat} (hL : g_L g ≤ 260) (hn : n < 16) (ha : a < 51) (hb3 : b < 3) (I : LI h σ T) (hb : bestS σ.1 (gro σ.1) σ.2.1.2.2 = none) (kk : ∀ h', LI h' σ T → J g (d + 7) 0 0 mL_law 279 [(4, .int (x)), (0, .ref (0)), (1, .ref (1)), (2, .int (nI (T))), (3, .int (nI (n)))] [] h' QL) : J g (d + 7) 0 0 mL_law 83 [(8, .int (nI (a))), (7, .int (nI (b))), (5, .long (dgS σ)), (4, .int (x)), (0, .ref (0)), (1, .ref (1)), (2, .int (nI (T))), (3, .int (nI (n)))] [] h QL := by
  obtain ⟨fs1, r1⟩ := LI_1 I
  obtain ⟨hW, ok, hn20, hT5, hn3⟩ := LI_b I
  obtain ⟨o1, o2, o3, o4⟩ := id ok
  have g0 := gn_le (β := σ.1) (m := b) (x := a) (w := 0) (by decide)
  refine J_aload_n (i := 1) (pc := 83) dL_law_83 rfl rfl ?_
  refine J_iconst (v := nI (0)) (pc := 84) dL_law_84 rfl ?_
  refine J_cVi (st := []) (As := [.int (nI (0))]) (pc := 85) dL_law_85 okX2_best q2_142 q2_143 q2_144 (rfl : vwCl[2]? = some _) r1 rfl (Nat.le_of_ble_eq_true rfl) (Nat.le_of_ble_eq_true rfl) (i_best0N (d := d + 1) I hb) ?_
  refine J_istore (i := 9) (lv' := [(9, .int (-1)), (8, .int (nI (a))), (7, .int (nI (b))), (5, .long (dgS σ)), (4, .int (x)), (0, .ref (0)), (1, .ref (1)), (2, .int (nI (T))), (3, .int (nI (n)))]) (pc := 88) dL_law_88 (by decide) rfl ?_
  refine J_aload_n (i := 1) (pc := 90) dL_law_90 rfl rfl ?_
  refine J_iconst (v := nI (1)) (pc := 91) dL_law_91 rfl ?_
  refine J_cVi (st := []) (As := [.int (nI (1))]) (pc := 92) dL_law_92 okX2_best q2_142 q2_143 q2_144 (rfl : vwCl[2]? = some _) r1 rfl (Nat.le_of_ble_eq_true rfl) (Nat.le_of_ble_eq_true rfl) (i_best1N (d := d + 1) I hb) ?_
  refine J_istore (i := 10) (lv' := [(10, .int (-1)), (9, .int (-1)), (8, .int (nI (a))), (7, .int (nI (b))), (5, .long (dgS σ)), (4, .int (x)), (0, .ref (0)), (1, .ref (1)), (2, .int (nI (T))), (3, .int (nI (n)))]) (pc := 95) dL_law_95 (by decide) rfl ?_
  refine J_aload_n (i := 1) (pc := 97) dL_law_97 rfl rfl ?_
  refine J_cVh (st := []) (As := []) (pc := 98) dL_law_98 okX2_advise q2_154 q2_155 q2_156 (rfl : vwCl[2]? = some _) r1 rfl (Nat.le_of_ble_eq_true rfl) (Nat.le_of_ble_eq_true rfl) (i_advise (d := d + 0) I ) (fun h_1 q_2 => ?_)
  have I_4 := q_2
  obtain ⟨fs_4, r_4⟩ := LI_1 I_4
  refine J_pop (pc := 101) dL_law_101 rfl ?_
  refine J_aload_n (i := 1) (pc := 102) dL_law_102 rfl rfl ?_
  refine J_iconst (v := nI (1)) (pc := 103) dL_law_103 rfl ?_
  refine J_iload (i := 4) (pc := 104) dL_law_104 rfl ?_
  refine J_iconst (v := nI (5)) (pc := 106) dL_law_106 rfl ?_
  refine J_ishr (pc := 107) dL_law_107 ?_
  refine J_iconst (v := nI (5)) (pc := 108) dL_law_108 rfl ?_
  refine J_cSi (st := [.int (nI (1)), .ref (1)]) (As := [.int ((x) >>> (nI (5) &&& 31)), .int (nI (5))]) (pc := 109) dL_law_109 okL_below q2_176 q2_177 rfl (Nat.le_of_ble_eq_true rfl) (Nat.le_of_ble_eq_true rfl) (l_below (by omega) (by omega)) ?_
  obtain ⟨m2, em2, hm2⟩ : ∃ z : Nat, z = bel (((x) >>> (nI (5) &&& 31))) (5) ∧ z < 5 := ⟨_, rfl, bel_lt _ (by omega)⟩
  rw [← em2]
  refine J_iaddN (pc := 112) dL_law_112 ?_
  refine J_iconst (v := nI (1)) (pc := 113) dL_law_113 rfl ?_
  refine J_iload (i := 4) (pc := 114) dL_law_114 rfl ?_
  refine J_bipush (v := nI (6)) (pc := 116) dL_law_116 rfl ?_
  refine J_ishr (pc := 118) dL_law_118 ?_
  refine J_bipush (v := nI (6)) (pc := 119) dL_law_119 rfl ?_
  refine J_cSi (st := [.int (nI (1)), .int (nI (1 + m2)), .ref (1)]) (As := [.int ((x) >>> (nI (6) &&& 31)), .int (nI (6))]) (pc := 121) dL_law_121 okL_below q2_176 q2_177 rfl (Nat.le_of_ble_eq_true rfl) (Nat.le_of_ble_eq_true rfl) (l_below (by omega) (by omega)) ?_
  obtain ⟨m3, em3, hm3⟩ : ∃ z : Nat, z = bel (((x) >>> (nI (6) &&& 31))) (6) ∧ z < 6 := ⟨_, rfl, bel_lt _ (by omega)⟩
  rw [← em3]
  refine J_iaddN (pc := 124) dL_law_124 ?_
  refine J_iload (i := 4) (pc := 125) dL_law_125 rfl ?_
  refine J_iconst (v := nI (3)) (pc := 127) dL_law_127 rfl ?_
  refine J_cSi (st := [.int (nI (1 + m3)), .int (nI (1 + m2)), .ref (1)]) (As := [.int (x), .int (nI (3))]) (pc := 128) dL_law_128 okL_below q2_176 q2_177 rfl (Nat.le_of_ble_eq_true rfl) (Nat.le_of_ble_eq_true rfl) (l_below (by omega) (by omega)) ?_
  obtain ⟨m4, em4, hm4⟩ : ∃ z : Nat, z = bel ((x)) (3) ∧ z < 3 := ⟨_, rfl, bel_lt _ (by omega)⟩
  rw [← em4]
  obtain ⟨wv, hwv⟩ := i_would (g := g) (d := d) I_4 (mo := 1 + m2) (ls := 1 + m3) (w := m4) (by omega) (by omega) (by omega) (by omega) (by omega)
  refine J_cVh (st := []) (As := [.int (nI (1 + m2)), .int (nI (1 + m3)), .int (nI (m4))]) (pc := 131) dL_law_131 okX2_would q2_149 q2_150 q2_151 (rfl : vwCl[2]? = some _) r_4 rfl (Nat.le_of_ble_eq_true rfl) (Nat.le_of_ble_eq_true rfl) (hwv) (fun h_3 q_4 => ?_)
  have I_5 := q_4
  obtain ⟨fs_5, r_5⟩ := LI_1 I_5
  refine J_pop (pc := 134) dL_law_134 rfl ?_
  refine J_aload_n (i := 1) (pc := 135) dL_law_135 rfl rfl ?_
  refine J_cVg (st := []) (As := []) (pc := 136) dL_law_136 okX2_digest q2_162 q2_163 q2_164 (rfl : vwCl[2]? = some _) r_5 rfl (Nat.le_of_ble_eq_true rfl) (Nat.le_of_ble_eq_true rfl) (i_digest (d := d + 1) I_5 ) (fun h_5 q_6 => ?_)
  have I_6 := q_6
  obtain ⟨fs_6, r_6⟩ := LI_1 I_6
  refine J_lload (i := 5) (pc := 139) dL_law_139 rfl ?_
  refine J_lcmp (pc := 141) dL_law_141 ?_
  refine J_if_ne (tgt := 180) (pc := 142) dL_law_142 (by decide) (fun c142 => absurd c142 (fun q => q (lg_selfc _))) (fun c142 => ?_)
  refine J_aload_n (i := 1) (pc := 145) dL_law_145 rfl rfl ?_
  refine J_iload (i := 7) (pc := 146) dL_law_146 rfl ?_
  refine J_iload (i := 8) (pc := 148) dL_law_148 rfl ?_
  refine J_iconst (v := nI (0)) (pc := 150) dL_law_150 rfl ?_
  refine J_cVi (st := []) (As := [.int (nI (b)), .int (nI (a)), .int (nI (0))]) (pc := 151) dL_law_151 okX2_gain q2_126 q2_127 q2_128 (rfl : vwCl[2]? = some _) r_6 rfl (Nat.le_of_ble_eq_true rfl) (Nat.le_of_ble_eq_true rfl) (i_gain0 (d := d + 2) I_6 (by omega) (by omega)) ?_
  refine J_if_lt (tgt := 180) (pc := 154) dL_law_154 (by decide) (fun c154 => absurd c154 (nI_pos (by omega))) (fun c154 => ?_)
  refine J_iload (i := 9) (pc := 157) dL_law_157 rfl ?_
  refine J_if_ge (tgt := 166) (pc := 159) dL_law_159 (by decide) (fun c159 => absurd c159 (by decide)) (fun c159 => ?_)
  refine J_iconst (v := nI (1)) (pc := 162) dL_law_162 rfl ?_
  refine J_goto (tgt := 167) (pc := 163) dL_law_163 (by decide) ?_
  refine J_iload (i := 10) (pc := 167) dL_law_167 rfl ?_
  refine J_if_ge (tgt := 176) (pc := 169) dL_law_169 (by decide) (fun c169 => absurd c169 (by decide)) (fun c169 => ?_)
  refine J_iconst (v := nI (1)) (pc := 172) dL_law_172 rfl ?_
  refine J_goto (tgt := 177) (pc := 173) dL_law_173 (by decide) ?_
  refine J_icmp_eqN (tgt := 182) (pc := 177) dL_law_177 (by decide) (by omega) (by omega) (fun c177 => ?_) (fun c177 => by exfalso; first | omega | simp_all)
  refine J_iload (i := 9) (pc := 182) dL_law_182 rfl ?_
  refine J_if_lt (tgt := 201) (pc := 184) dL_law_184 (by decide) (fun c184 => ?_) (fun c184 => absurd c184 (fun q => q (by decide)))
  refine J_aload_n (i := 1) (pc := 201) dL_law_201 rfl rfl ?_
  refine J_bipush (v := nI (6)) (pc := 202) dL_law_202 rfl ?_
  refine J_cVi (st := []) (As := [.int (nI (6))]) (pc := 204) dL_law_204 okX2_count q2_109 q2_110 q2_111 (rfl : vwCl[2]? = some _) r_6 rfl (Nat.le_of_ble_eq_true rfl) (Nat.le_of_ble_eq_true rfl) (i_count6 (d := d + 2) I_6 ) ?_
  refine J_iconst (v := nI (1)) (pc := 207) dL_law_207 rfl ?_
  refine J_icmp_neN (tgt := 279) (pc := 208) dL_law_208 (by decide) (by omega) (by omega) (fun c208 => ?_) (fun c208 => ?_)
  · skip
    refine J_sub (lv' := [(4, .int (x)), (0, .ref (0)), (1, .ref (1)), (2, .int (nI (T))), (3, .int (nI (n)))]) [5, 6, 7, 8, 9] rfl ?_
    exact kk h_5 I_6
  · skip
    have hz := (best_most hW hb3 (show a ≤ 50 by omega)).1 (by rw [c208] at hb; exact hb)
    refine J_iload (i := 9) (pc := 211) dL_law_211 rfl ?_
    refine J_if_ge (tgt := 231) (pc := 213) dL_law_213 (by decide) (fun c213 => absurd c213 (by decide)) (fun c213 => ?_)
    refine J_aload_n (i := 1) (pc := 216) dL_law_216 rfl rfl ?_
    refine J_iload (i := 7) (pc := 217) dL_law_217 rfl ?_
    refine J_iload (i := 8) (pc := 219) dL_law_219 rfl ?_
    refine J_iconst (v := nI (0)) (pc := 221) dL_law_221 rfl ?_
    refine J_cVi (st := []) (As := [.int (nI (b)), .int (nI (a)), .int (nI (0))]) (pc := 222) dL_law_222 okX2_gain q2_126 q2_127 q2_128 (rfl : vwCl[2]? = some _) r_6 rfl (Nat.le_of_ble_eq_true rfl) (Nat.le_of_ble_eq_true rfl) (i_gain0 (d := d + 2) I_6 (by omega) (by omega)) ?_
    refine J_if_le (tgt := 279) (pc := 225) dL_law_225 (by decide) (fun c225 => ?_) (fun c225 => absurd c225 (fun q => q (by rw [hz]; decide)))
    refine J_sub (lv' := [(4, .int (x)), (0, .ref (0)), (1, .ref (1)), (2, .int (nI (T))), (3, .int (nI (n)))]) [5, 6, 7, 8, 9] rfl ?_
    exact kk h_5 I_6

set_option maxHeartbeats 2000000 in
set_option maxRecDepth 20000 in
theorem l_A2S {g : GT} {d n T : Nat} {h : MH} {σ : ST} {x : Int32} {a b c : Nat} (hL : g_L g ≤ 260) (hn : n < 16) (ha : a < 51) (hb3 : b < 3) (I : LI h σ T) (hb : bestS σ.1 (gro σ.1) σ.2.1.2.2 = some c) (kk : ∀ h', LI h' σ T → J g (d + 7) 0 0 mL_law 279 [(4, .int (x)), (0, .ref (0)), (1, .ref (1)), (2, .int (nI (T))), (3, .int (nI (n)))] [] h' QL) : J g (d + 7) 0 0 mL_law 83 [(8, .int (nI (a))), (7, .int (nI (b))), (5, .long (dgS σ)), (4, .int (x)), (0, .ref (0)), (1, .ref (1)), (2, .int (nI (T))), (3, .int (nI (n)))] [] h QL := by
  obtain ⟨fs1, r1⟩ := LI_1 I
  obtain ⟨hW, ok, hn20, hT5, hn3⟩ := LI_b I
  obtain ⟨o1, o2, o3, o4⟩ := id ok
  obtain ⟨hc3, hc50, hcA⟩ := best_gn hb
  have hbp := best_pos hb
  have g0 := gn_le (β := σ.1) (m := b) (x := a) (w := 0) (by decide)
  have g1 := gn_le (β := σ.1) (m := b) (x := a) (w := 1) (by decide)
  have g2 := gn_le (β := σ.1) (m := c / 51) (x := c % 51) (w := 0) (by decide)
  have g3 := gn_le (β := σ.1) (m := c / 51) (x := c % 51) (w := 1) (by decide)
  have p1 := Nat.mul_le_mul g0 g3
  have p2 := Nat.mul_le_mul g2 g1
  refine J_aload_n (i := 1) (pc := 83) dL_law_83 rfl rfl ?_
  refine J_iconst (v := nI (0)) (pc := 84) dL_law_84 rfl ?_
  refine J_cVi (st := []) (As := [.int (nI (0))]) (pc := 85) dL_law_85 okX2_best q2_142 q2_143 q2_144 (rfl : vwCl[2]? = some _) r1 rfl (Nat.le_of_ble_eq_true rfl) (Nat.le_of_ble_eq_true rfl) (i_best0S (d := d + 1) I hb) ?_
  refine J_istore (i := 9) (lv' := [(9, .int (nI (c / 51))), (8, .int (nI (a))), (7, .int (nI (b))), (5, .long (dgS σ)), (4, .int (x)), (0, .ref (0)), (1, .ref (1)), (2, .int (nI (T))), (3, .int (nI (n)))]) (pc := 88) dL_law_88 (by decide) rfl ?_
  refine J_aload_n (i := 1) (pc := 90) dL_law_90 rfl rfl ?_
  refine J_iconst (v := nI (1)) (pc := 91) dL_law_91 rfl ?_
  refine J_cVi (st := []) (As := [.int (nI (1))]) (pc := 92) dL_law_92 okX2_best q2_142 q2_143 q2_144 (rfl : vwCl[2]? = some _) r1 rfl (Nat.le_of_ble_eq_true rfl) (Nat.le_of_ble_eq_true rfl) (i_best1S (d := d + 1) I hb) ?_
  refine J_istore (i := 10) (lv' := [(10, .int (nI (c % 51))), (9, .int (nI (c / 51))), (8, .int (nI (a))), (7, .int (nI (b))), (5, .long (dgS σ)), (4, .int (x)), (0, .ref (0)), (1, .ref (1)), (2, .int (nI (T))), (3, .int (nI (n)))]) (pc := 95) dL_law_95 (by decide) rfl ?_
  refine J_aload_n (i := 1) (pc := 97) dL_law_97 rfl rfl ?_
  refine J_cVh (st := []) (As := []) (pc := 98) dL_law_98 okX2_advise q2_154 q2_155 q2_156 (rfl : vwCl[2]? = some _) r1 rfl (Nat.le_of_ble_eq_true rfl) (Nat.le_of_ble_eq_true rfl) (i_advise (d := d + 0) I ) (fun h_1 q_2 => ?_)
  have I_7 := q_2
  obtain ⟨fs_7, r_7⟩ := LI_1 I_7
  refine J_pop (pc := 101) dL_law_101 rfl ?_
  refine J_aload_n (i := 1) (pc := 102) dL_law_102 rfl rfl ?_
  refine J_iconst (v := nI (1)) (pc := 103) dL_law_103 rfl ?_
  refine J_iload (i := 4) (pc := 104) dL_law_104 rfl ?_
  refine J_iconst (v := nI (5)) (pc := 106) dL_law_106 rfl ?_
  refine J_ishr (pc := 107) dL_law_107 ?_
  refine J_iconst (v := nI (5)) (pc := 108) dL_law_108 rfl ?_
  refine J_cSi (st := [.int (nI (1)), .ref (1)]) (As := [.int ((x) >>> (nI (5) &&& 31)), .int (nI (5))]) (pc := 109) dL_law_109 okL_below q2_176 q2_177 rfl (Nat.le_of_ble_eq_true rfl) (Nat.le_of_ble_eq_true rfl) (l_below (by omega) (by omega)) ?_
  obtain ⟨m2, em2, hm2⟩ : ∃ z : Nat, z = bel (((x) >>> (nI (5) &&& 31))) (5) ∧ z < 5 := ⟨_, rfl, bel_lt _ (by omega)⟩
  rw [← em2]
  refine J_iaddN (pc := 112) dL_law_112 ?_
  refine J_iconst (v := nI (1)) (pc := 113) dL_law_113 rfl ?_
  refine J_iload (i := 4) (pc := 114) dL_law_114 rfl ?_
  refine J_bipush (v := nI (6)) (pc := 116) dL_law_116 rfl ?_
  refine J_ishr (pc := 118) dL_law_118 ?_
  refine J_bipush (v := nI (6)) (pc := 119) dL_law_119 rfl ?_
  refine J_cSi (st := [.int (nI (1)), .int (nI (1 + m2)), .ref (1)]) (As := [.int ((x) >>> (nI (6) &&& 31)), .int (nI (6))]) (pc := 121) dL_law_121 okL_below q2_176 q2_177 rfl (Nat.le_of_ble_eq_true rfl) (Nat.le_of_ble_eq_true rfl) (l_below (by omega) (by omega)) ?_
  obtain ⟨m3, em3, hm3⟩ : ∃ z : Nat, z = bel (((x) >>> (nI (6) &&& 31))) (6) ∧ z < 6 := ⟨_, rfl, bel_lt _ (by omega)⟩
  rw [← em3]
  refine J_iaddN (pc := 124) dL_law_124 ?_
  refine J_iload (i := 4) (pc := 125) dL_law_125 rfl ?_
  refine J_iconst (v := nI (3)) (pc := 127) dL_law_127 rfl ?_
  refine J_cSi (st := [.int (nI (1 + m3)), .int (nI (1 + m2)), .ref (1)]) (As := [.int (x), .int (nI (3))]) (pc := 128) dL_law_128 okL_below q2_176 q2_177 rfl (Nat.le_of_ble_eq_true rfl) (Nat.le_of_ble_eq_true rfl) (l_below (by omega) (by omega)) ?_
  obtain ⟨m4, em4, hm4⟩ : ∃ z : Nat, z = bel ((x)) (3) ∧ z < 3 := ⟨_, rfl, bel_lt _ (by omega)⟩
  rw [← em4]
  obtain ⟨wv, hwv⟩ := i_would (g := g) (d := d) I_7 (mo := 1 + m2) (ls := 1 + m3) (w := m4) (by omega) (by omega) (by omega) (by omega) (by omega)
  refine J_cVh (st := []) (As := [.int (nI (1 + m2)), .int (nI (1 + m3)), .int (nI (m4))]) (pc := 131) dL_law_131 okX2_would q2_149 q2_150 q2_151 (rfl : vwCl[2]? = some _) r_7 rfl (Nat.le_of_ble_eq_true rfl) (Nat.le_of_ble_eq_true rfl) (hwv) (fun h_3 q_4 => ?_)
  have I_8 := q_4
  obtain ⟨fs_8, r_8⟩ := LI_1 I_8
  refine J_pop (pc := 134) dL_law_134 rfl ?_
  refine J_aload_n (i := 1) (pc := 135) dL_law_135 rfl rfl ?_
  refine J_cVg (st := []) (As := []) (pc := 136) dL_law_136 okX2_digest q2_162 q2_163 q2_164 (rfl : vwCl[2]? = some _) r_8 rfl (Nat.le_of_ble_eq_true rfl) (Nat.le_of_ble_eq_true rfl) (i_digest (d := d + 1) I_8 ) (fun h_5 q_6 => ?_)
  have I_9 := q_6
  obtain ⟨fs_9, r_9⟩ := LI_1 I_9
  refine J_lload (i := 5) (pc := 139) dL_law_139 rfl ?_
  refine J_lcmp (pc := 141) dL_law_141 ?_
  refine J_if_ne (tgt := 180) (pc := 142) dL_law_142 (by decide) (fun c142 => absurd c142 (fun q => q (lg_selfc _))) (fun c142 => ?_)
  refine J_aload_n (i := 1) (pc := 145) dL_law_145 rfl rfl ?_
  refine J_iload (i := 7) (pc := 146) dL_law_146 rfl ?_
  refine J_iload (i := 8) (pc := 148) dL_law_148 rfl ?_
  refine J_iconst (v := nI (0)) (pc := 150) dL_law_150 rfl ?_
  refine J_cVi (st := []) (As := [.int (nI (b)), .int (nI (a)), .int (nI (0))]) (pc := 151) dL_law_151 okX2_gain q2_126 q2_127 q2_128 (rfl : vwCl[2]? = some _) r_9 rfl (Nat.le_of_ble_eq_true rfl) (Nat.le_of_ble_eq_true rfl) (i_gain0 (d := d + 2) I_9 (by omega) (by omega)) ?_
  refine J_if_lt (tgt := 180) (pc := 154) dL_law_154 (by decide) (fun c154 => absurd c154 (nI_pos (by omega))) (fun c154 => ?_)
  refine J_iload (i := 9) (pc := 157) dL_law_157 rfl ?_
  refine J_if_ge (tgt := 166) (pc := 159) dL_law_159 (by decide) (fun c159 => ?_) (fun c159 => absurd c159 (fun q => q (nI_pos' (by omega))))
  refine J_iconst (v := nI (0)) (pc := 166) dL_law_166 rfl ?_
  refine J_iload (i := 10) (pc := 167) dL_law_167 rfl ?_
  refine J_if_ge (tgt := 176) (pc := 169) dL_law_169 (by decide) (fun c169 => ?_) (fun c169 => absurd c169 (fun q => q (nI_pos' (by omega))))
  refine J_iconst (v := nI (0)) (pc := 176) dL_law_176 rfl ?_
  refine J_icmp_eqN (tgt := 182) (pc := 177) dL_law_177 (by decide) (by omega) (by omega) (fun c177 => ?_) (fun c177 => by exfalso; first | omega | simp_all)
  refine J_iload (i := 9) (pc := 182) dL_law_182 rfl ?_
  refine J_if_lt (tgt := 201) (pc := 184) dL_law_184 (by decide) (fun c184 => absurd c184 (nI_pos (by omega))) (fun c184 => ?_)
  refine J_aload_n (i := 1) (pc := 187) dL_law_187 rfl rfl ?_
  refine J_iload (i := 9) (pc := 188) dL_law_188 rfl ?_
  refine J_iload (i := 10) (pc := 190) dL_law_190 rfl ?_
  refine J_iconst (v := nI (0)) (pc := 192) dL_law_192 rfl ?_
  refine J_cVi (st := []) (As := [.int (nI (c / 51)), .int (nI (c % 51)), .int (nI (0))]) (pc := 193) dL_law_193 okX2_gain q2_126 q2_127 q2_128 (rfl : vwCl[2]? = some _) r_9 rfl (Nat.le_of_ble_eq_true rfl) (Nat.le_of_ble_eq_true rfl) (i_gain0 (d := d + 2) I_9 (by omega) (by omega)) ?_
  refine J_if_gt (tgt := 201) (pc := 196) dL_law_196 (by decide) (fun c196 => ?_) (fun c196 => absurd c196 (fun q => q (nI_gt0 hbp (by omega))))
  refine J_aload_n (i := 1) (pc := 201) dL_law_201 rfl rfl ?_
  refine J_bipush (v := nI (6)) (pc := 202) dL_law_202 rfl ?_
  refine J_cVi (st := []) (As := [.int (nI (6))]) (pc := 204) dL_law_204 okX2_count q2_109 q2_110 q2_111 (rfl : vwCl[2]? = some _) r_9 rfl (Nat.le_of_ble_eq_true rfl) (Nat.le_of_ble_eq_true rfl) (i_count6 (d := d + 2) I_9 ) ?_
  refine J_iconst (v := nI (1)) (pc := 207) dL_law_207 rfl ?_
  refine J_icmp_neN (tgt := 279) (pc := 208) dL_law_208 (by decide) (by omega) (by omega) (fun c208 => ?_) (fun c208 => ?_)
  · skip
    refine J_sub (lv' := [(4, .int (x)), (0, .ref (0)), (1, .ref (1)), (2, .int (nI (T))), (3, .int (nI (n)))]) [5, 6, 7, 8, 9] rfl ?_
    exact kk h_5 I_9
  · skip
    have hz := (best_most hW hb3 (show a ≤ 50 by omega)).2 c (by rw [c208] at hb; exact hb)
    refine J_iload (i := 9) (pc := 211) dL_law_211 rfl ?_
    refine J_if_ge (tgt := 231) (pc := 213) dL_law_213 (by decide) (fun c213 => ?_) (fun c213 => absurd c213 (fun q => q (nI_pos' (by omega))))
    refine J_aload_n (i := 1) (pc := 231) dL_law_231 rfl rfl ?_
    refine J_iload (i := 7) (pc := 232) dL_law_232 rfl ?_
    refine J_iload (i := 8) (pc := 234) dL_law_234 rfl ?_
    refine J_iconst (v := nI (0)) (pc := 236) dL_law_236 rfl ?_
    refine J_cVi (st := []) (As := [.int (nI (b)), .int (nI (a)), .int (nI (0))]) (pc := 237) dL_law_237 okX2_gain q2_126 q2_127 q2_128 (rfl : vwCl[2]? = some _) r_9 rfl (Nat.le_of_ble_eq_true rfl) (Nat.le_of_ble_eq_true rfl) (i_gain0 (d := d + 2) I_9 (by omega) (by omega)) ?_
    refine J_i2lN (pc := 240) dL_law_240 (by omega) ?_
    refine J_aload_n (i := 1) (pc := 241) dL_law_241 rfl rfl ?_
    refine J_iload (i := 9) (pc := 242) dL_law_242 rfl ?_
    refine J_iload (i := 10) (pc := 244) dL_law_244 rfl ?_
    refine J_iconst (v := nI (1)) (pc := 246) dL_law_246 rfl ?_
    refine J_cVi (st := [.long (lN (gnS σ.1 (b) (a) 0))]) (As := [.int (nI (c / 51)), .int (nI (c % 51)), .int (nI (1))]) (pc := 247) dL_law_247 okX2_gain q2_126 q2_127 q2_128 (rfl : vwCl[2]? = some _) r_9 rfl (Nat.le_of_ble_eq_true rfl) (Nat.le_of_ble_eq_true rfl) (i_gain1 (d := d + 2) I_9 (by omega) (by omega)) ?_
    refine J_i2lN (pc := 250) dL_law_250 (by omega) ?_
    refine J_lmulN (pc := 251) dL_law_251 ?_
    refine J_aload_n (i := 1) (pc := 252) dL_law_252 rfl rfl ?_
    refine J_iload (i := 9) (pc := 253) dL_law_253 rfl ?_
    refine J_iload (i := 10) (pc := 255) dL_law_255 rfl ?_
    refine J_iconst (v := nI (0)) (pc := 257) dL_law_257 rfl ?_
    refine J_cVi (st := [.long (lN ((gnS σ.1 (b) (a) 0) * (gnS σ.1 (c / 51) (c % 51) 1)))]) (As := [.int (nI (c / 51)), .int (nI (c % 51)), .int (nI (0))]) (pc := 258) dL_law_258 okX2_gain q2_126 q2_127 q2_128 (rfl : vwCl[2]? = some _) r_9 rfl (Nat.le_of_ble_eq_true rfl) (Nat.le_of_ble_eq_true rfl) (i_gain0 (d := d + 2) I_9 (by omega) (by omega)) ?_
    refine J_i2lN (pc := 261) dL_law_261 (by omega) ?_
    refine J_aload_n (i := 1) (pc := 262) dL_law_262 rfl rfl ?_
    refine J_iload (i := 7) (pc := 263) dL_law_263 rfl ?_
    refine J_iload (i := 8) (pc := 265) dL_law_265 rfl ?_
    refine J_iconst (v := nI (1)) (pc := 267) dL_law_267 rfl ?_
    refine J_cVi (st := [.long (lN (gnS σ.1 (c / 51) (c % 51) 0)), .long (lN ((gnS σ.1 (b) (a) 0) * (gnS σ.1 (c / 51) (c % 51) 1)))]) (As := [.int (nI (b)), .int (nI (a)), .int (nI (1))]) (pc := 268) dL_law_268 okX2_gain q2_126 q2_127 q2_128 (rfl : vwCl[2]? = some _) r_9 rfl (Nat.le_of_ble_eq_true rfl) (Nat.le_of_ble_eq_true rfl) (i_gain1 (d := d + 2) I_9 (by omega) (by omega)) ?_
    refine J_i2lN (pc := 271) dL_law_271 (by omega) ?_
    refine J_lmulN (pc := 272) dL_law_272 ?_
    refine J_lcmp (pc := 273) dL_law_273 ?_
    refine J_if_le (tgt := 279) (pc := 274) dL_law_274 (by decide) (fun c274 => ?_) (fun c274 => absurd c274 (fun q => q ((lgc_le (by omega) (by omega)).mpr hz)))
    refine J_sub (lv' := [(4, .int (x)), (0, .ref (0)), (1, .ref (1)), (2, .int (nI (T))), (3, .int (nI (n)))]) [5, 6, 7, 8, 9] rfl ?_
    exact kk h_5 I_9

set_option maxHeartbeats 2000000 in
set_option maxRecDepth 20000 in
theorem l_A {g : GT} {d n T : Nat} {h : MH} {σ : ST} (hL : g_L g ≤ 260) (hn : n < 16) (I : LI h σ T) (kk : ∀ (h' : MH) (σ' : ST) (x : Int32), LI h' σ' T → J g (d + 7) 0 0 mL_law 279 [(4, .int (x)), (0, .ref (0)), (1, .ref (1)), (2, .int (nI (T))), (3, .int (nI (n)))] [] h' QL) : J g (d + 7) 0 0 mL_law 15 [(0, .ref (0)), (1, .ref (1)), (2, .int (nI (T))), (3, .int (nI (n)))] [] h QL := by
  refine l_A1 hL hn I (fun h' σ' x a b ha hb3 I' => ?_)
  cases hb : bestS σ'.1 (gro σ'.1) σ'.2.1.2.2 with
  | none => exact l_A2N hL hn ha hb3 I' hb (fun h2 I2 => kk h2 σ' x I2)
  | some c => exact l_A2S hL hn ha hb3 I' hb (fun h2 I2 => kk h2 σ' x I2)

