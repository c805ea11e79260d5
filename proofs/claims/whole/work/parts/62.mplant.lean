-- the reference: planting, felling
set_option maxHeartbeats 2000000 in
set_option maxRecDepth 20000 in
theorem mgb_loop {g : GT} {dd ca sa : Nat} {h : MH} {σ : ST} {ρ : Nat → Nat} {th : Int32} (hP : MP h σ ρ th) {P : Nat} {L : Int32} {Q : RT → MH → Prop} (hP1 : 1 ≤ P) (hP5 : P ≤ 5) : ∀ (m b s : Nat), b + m = σ.1.1 → s < 2 ^ 20 → J g dd ca sa mX3_plant 71 [(3, .int (nI (gbF P L m b s))), (0, .ref (53)), (1, .int (nI (P))), (2, .int (L))] [] h Q → J g dd ca sa mX3_plant 39 [(4, .int (nI (b))), (3, .int (nI (s))), (0, .ref (53)), (1, .int (nI (P))), (2, .int (L))] [] h Q := by
  obtain ⟨a1, a2, a3, a4, ⟨mf, a5, a5b⟩, ⟨sf, a6, a6b⟩, ⟨rf, a7, a7b⟩, ⟨pf, a8, a8b⟩, ⟨lf, a9, a9b⟩, a10, a11⟩ := id hP
  obtain ⟨o1, o2, o3, o4⟩ := id a2
  have hM := MP_MS hP
  obtain ⟨hn, hc9, hm5, hs2⟩ := id a1
  have hp9 := pw_le hn
  intro m
  induction m with
  | zero =>
    intro b s hb hs hq
    refine J_iload (i := 4) (pc := 39) dX3_plant_39 rfl ?_
    refine J_aload_n (i := 0) (pc := 41) dX3_plant_41 rfl rfl ?_
    refine J_getf (k := 1) (pc := 42) dX3_plant_42 flX3_44 a4 rfl ?_
    refine J_icmp_geN (tgt := 71) (pc := 45) dX3_plant_45 (by decide) (by omega) (by omega) (fun c45 => ?_) (fun c45 => by exfalso; first | omega | simp_all)
    refine J_sub (lv' := [(3, .int (nI (s))), (0, .ref (53)), (1, .int (nI (P))), (2, .int (L))]) [1, 2, 3, 4] rfl ?_
    exact hq
  | succ m ih =>
    intro b s hb hs hq
    refine J_iload (i := 4) (pc := 39) dX3_plant_39 rfl ?_
    refine J_aload_n (i := 0) (pc := 41) dX3_plant_41 rfl rfl ?_
    refine J_getf (k := 1) (pc := 42) dX3_plant_42 flX3_44 a4 rfl ?_
    refine J_icmp_geN (tgt := 71) (pc := 45) dX3_plant_45 (by decide) (by omega) (by omega) (fun c45 => by exfalso; first | omega | simp_all) (fun c45 => ?_)
    refine J_iload (i := 4) (pc := 48) dX3_plant_48 rfl ?_
    refine J_iload_n (i := 1) (pc := 50) dX3_plant_50 rfl rfl ?_
    refine J_iremN (pc := 51) dX3_plant_51 (by omega) (by omega) (by omega) ?_
    refine J_iload_n (i := 2) (pc := 52) dX3_plant_52 rfl rfl ?_
    refine J_icmp_ne (tgt := 65) (pc := 53) dX3_plant_53 (by decide) (fun c53 => ?_) (fun c53 => ?_)
    · skip
      refine J_iinc (i := 4) (v := nI (b + 1)) (lv' := [(4, .int (nI (b + 1))), (3, .int (nI (s))), (0, .ref (53)), (1, .int (nI (P))), (2, .int (L))]) (pc := 65) dX3_plant_65 rfl (nI_add (b) 1) (by decide) rfl ?_
      refine J_goto (tgt := 39) (pc := 68) dX3_plant_68 (by decide) ?_
      refine J_sub (lv' := [(4, .int (nI (b + 1))), (3, .int (nI (s))), (0, .ref (53)), (1, .int (nI (P))), (2, .int (L))]) [0, 1, 2, 3, 4] rfl ?_
      have r := ih (b + 1) (s) (by omega) (by have := sdf_le s (2 ^ b); omega)
      rw [gbF, if_neg c53] at hq
      exact r hq
    · skip
      refine J_iload_n (i := 3) (pc := 56) dX3_plant_56 rfl rfl ?_
      refine J_iconst (v := nI (1)) (pc := 57) dX3_plant_57 rfl ?_
      refine J_iload (i := 4) (pc := 58) dX3_plant_58 rfl ?_
      refine J_ishlN (pc := 60) dX3_plant_60 (by omega) ?_
      refine J_iconst (v := (-1)) (pc := 61) dX3_plant_61 rfl ?_
      refine J_ixor (pc := 62) dX3_plant_62 ?_
      refine J_iandX (pc := 63) dX3_plant_63 ?_
      refine J_istore_n (i := 3) (lv' := [(3, .int (nI (sdf (s) (2 ^ (b))))), (4, .int (nI (b))), (0, .ref (53)), (1, .int (nI (P))), (2, .int (L))]) (pc := 64) dX3_plant_64 rfl (by decide) rfl ?_
      refine J_iinc (i := 4) (v := nI (b + 1)) (lv' := [(4, .int (nI (b + 1))), (3, .int (nI (sdf (s) (2 ^ (b))))), (0, .ref (53)), (1, .int (nI (P))), (2, .int (L))]) (pc := 65) dX3_plant_65 rfl (nI_add (b) 1) (by decide) rfl ?_
      refine J_goto (tgt := 39) (pc := 68) dX3_plant_68 (by decide) ?_
      refine J_sub (lv' := [(4, .int (nI (b + 1))), (3, .int (nI (sdf (s) (2 ^ (b))))), (0, .ref (53)), (1, .int (nI (P))), (2, .int (L))]) [0, 1, 2, 3, 4] rfl ?_
      have r := ih (b + 1) (sdf (s) (2 ^ (b))) (by omega) (by have := sdf_le s (2 ^ b); omega)
      rw [gbF, if_pos c53] at hq
      exact r hq

set_option maxHeartbeats 2000000 in
set_option maxRecDepth 20000 in
theorem m_plant {g : GT} {dd : Nat} {h : MH} {σ : ST} {ρ : Nat → Nat} {th : Int32} (hP : MP h σ ρ th) {P : Nat} {L : Int32} (hPa : 1 ≤ P) (hPb : P ≤ 5) (hL1 : -1 ≤ L.toInt) (hL : L.toInt < (P : Int)) (hk5 : σ.2.1.1 < 5) (hg0 : gbS σ.1 P L ≠ 0) : J g (dd + 12) (1 + (3 * (cnt (gbS σ.1 P L) * σ.2.1.2.1) + cnt (gbS σ.1 P L))) (320 + (11 * (cnt (gbS σ.1 P L) * σ.2.1.2.1) + 5 * cnt (gbS σ.1 P L))) mX3_plant 0 (lv_args 0 [.ref (53), .int (nI (P)), .int (L)]) [] h (RMo (.int (nI σ.2.1.1)) h ((σ.1, (σ.2.1.1 + 1, σ.2.1.2.1, σ.2.1.2.2), va_up σ.2.2.1 σ.2.1.1 (grT σ.1 σ.2.1.2.2 5 σ.2.1.2.1 (gbS σ.1 P L)), va_up σ.2.2.2.1 σ.2.1.1 (nI P), va_up σ.2.2.2.2 σ.2.1.1 L)) (nI 0)) := by
  have a40 := hP.2.2.2.1
  have hz0 := hP.2.2.1
  refine J_aload_n (i := 0) (pc := 0) dX3_plant_0 rfl rfl ?_
  refine J_iconst (v := nI (0)) (pc := 1) dX3_plant_1 rfl ?_
  refine J_putf (k := 0) (pc := 2) dX3_plant_2 fpX3_plant_34 (fun g => ⟨rfl, rfl⟩) a40 (Nat.le_of_ble_eq_true rfl) ?_
  obtain ⟨h_1, eh_1⟩ : ∃ z : MH, z = (h.1, hset h.2 (53) (oB 3 [.int (nI (0)), .int (nI (σ.1.1)), .ref (54), .ref (55), .int (nI (σ.1.2.1)), .int (nI (σ.2.1.2.1)), .int (nI (σ.2.1.2.2)), .int (nI (σ.2.1.1)), .ref (56), .ref (57), .ref (58)])) := ⟨_, rfl⟩
  refine J_heq (h2 := h_1) eh_1 ?_
  have zh_1 : h_1.1 = h.1 := by rw [eh_1]
  have H_2 : h_1.2 (53) = some (oB 3 [.int (nI (0)), .int (nI (σ.1.1)), .ref (54), .ref (55), .int (nI (σ.1.2.1)), .int (nI (σ.2.1.2.1)), .int (nI (σ.2.1.2.2)), .int (nI (σ.2.1.1)), .ref (56), .ref (57), .ref (58)]) := hs_s eh_1
  have hP1 : MP h_1 σ ρ (nI 0) := MP_53 hP eh_1
  have fm1 : FM h h_1 := FM_set eh_1 (by decide) (by decide)
  obtain ⟨a1, a2, a3, a4, ⟨mf, a5, a5b⟩, ⟨sf, a6, a6b⟩, ⟨rf, a7, a7b⟩, ⟨pf, a8, a8b⟩, ⟨lf, a9, a9b⟩, a10, a11⟩ := id hP1
  obtain ⟨o1, o2, o3, o4⟩ := id a2
  have hM := MP_MS hP1
  obtain ⟨hn, hc9, hm5, hs2⟩ := id a1
  have hp9 := pw_le hn
  have hP1x := hP1
  have hgb := gb_lt a1 P L
  have hgn : gbS σ.1 P L < 2 ^ σ.1.1 := Nat.lt_of_le_of_lt (gbF_le P L σ.1.1 0 (gro σ.1)) (gro_n a1)
  have hc1 : 1 ≤ cnt (gbS σ.1 P L) := cnt_pos hgb hg0
  refine J_iload_n (i := 1) (pc := 5) dX3_plant_5 rfl rfl ?_
  refine J_iconst (v := nI (1)) (pc := 6) dX3_plant_6 rfl ?_
  refine J_iconst (v := nI (5)) (pc := 7) dX3_plant_7 rfl ?_
  refine J_cSi (st := []) (As := [.int (nI (P)), .int (nI (1)), .int (nI (5))]) (pc := 8) dX3_plant_8 okX3_isIn q3_166 q3_167 rfl (Nat.le_of_ble_eq_true rfl) (Nat.le_of_ble_eq_true rfl) (m_inT (by omega) (by omega) (inZ_nI (by omega) (by omega) (by decide))) ?_
  refine J_if_eqN (tgt := 25) (pc := 11) dX3_plant_11 (by decide) (by omega) (fun c11 => by exfalso; first | omega | simp_all) (fun c11 => ?_)
  refine J_iload_n (i := 2) (pc := 14) dX3_plant_14 rfl rfl ?_
  refine J_iconst (v := (-1)) (pc := 15) dX3_plant_15 rfl ?_
  refine J_iload_n (i := 1) (pc := 16) dX3_plant_16 rfl rfl ?_
  refine J_iconst (v := nI (1)) (pc := 17) dX3_plant_17 rfl ?_
  refine J_isubN (pc := 18) dX3_plant_18 (by omega) ?_
  refine J_cSi (st := []) (As := [.int (L), .int (-1), .int (nI ((P) - (1)))]) (pc := 19) dX3_plant_19 okX3_isIn q3_166 q3_167 rfl (Nat.le_of_ble_eq_true rfl) (Nat.le_of_ble_eq_true rfl) (m_isInT ⟨by rw [m32]; exact hL1, by rw [nI_toInt (by omega)]; omega⟩) ?_
  refine J_if_neN (tgt := 31) (pc := 22) dX3_plant_22 (by decide) (by omega) (fun c22 => ?_) (fun c22 => by exfalso; first | omega | simp_all)
  refine J_aload_n (i := 0) (pc := 31) dX3_plant_31 rfl rfl ?_
  refine J_cVi (st := []) (As := []) (pc := 32) dX3_plant_32 okX3_growing q3_199 q3_201 qs1_14 (rfl : vwCl[3]? = some _) a4 rfl (Nat.le_of_ble_eq_true rfl) (Nat.le_of_ble_eq_true rfl) (m_growing hM) ?_
  refine J_istore_n (i := 3) (lv' := [(3, .int (nI (gro σ.1))), (0, .ref (53)), (1, .int (nI (P))), (2, .int (L))]) (pc := 35) dX3_plant_35 rfl (by decide) rfl ?_
  refine J_iconst (v := nI (0)) (pc := 36) dX3_plant_36 rfl ?_
  refine J_istore (i := 4) (lv' := [(4, .int (nI (0))), (3, .int (nI (gro σ.1))), (0, .ref (53)), (1, .int (nI (P))), (2, .int (L))]) (pc := 37) dX3_plant_37 (by decide) rfl ?_
  refine J_sub (lv' := [(4, .int (nI (0))), (3, .int (nI (gro σ.1))), (0, .ref (53)), (1, .int (nI (P))), (2, .int (L))]) [0, 1, 2, 3, 4] rfl ?_
  refine mgb_loop hP1x hPa hPb σ.1.1 0 _ (Nat.zero_add _) (gro_lt a1) ?_
  rw [show gbF P L σ.1.1 0 (gro σ.1) = gbS σ.1 P L from rfl]
  refine J_aload_n (i := 0) (pc := 71) dX3_plant_71 rfl rfl ?_
  refine J_getf (k := 7) (pc := 72) dX3_plant_72 flX3_37 a4 rfl ?_
  refine J_iconst (v := nI (5)) (pc := 75) dX3_plant_75 rfl ?_
  refine J_icmp_eqN (tgt := 83) (pc := 76) dX3_plant_76 (by decide) (by omega) (by omega) (fun c76 => by exfalso; first | omega | simp_all) (fun c76 => ?_)
  refine J_iload_n (i := 3) (pc := 79) dX3_plant_79 rfl rfl ?_
  refine J_if_neN (tgt := 89) (pc := 80) dX3_plant_80 (by decide) (by omega) (fun c80 => ?_) (fun c80 => absurd c80 (fun q => hg0 q))
  refine J_aload_n (i := 0) (pc := 89) dX3_plant_89 rfl rfl ?_
  refine J_getf (k := 8) (pc := 90) dX3_plant_90 flX3_24 a4 rfl ?_
  refine J_aload_n (i := 0) (pc := 93) dX3_plant_93 rfl rfl ?_
  refine J_getf (k := 7) (pc := 94) dX3_plant_94 flX3_37 a4 rfl ?_
  refine J_aload_n (i := 0) (pc := 97) dX3_plant_97 rfl rfl ?_
  refine J_iload_n (i := 3) (pc := 98) dX3_plant_98 rfl rfl ?_
  refine J_aload_n (i := 0) (pc := 99) dX3_plant_99 rfl rfl ?_
  refine J_getf (k := 5) (pc := 100) dX3_plant_100 flX3_16 a4 rfl ?_
  refine J_aload_n (i := 0) (pc := 103) dX3_plant_103 rfl rfl ?_
  refine J_getf (k := 6) (pc := 104) dX3_plant_104 flX3_20 a4 rfl ?_
  refine J_cVB (st := [.int (nI (σ.2.1.1)), .ref (56)]) (As := [.int (nI (gbS σ.1 P L)), .int (nI (σ.2.1.2.1)), .int (nI (σ.2.1.2.2))]) (v := some (.ref (h_1.1))) (ca1 := 1 + (3 * (cnt (gbS σ.1 P L) * σ.2.1.2.1) + cnt (gbS σ.1 P L))) (sa1 := 320 + (11 * (cnt (gbS σ.1 P L) * σ.2.1.2.1) + 5 * cnt (gbS σ.1 P L))) (ca2 := 0) (sa2 := 0) (pc := 107) dX3_plant_107 okX3_grown q3_203 q3_205 qs1_15 (rfl : vwCl[3]? = some _) a4 rfl (Nat.le_of_ble_eq_true rfl) (Nat.le_of_ble_eq_true rfl) (m_grown (dd := dd) hM (by omega) (by omega) (by omega) hgn hc1 (by omega)) (by omega) (by omega) (fun h_3 q_4 => ?_)
  obtain ⟨B, eB⟩ : ∃ z : Nat, z = h_1.1 := ⟨_, rfl⟩
  rw [← eB]
  obtain ⟨xB, zB, fB, kB, rwB⟩ := q_4
  rw [← eB] at kB zB
  have zh_3 := xB.1
  have H_5 : h_3.2 (53) = some (oB 3 [.int (nI (0)), .int (nI (σ.1.1)), .ref (54), .ref (55), .int (nI (σ.1.2.1)), .int (nI (σ.2.1.2.1)), .int (nI (σ.2.1.2.2)), .int (nI (σ.2.1.1)), .ref (56), .ref (57), .ref (58)]) := (xB.2 _ (by omega)).trans a4
  have H_6 : h_3.2 (54) = some (aI (60) (mf)) := (xB.2 _ (by omega)).trans a5
  have H_7 : h_3.2 (55) = some (aI (20) (sf)) := (xB.2 _ (by omega)).trans a6
  have H_8 : h_3.2 (56) = some (aG (5) (rf)) := (xB.2 _ (by omega)).trans a7
  have H_9 : h_3.2 (57) = some (aI (5) (pf)) := (xB.2 _ (by omega)).trans a8
  have H_10 : h_3.2 (58) = some (aI (5) (lf)) := (xB.2 _ (by omega)).trans a9
  have H_11 : FM h h_3 := FM_tr fm1 (FM_ext (by omega) xB)
  have H_12 : (∀ i, 60 ≤ i → i < h_1.1 → h_3.2 i = h_1.2 i) := fun i i1 i2 => (xB.2 i (by omega)).trans ((fun i _ _ => rfl) i i1 i2)
  refine J_astG (j := σ.2.1.1) (pc := 110) dX3_plant_110 H_8 kB rfl (by omega) (by omega) ?_
  obtain ⟨h_13, eh_13⟩ : ∃ z : MH, z = (h_3.1, hset h_3.2 (56) (aG (5) (va_up rf (σ.2.1.1) (some (B))))) := ⟨_, rfl⟩
  refine J_heq (h2 := h_13) eh_13 ?_
  have zh_13 : h_13.1 = h_3.1 := by rw [eh_13]
  have H_14 : h_13.2 (53) = some (oB 3 [.int (nI (0)), .int (nI (σ.1.1)), .ref (54), .ref (55), .int (nI (σ.1.2.1)), .int (nI (σ.2.1.2.1)), .int (nI (σ.2.1.2.2)), .int (nI (σ.2.1.1)), .ref (56), .ref (57), .ref (58)]) := (hs_n eh_13 (by omega)).trans H_5
  have H_15 : h_13.2 (54) = some (aI (60) (mf)) := (hs_n eh_13 (by omega)).trans H_6
  have H_16 : h_13.2 (55) = some (aI (20) (sf)) := (hs_n eh_13 (by omega)).trans H_7
  have H_17 : h_13.2 (56) = some (aG (5) (va_up rf (σ.2.1.1) (some (B)))) := hs_s eh_13
  have H_18 : h_13.2 (57) = some (aI (5) (pf)) := (hs_n eh_13 (by omega)).trans H_9
  have H_19 : h_13.2 (58) = some (aI (5) (lf)) := (hs_n eh_13 (by omega)).trans H_10
  have H_20 : FM h h_13 := by rw [eh_13]; exact FM_st H_11 (by omega) (by omega) rfl
  have H_21 : (∀ i, 60 ≤ i → i < h_1.1 → h_13.2 i = h_1.2 i) := by rw [eh_13]; exact (fun i i1 i2 => (hset_n (by omega)).trans (H_12 i i1 i2))
  have H_22 : h_13.2 (B) = some (aI (320) (fB)) := (hs_n eh_13 (by omega)).trans kB
  refine J_aload_n (i := 0) (pc := 111) dX3_plant_111 rfl rfl ?_
  refine J_getf (k := 9) (pc := 112) dX3_plant_112 flX3_28 H_14 rfl ?_
  refine J_aload_n (i := 0) (pc := 115) dX3_plant_115 rfl rfl ?_
  refine J_getf (k := 7) (pc := 116) dX3_plant_116 flX3_37 H_14 rfl ?_
  refine J_iload_n (i := 1) (pc := 119) dX3_plant_119 rfl rfl ?_
  refine J_iast (j := σ.2.1.1) (pc := 120) dX3_plant_120 H_18 rfl (by omega) (by omega) ?_
  obtain ⟨h_23, eh_23⟩ : ∃ z : MH, z = (h_13.1, hset h_13.2 (57) (aI (5) (upd pf (σ.2.1.1) (nI (P))))) := ⟨_, rfl⟩
  refine J_heq (h2 := h_23) eh_23 ?_
  have zh_23 : h_23.1 = h_13.1 := by rw [eh_23]
  have H_24 : h_23.2 (53) = some (oB 3 [.int (nI (0)), .int (nI (σ.1.1)), .ref (54), .ref (55), .int (nI (σ.1.2.1)), .int (nI (σ.2.1.2.1)), .int (nI (σ.2.1.2.2)), .int (nI (σ.2.1.1)), .ref (56), .ref (57), .ref (58)]) := (hs_n eh_23 (by omega)).trans H_14
  have H_25 : h_23.2 (54) = some (aI (60) (mf)) := (hs_n eh_23 (by omega)).trans H_15
  have H_26 : h_23.2 (55) = some (aI (20) (sf)) := (hs_n eh_23 (by omega)).trans H_16
  have H_27 : h_23.2 (56) = some (aG (5) (va_up rf (σ.2.1.1) (some (B)))) := (hs_n eh_23 (by omega)).trans H_17
  have H_28 : h_23.2 (57) = some (aI (5) (upd pf (σ.2.1.1) (nI (P)))) := hs_s eh_23
  have H_29 : h_23.2 (58) = some (aI (5) (lf)) := (hs_n eh_23 (by omega)).trans H_19
  have H_30 : FM h h_23 := by rw [eh_23]; exact FM_st H_20 (by omega) (by omega) rfl
  have H_31 : (∀ i, 60 ≤ i → i < h_1.1 → h_23.2 i = h_1.2 i) := by rw [eh_23]; exact (fun i i1 i2 => (hset_n (by omega)).trans (H_21 i i1 i2))
  have H_32 : h_23.2 (B) = some (aI (320) (fB)) := (hs_n eh_23 (by omega)).trans H_22
  refine J_aload_n (i := 0) (pc := 121) dX3_plant_121 rfl rfl ?_
  refine J_getf (k := 10) (pc := 122) dX3_plant_122 flX3_31 H_24 rfl ?_
  refine J_aload_n (i := 0) (pc := 125) dX3_plant_125 rfl rfl ?_
  refine J_getf (k := 7) (pc := 126) dX3_plant_126 flX3_37 H_24 rfl ?_
  refine J_iload_n (i := 2) (pc := 129) dX3_plant_129 rfl rfl ?_
  refine J_iast (j := σ.2.1.1) (pc := 130) dX3_plant_130 H_29 rfl (by omega) (by omega) ?_
  obtain ⟨h_33, eh_33⟩ : ∃ z : MH, z = (h_23.1, hset h_23.2 (58) (aI (5) (upd lf (σ.2.1.1) ((L))))) := ⟨_, rfl⟩
  refine J_heq (h2 := h_33) eh_33 ?_
  have zh_33 : h_33.1 = h_23.1 := by rw [eh_33]
  have H_34 : h_33.2 (53) = some (oB 3 [.int (nI (0)), .int (nI (σ.1.1)), .ref (54), .ref (55), .int (nI (σ.1.2.1)), .int (nI (σ.2.1.2.1)), .int (nI (σ.2.1.2.2)), .int (nI (σ.2.1.1)), .ref (56), .ref (57), .ref (58)]) := (hs_n eh_33 (by omega)).trans H_24
  have H_35 : h_33.2 (54) = some (aI (60) (mf)) := (hs_n eh_33 (by omega)).trans H_25
  have H_36 : h_33.2 (55) = some (aI (20) (sf)) := (hs_n eh_33 (by omega)).trans H_26
  have H_37 : h_33.2 (56) = some (aG (5) (va_up rf (σ.2.1.1) (some (B)))) := (hs_n eh_33 (by omega)).trans H_27
  have H_38 : h_33.2 (57) = some (aI (5) (upd pf (σ.2.1.1) (nI (P)))) := (hs_n eh_33 (by omega)).trans H_28
  have H_39 : h_33.2 (58) = some (aI (5) (upd lf (σ.2.1.1) ((L)))) := hs_s eh_33
  have H_40 : FM h h_33 := by rw [eh_33]; exact FM_st H_30 (by omega) (by omega) rfl
  have H_41 : (∀ i, 60 ≤ i → i < h_1.1 → h_33.2 i = h_1.2 i) := by rw [eh_33]; exact (fun i i1 i2 => (hset_n (by omega)).trans (H_31 i i1 i2))
  have H_42 : h_33.2 (B) = some (aI (320) (fB)) := (hs_n eh_33 (by omega)).trans H_32
  refine J_aload_n (i := 0) (pc := 131) dX3_plant_131 rfl rfl ?_
  refine J_dup (pc := 132) dX3_plant_132 rfl ?_
  refine J_getf (k := 7) (pc := 133) dX3_plant_133 flX3_37 H_34 rfl ?_
  refine J_iconst (v := nI (1)) (pc := 136) dX3_plant_136 rfl ?_
  refine J_iaddN (pc := 137) dX3_plant_137 ?_
  refine J_putf (k := 7) (pc := 138) dX3_plant_138 fpX3_plant_37 (fun g => ⟨rfl, rfl⟩) H_34 (Nat.le_of_ble_eq_true rfl) ?_
  obtain ⟨h_43, eh_43⟩ : ∃ z : MH, z = (h_33.1, hset h_33.2 (53) (oB 3 [.int (nI (0)), .int (nI (σ.1.1)), .ref (54), .ref (55), .int (nI (σ.1.2.1)), .int (nI (σ.2.1.2.1)), .int (nI (σ.2.1.2.2)), .int (nI (σ.2.1.1 + 1)), .ref (56), .ref (57), .ref (58)])) := ⟨_, rfl⟩
  refine J_heq (h2 := h_43) eh_43 ?_
  have zh_43 : h_43.1 = h_33.1 := by rw [eh_43]
  have H_44 : h_43.2 (53) = some (oB 3 [.int (nI (0)), .int (nI (σ.1.1)), .ref (54), .ref (55), .int (nI (σ.1.2.1)), .int (nI (σ.2.1.2.1)), .int (nI (σ.2.1.2.2)), .int (nI (σ.2.1.1 + 1)), .ref (56), .ref (57), .ref (58)]) := hs_s eh_43
  have H_45 : h_43.2 (54) = some (aI (60) (mf)) := (hs_n eh_43 (by omega)).trans H_35
  have H_46 : h_43.2 (55) = some (aI (20) (sf)) := (hs_n eh_43 (by omega)).trans H_36
  have H_47 : h_43.2 (56) = some (aG (5) (va_up rf (σ.2.1.1) (some (B)))) := (hs_n eh_43 (by omega)).trans H_37
  have H_48 : h_43.2 (57) = some (aI (5) (upd pf (σ.2.1.1) (nI (P)))) := (hs_n eh_43 (by omega)).trans H_38
  have H_49 : h_43.2 (58) = some (aI (5) (upd lf (σ.2.1.1) ((L)))) := (hs_n eh_43 (by omega)).trans H_39
  have H_50 : FM h h_43 := by rw [eh_43]; exact FM_st H_40 (by omega) (by omega) rfl
  have H_51 : (∀ i, 60 ≤ i → i < h_1.1 → h_43.2 i = h_1.2 i) := by rw [eh_43]; exact (fun i i1 i2 => (hset_n (by omega)).trans (H_41 i i1 i2))
  have H_52 : h_43.2 (B) = some (aI (320) (fB)) := (hs_n eh_43 (by omega)).trans H_42
  refine J_aload_n (i := 0) (pc := 141) dX3_plant_141 rfl rfl ?_
  refine J_getf (k := 7) (pc := 142) dX3_plant_142 flX3_37 H_44 rfl ?_
  refine J_iconst (v := nI (1)) (pc := 145) dX3_plant_145 rfl ?_
  refine J_isubN (pc := 146) dX3_plant_146 (by omega) ?_
  refine J_iret (ty := .int) (pc := 147) dX3_plant_147 rfl rfl ?_
  have hN := nN_gr (β := σ.1) o3.1 5 σ.2.1.2.1 (gbS σ.1 P L) hc1
  have hcs := cnt_le (gbS σ.1 P L)
  refine ⟨congrArg (fun z : Nat => (Sum.inl (some (Value.int (nI z))) : RT)) (by omega), H_50, va_up ρ σ.2.1.1 B, MP_mk (h := h) (σ := σ) (σ' := (σ.1, (σ.2.1.1 + 1, σ.2.1.2.1, σ.2.1.2.2), va_up σ.2.2.1 σ.2.1.1 (grT σ.1 σ.2.1.2.2 5 σ.2.1.2.1 (gbS σ.1 P L)), va_up σ.2.2.2.1 σ.2.1.1 (nI P), va_up σ.2.2.2.2 σ.2.1.1 L)) (ρ := ρ) a1 ⟨by show σ.2.1.1 + 1 ≤ 5; omega, o2, o3, ?_⟩ (by omega) H_44 ⟨mf, H_45, a5b⟩ ⟨sf, H_46, a6b⟩ ⟨_, H_47, ?_⟩ ⟨_, H_48, ?_⟩ ⟨_, H_49, ?_⟩ ?_ ?_⟩
  · intro i hi
    have hi2 : i < σ.2.1.1 + 1 := hi
    show okT 5 (va_up σ.2.2.1 σ.2.1.1 _ i) ∧ nN 5 (va_up σ.2.2.1 σ.2.1.1 _ i) ≤ 39
    by_cases e : i = σ.2.1.1
    · rw [e, va_up_self]
      exact ⟨ok_gr _ _ _ _ _, by omega⟩
    · rw [va_up_ne _ _ e]
      exact o4 i (by omega)
  · intro i hi
    have hi2 : i < σ.2.1.1 + 1 := hi
    by_cases e : i = σ.2.1.1
    · rw [e, va_up_self, va_up_self]
    · rw [va_up_ne _ _ e, va_up_ne _ _ e]
      exact a7b i (by omega)
  · intro i hi
    have hi2 : i < σ.2.1.1 + 1 := hi
    show upd pf σ.2.1.1 (nI P) i = va_up σ.2.2.2.1 σ.2.1.1 (nI P) i
    by_cases e : i = σ.2.1.1
    · rw [e, va_up_self, pk_us]
    · rw [va_up_ne _ _ e, pk_un e]
      exact a8b i (by omega)
  · intro i hi
    have hi2 : i < σ.2.1.1 + 1 := hi
    show upd lf σ.2.1.1 L i = va_up σ.2.2.2.2 σ.2.1.1 L i
    by_cases e : i = σ.2.1.1
    · rw [e, va_up_self, pk_us]
    · rw [va_up_ne _ _ e, pk_un e]
      exact a9b i (by omega)
  · intro i hi
    have hi2 : i < σ.2.1.1 + 1 := hi
    show 60 ≤ va_up ρ σ.2.1.1 B i ∧ va_up ρ σ.2.1.1 B i < h_43.1 ∧ ∃ f', h_43.2 (va_up ρ σ.2.1.1 B i) = some (aI 320 f') ∧ RW f' 5 1 (va_up σ.2.2.1 σ.2.1.1 _ i)
    by_cases e : i = σ.2.1.1
    · rw [e, va_up_self, va_up_self]
      exact ⟨by omega, by omega, fB, H_52, rwB⟩
    · rw [va_up_ne _ _ e, va_up_ne _ _ e]
      obtain ⟨b1, b2, f9, b3, b4⟩ := a10 i (by omega)
      exact ⟨b1, by omega, f9, (H_51 _ b1 b2).trans b3, b4⟩
  · intro i i' hi hi'
    have hi2 : i < σ.2.1.1 + 1 := hi
    have hi2' : i' < σ.2.1.1 + 1 := hi'
    by_cases e : i = σ.2.1.1
    · by_cases e' : i' = σ.2.1.1
      · intro _; omega
      · rw [e, va_up_self, va_up_ne _ _ e']
        intro q
        have := (a10 i' (by omega)).2.1
        omega
    · by_cases e' : i' = σ.2.1.1
      · rw [e', va_up_self, va_up_ne _ _ e]
        intro q
        have := (a10 i (by omega)).2.1
        omega
      · rw [va_up_ne _ _ e, va_up_ne _ _ e']
        exact a11 i i' (by omega) (by omega)

set_option maxHeartbeats 2000000 in
set_option maxRecDepth 20000 in
theorem m_plantX1 {g : GT} {dd : Nat} {h : MH} {σ : ST} {ρ : Nat → Nat} {th : Int32} (hP : MP h σ ρ th) {P L : Int32} (hx : ¬ inZ 1 5 P) : J g (dd + 12) 0 0 mX3_plant 0 (lv_args 0 [.ref (53), .int (P), .int (L)]) [] h (RMo (.int (nI 0)) h σ (nI 1)) := by
  have a40 := hP.2.2.2.1
  have hz0 := hP.2.2.1
  refine J_aload_n (i := 0) (pc := 0) dX3_plant_0 rfl rfl ?_
  refine J_iconst (v := nI (0)) (pc := 1) dX3_plant_1 rfl ?_
  refine J_putf (k := 0) (pc := 2) dX3_plant_2 fpX3_plant_34 (fun g => ⟨rfl, rfl⟩) a40 (Nat.le_of_ble_eq_true rfl) ?_
  obtain ⟨h_1, eh_1⟩ : ∃ z : MH, z = (h.1, hset h.2 (53) (oB 3 [.int (nI (0)), .int (nI (σ.1.1)), .ref (54), .ref (55), .int (nI (σ.1.2.1)), .int (nI (σ.2.1.2.1)), .int (nI (σ.2.1.2.2)), .int (nI (σ.2.1.1)), .ref (56), .ref (57), .ref (58)])) := ⟨_, rfl⟩
  refine J_heq (h2 := h_1) eh_1 ?_
  have zh_1 : h_1.1 = h.1 := by rw [eh_1]
  have H_2 : h_1.2 (53) = some (oB 3 [.int (nI (0)), .int (nI (σ.1.1)), .ref (54), .ref (55), .int (nI (σ.1.2.1)), .int (nI (σ.2.1.2.1)), .int (nI (σ.2.1.2.2)), .int (nI (σ.2.1.1)), .ref (56), .ref (57), .ref (58)]) := hs_s eh_1
  have hP1 : MP h_1 σ ρ (nI 0) := MP_53 hP eh_1
  have fm1 : FM h h_1 := FM_set eh_1 (by decide) (by decide)
  obtain ⟨a1, a2, a3, a4, ⟨mf, a5, a5b⟩, ⟨sf, a6, a6b⟩, ⟨rf, a7, a7b⟩, ⟨pf, a8, a8b⟩, ⟨lf, a9, a9b⟩, a10, a11⟩ := id hP1
  obtain ⟨o1, o2, o3, o4⟩ := id a2
  have hM := MP_MS hP1
  obtain ⟨hn, hc9, hm5, hs2⟩ := id a1
  have hp9 := pw_le hn
  refine J_iload_n (i := 1) (pc := 5) dX3_plant_5 rfl rfl ?_
  refine J_iconst (v := nI (1)) (pc := 6) dX3_plant_6 rfl ?_
  refine J_iconst (v := nI (5)) (pc := 7) dX3_plant_7 rfl ?_
  refine J_cSi (st := []) (As := [.int (P), .int (nI (1)), .int (nI (5))]) (pc := 8) dX3_plant_8 okX3_isIn q3_166 q3_167 rfl (Nat.le_of_ble_eq_true rfl) (Nat.le_of_ble_eq_true rfl) (m_inF (by omega) (by omega) (hx)) ?_
  refine J_if_eqN (tgt := 25) (pc := 11) dX3_plant_11 (by decide) (by omega) (fun c11 => ?_) (fun c11 => by exfalso; first | omega | simp_all)
  refine J_aload_n (i := 0) (pc := 25) dX3_plant_25 rfl rfl ?_
  refine J_iconst (v := nI (1)) (pc := 26) dX3_plant_26 rfl ?_
  refine J_cVh (st := []) (As := [.int (nI (1))]) (pc := 27) dX3_plant_27 okX3_no q3_169 q3_171 qs1_13 (rfl : vwCl[3]? = some _) a4 rfl (Nat.le_of_ble_eq_true rfl) (Nat.le_of_ble_eq_true rfl) (m_no hP1) (fun h_3 q_4 => ?_)
  refine J_iret (ty := .int) (pc := 30) dX3_plant_30 rfl rfl ?_
  exact ⟨rfl, FM_tr fm1 q_4.1, ρ, q_4.2⟩

set_option maxHeartbeats 2000000 in
set_option maxRecDepth 20000 in
theorem m_plantX2 {g : GT} {dd : Nat} {h : MH} {σ : ST} {ρ : Nat → Nat} {th : Int32} (hP : MP h σ ρ th) {P : Nat} {L : Int32} (hPa : 1 ≤ P) (hPb : P ≤ 5) (hx : ¬ (-1 ≤ L.toInt ∧ L.toInt < (P : Int))) : J g (dd + 12) 0 0 mX3_plant 0 (lv_args 0 [.ref (53), .int (nI (P)), .int (L)]) [] h (RMo (.int (nI 0)) h σ (nI 1)) := by
  have a40 := hP.2.2.2.1
  have hz0 := hP.2.2.1
  refine J_aload_n (i := 0) (pc := 0) dX3_plant_0 rfl rfl ?_
  refine J_iconst (v := nI (0)) (pc := 1) dX3_plant_1 rfl ?_
  refine J_putf (k := 0) (pc := 2) dX3_plant_2 fpX3_plant_34 (fun g => ⟨rfl, rfl⟩) a40 (Nat.le_of_ble_eq_true rfl) ?_
  obtain ⟨h_1, eh_1⟩ : ∃ z : MH, z = (h.1, hset h.2 (53) (oB 3 [.int (nI (0)), .int (nI (σ.1.1)), .ref (54), .ref (55), .int (nI (σ.1.2.1)), .int (nI (σ.2.1.2.1)), .int (nI (σ.2.1.2.2)), .int (nI (σ.2.1.1)), .ref (56), .ref (57), .ref (58)])) := ⟨_, rfl⟩
  refine J_heq (h2 := h_1) eh_1 ?_
  have zh_1 : h_1.1 = h.1 := by rw [eh_1]
  have H_2 : h_1.2 (53) = some (oB 3 [.int (nI (0)), .int (nI (σ.1.1)), .ref (54), .ref (55), .int (nI (σ.1.2.1)), .int (nI (σ.2.1.2.1)), .int (nI (σ.2.1.2.2)), .int (nI (σ.2.1.1)), .ref (56), .ref (57), .ref (58)]) := hs_s eh_1
  have hP1 : MP h_1 σ ρ (nI 0) := MP_53 hP eh_1
  have fm1 : FM h h_1 := FM_set eh_1 (by decide) (by decide)
  obtain ⟨a1, a2, a3, a4, ⟨mf, a5, a5b⟩, ⟨sf, a6, a6b⟩, ⟨rf, a7, a7b⟩, ⟨pf, a8, a8b⟩, ⟨lf, a9, a9b⟩, a10, a11⟩ := id hP1
  obtain ⟨o1, o2, o3, o4⟩ := id a2
  have hM := MP_MS hP1
  obtain ⟨hn, hc9, hm5, hs2⟩ := id a1
  have hp9 := pw_le hn
  refine J_iload_n (i := 1) (pc := 5) dX3_plant_5 rfl rfl ?_
  refine J_iconst (v := nI (1)) (pc := 6) dX3_plant_6 rfl ?_
  refine J_iconst (v := nI (5)) (pc := 7) dX3_plant_7 rfl ?_
  refine J_cSi (st := []) (As := [.int (nI (P)), .int (nI (1)), .int (nI (5))]) (pc := 8) dX3_plant_8 okX3_isIn q3_166 q3_167 rfl (Nat.le_of_ble_eq_true rfl) (Nat.le_of_ble_eq_true rfl) (m_inT (by omega) (by omega) (inZ_nI (by omega) (by omega) (by decide))) ?_
  refine J_if_eqN (tgt := 25) (pc := 11) dX3_plant_11 (by decide) (by omega) (fun c11 => by exfalso; first | omega | simp_all) (fun c11 => ?_)
  refine J_iload_n (i := 2) (pc := 14) dX3_plant_14 rfl rfl ?_
  refine J_iconst (v := (-1)) (pc := 15) dX3_plant_15 rfl ?_
  refine J_iload_n (i := 1) (pc := 16) dX3_plant_16 rfl rfl ?_
  refine J_iconst (v := nI (1)) (pc := 17) dX3_plant_17 rfl ?_
  refine J_isubN (pc := 18) dX3_plant_18 (by omega) ?_
  refine J_cSi (st := []) (As := [.int (L), .int (-1), .int (nI ((P) - (1)))]) (pc := 19) dX3_plant_19 okX3_isIn q3_166 q3_167 rfl (Nat.le_of_ble_eq_true rfl) (Nat.le_of_ble_eq_true rfl) (m_isInF (fun q => hx ⟨by have := q.1; rw [m32] at this; exact this, by have := q.2; rw [nI_toInt (by omega)] at this; omega⟩)) ?_
  refine J_if_neN (tgt := 31) (pc := 22) dX3_plant_22 (by decide) (by omega) (fun c22 => by exfalso; first | omega | simp_all) (fun c22 => ?_)
  refine J_aload_n (i := 0) (pc := 25) dX3_plant_25 rfl rfl ?_
  refine J_iconst (v := nI (1)) (pc := 26) dX3_plant_26 rfl ?_
  refine J_cVh (st := []) (As := [.int (nI (1))]) (pc := 27) dX3_plant_27 okX3_no q3_169 q3_171 qs1_13 (rfl : vwCl[3]? = some _) a4 rfl (Nat.le_of_ble_eq_true rfl) (Nat.le_of_ble_eq_true rfl) (m_no hP1) (fun h_3 q_4 => ?_)
  refine J_iret (ty := .int) (pc := 30) dX3_plant_30 rfl rfl ?_
  exact ⟨rfl, FM_tr fm1 q_4.1, ρ, q_4.2⟩

set_option maxHeartbeats 2000000 in
set_option maxRecDepth 20000 in
theorem m_plantX3 {g : GT} {dd : Nat} {h : MH} {σ : ST} {ρ : Nat → Nat} {th : Int32} (hP : MP h σ ρ th) {P : Nat} {L : Int32} (hPa : 1 ≤ P) (hPb : P ≤ 5) (hL1 : -1 ≤ L.toInt) (hL : L.toInt < (P : Int)) (hk5 : 5 ≤ σ.2.1.1) : J g (dd + 12) 0 0 mX3_plant 0 (lv_args 0 [.ref (53), .int (nI (P)), .int (L)]) [] h (RMo (.int (nI 0)) h σ (nI 2)) := by
  have a40 := hP.2.2.2.1
  have hz0 := hP.2.2.1
  refine J_aload_n (i := 0) (pc := 0) dX3_plant_0 rfl rfl ?_
  refine J_iconst (v := nI (0)) (pc := 1) dX3_plant_1 rfl ?_
  refine J_putf (k := 0) (pc := 2) dX3_plant_2 fpX3_plant_34 (fun g => ⟨rfl, rfl⟩) a40 (Nat.le_of_ble_eq_true rfl) ?_
  obtain ⟨h_1, eh_1⟩ : ∃ z : MH, z = (h.1, hset h.2 (53) (oB 3 [.int (nI (0)), .int (nI (σ.1.1)), .ref (54), .ref (55), .int (nI (σ.1.2.1)), .int (nI (σ.2.1.2.1)), .int (nI (σ.2.1.2.2)), .int (nI (σ.2.1.1)), .ref (56), .ref (57), .ref (58)])) := ⟨_, rfl⟩
  refine J_heq (h2 := h_1) eh_1 ?_
  have zh_1 : h_1.1 = h.1 := by rw [eh_1]
  have H_2 : h_1.2 (53) = some (oB 3 [.int (nI (0)), .int (nI (σ.1.1)), .ref (54), .ref (55), .int (nI (σ.1.2.1)), .int (nI (σ.2.1.2.1)), .int (nI (σ.2.1.2.2)), .int (nI (σ.2.1.1)), .ref (56), .ref (57), .ref (58)]) := hs_s eh_1
  have hP1 : MP h_1 σ ρ (nI 0) := MP_53 hP eh_1
  have fm1 : FM h h_1 := FM_set eh_1 (by decide) (by decide)
  obtain ⟨a1, a2, a3, a4, ⟨mf, a5, a5b⟩, ⟨sf, a6, a6b⟩, ⟨rf, a7, a7b⟩, ⟨pf, a8, a8b⟩, ⟨lf, a9, a9b⟩, a10, a11⟩ := id hP1
  obtain ⟨o1, o2, o3, o4⟩ := id a2
  have hM := MP_MS hP1
  obtain ⟨hn, hc9, hm5, hs2⟩ := id a1
  have hp9 := pw_le hn
  have hP1x := hP1
  have hgb := gb_lt a1 P L
  have hgn : gbS σ.1 P L < 2 ^ σ.1.1 := Nat.lt_of_le_of_lt (gbF_le P L σ.1.1 0 (gro σ.1)) (gro_n a1)
  refine J_iload_n (i := 1) (pc := 5) dX3_plant_5 rfl rfl ?_
  refine J_iconst (v := nI (1)) (pc := 6) dX3_plant_6 rfl ?_
  refine J_iconst (v := nI (5)) (pc := 7) dX3_plant_7 rfl ?_
  refine J_cSi (st := []) (As := [.int (nI (P)), .int (nI (1)), .int (nI (5))]) (pc := 8) dX3_plant_8 okX3_isIn q3_166 q3_167 rfl (Nat.le_of_ble_eq_true rfl) (Nat.le_of_ble_eq_true rfl) (m_inT (by omega) (by omega) (inZ_nI (by omega) (by omega) (by decide))) ?_
  refine J_if_eqN (tgt := 25) (pc := 11) dX3_plant_11 (by decide) (by omega) (fun c11 => by exfalso; first | omega | simp_all) (fun c11 => ?_)
  refine J_iload_n (i := 2) (pc := 14) dX3_plant_14 rfl rfl ?_
  refine J_iconst (v := (-1)) (pc := 15) dX3_plant_15 rfl ?_
  refine J_iload_n (i := 1) (pc := 16) dX3_plant_16 rfl rfl ?_
  refine J_iconst (v := nI (1)) (pc := 17) dX3_plant_17 rfl ?_
  refine J_isubN (pc := 18) dX3_plant_18 (by omega) ?_
  refine J_cSi (st := []) (As := [.int (L), .int (-1), .int (nI ((P) - (1)))]) (pc := 19) dX3_plant_19 okX3_isIn q3_166 q3_167 rfl (Nat.le_of_ble_eq_true rfl) (Nat.le_of_ble_eq_true rfl) (m_isInT ⟨by rw [m32]; exact hL1, by rw [nI_toInt (by omega)]; omega⟩) ?_
  refine J_if_neN (tgt := 31) (pc := 22) dX3_plant_22 (by decide) (by omega) (fun c22 => ?_) (fun c22 => by exfalso; first | omega | simp_all)
  refine J_aload_n (i := 0) (pc := 31) dX3_plant_31 rfl rfl ?_
  refine J_cVi (st := []) (As := []) (pc := 32) dX3_plant_32 okX3_growing q3_199 q3_201 qs1_14 (rfl : vwCl[3]? = some _) a4 rfl (Nat.le_of_ble_eq_true rfl) (Nat.le_of_ble_eq_true rfl) (m_growing hM) ?_
  refine J_istore_n (i := 3) (lv' := [(3, .int (nI (gro σ.1))), (0, .ref (53)), (1, .int (nI (P))), (2, .int (L))]) (pc := 35) dX3_plant_35 rfl (by decide) rfl ?_
  refine J_iconst (v := nI (0)) (pc := 36) dX3_plant_36 rfl ?_
  refine J_istore (i := 4) (lv' := [(4, .int (nI (0))), (3, .int (nI (gro σ.1))), (0, .ref (53)), (1, .int (nI (P))), (2, .int (L))]) (pc := 37) dX3_plant_37 (by decide) rfl ?_
  refine J_sub (lv' := [(4, .int (nI (0))), (3, .int (nI (gro σ.1))), (0, .ref (53)), (1, .int (nI (P))), (2, .int (L))]) [0, 1, 2, 3, 4] rfl ?_
  refine mgb_loop hP1x hPa hPb σ.1.1 0 _ (Nat.zero_add _) (gro_lt a1) ?_
  rw [show gbF P L σ.1.1 0 (gro σ.1) = gbS σ.1 P L from rfl]
  refine J_aload_n (i := 0) (pc := 71) dX3_plant_71 rfl rfl ?_
  refine J_getf (k := 7) (pc := 72) dX3_plant_72 flX3_37 a4 rfl ?_
  refine J_iconst (v := nI (5)) (pc := 75) dX3_plant_75 rfl ?_
  refine J_icmp_eqN (tgt := 83) (pc := 76) dX3_plant_76 (by decide) (by omega) (by omega) (fun c76 => ?_) (fun c76 => by exfalso; first | omega | simp_all)
  refine J_aload_n (i := 0) (pc := 83) dX3_plant_83 rfl rfl ?_
  refine J_iconst (v := nI (2)) (pc := 84) dX3_plant_84 rfl ?_
  refine J_cVh (st := []) (As := [.int (nI (2))]) (pc := 85) dX3_plant_85 okX3_no q3_169 q3_171 qs1_13 (rfl : vwCl[3]? = some _) a4 rfl (Nat.le_of_ble_eq_true rfl) (Nat.le_of_ble_eq_true rfl) (m_no hP1) (fun h_3 q_4 => ?_)
  refine J_iret (ty := .int) (pc := 88) dX3_plant_88 rfl rfl ?_
  exact ⟨rfl, FM_tr fm1 q_4.1, ρ, q_4.2⟩

set_option maxHeartbeats 2000000 in
set_option maxRecDepth 20000 in
theorem m_plantX4 {g : GT} {dd : Nat} {h : MH} {σ : ST} {ρ : Nat → Nat} {th : Int32} (hP : MP h σ ρ th) {P : Nat} {L : Int32} (hPa : 1 ≤ P) (hPb : P ≤ 5) (hL1 : -1 ≤ L.toInt) (hL : L.toInt < (P : Int)) (hk5 : σ.2.1.1 < 5) (hg0 : gbS σ.1 P L = 0) : J g (dd + 12) 0 0 mX3_plant 0 (lv_args 0 [.ref (53), .int (nI (P)), .int (L)]) [] h (RMo (.int (nI 0)) h σ (nI 2)) := by
  have a40 := hP.2.2.2.1
  have hz0 := hP.2.2.1
  refine J_aload_n (i := 0) (pc := 0) dX3_plant_0 rfl rfl ?_
  refine J_iconst (v := nI (0)) (pc := 1) dX3_plant_1 rfl ?_
  refine J_putf (k := 0) (pc := 2) dX3_plant_2 fpX3_plant_34 (fun g => ⟨rfl, rfl⟩) a40 (Nat.le_of_ble_eq_true rfl) ?_
  obtain ⟨h_1, eh_1⟩ : ∃ z : MH, z = (h.1, hset h.2 (53) (oB 3 [.int (nI (0)), .int (nI (σ.1.1)), .ref (54), .ref (55), .int (nI (σ.1.2.1)), .int (nI (σ.2.1.2.1)), .int (nI (σ.2.1.2.2)), .int (nI (σ.2.1.1)), .ref (56), .ref (57), .ref (58)])) := ⟨_, rfl⟩
  refine J_heq (h2 := h_1) eh_1 ?_
  have zh_1 : h_1.1 = h.1 := by rw [eh_1]
  have H_2 : h_1.2 (53) = some (oB 3 [.int (nI (0)), .int (nI (σ.1.1)), .ref (54), .ref (55), .int (nI (σ.1.2.1)), .int (nI (σ.2.1.2.1)), .int (nI (σ.2.1.2.2)), .int (nI (σ.2.1.1)), .ref (56), .ref (57), .ref (58)]) := hs_s eh_1
  have hP1 : MP h_1 σ ρ (nI 0) := MP_53 hP eh_1
  have fm1 : FM h h_1 := FM_set eh_1 (by decide) (by decide)
  obtain ⟨a1, a2, a3, a4, ⟨mf, a5, a5b⟩, ⟨sf, a6, a6b⟩, ⟨rf, a7, a7b⟩, ⟨pf, a8, a8b⟩, ⟨lf, a9, a9b⟩, a10, a11⟩ := id hP1
  obtain ⟨o1, o2, o3, o4⟩ := id a2
  have hM := MP_MS hP1
  obtain ⟨hn, hc9, hm5, hs2⟩ := id a1
  have hp9 := pw_le hn
  have hP1x := hP1
  have hgb := gb_lt a1 P L
  have hgn : gbS σ.1 P L < 2 ^ σ.1.1 := Nat.lt_of_le_of_lt (gbF_le P L σ.1.1 0 (gro σ.1)) (gro_n a1)
  refine J_iload_n (i := 1) (pc := 5) dX3_plant_5 rfl rfl ?_
  refine J_iconst (v := nI (1)) (pc := 6) dX3_plant_6 rfl ?_
  refine J_iconst (v := nI (5)) (pc := 7) dX3_plant_7 rfl ?_
  refine J_cSi (st := []) (As := [.int (nI (P)), .int (nI (1)), .int (nI (5))]) (pc := 8) dX3_plant_8 okX3_isIn q3_166 q3_167 rfl (Nat.le_of_ble_eq_true rfl) (Nat.le_of_ble_eq_true rfl) (m_inT (by omega) (by omega) (inZ_nI (by omega) (by omega) (by decide))) ?_
  refine J_if_eqN (tgt := 25) (pc := 11) dX3_plant_11 (by decide) (by omega) (fun c11 => by exfalso; first | omega | simp_all) (fun c11 => ?_)
  refine J_iload_n (i := 2) (pc := 14) dX3_plant_14 rfl rfl ?_
  refine J_iconst (v := (-1)) (pc := 15) dX3_plant_15 rfl ?_
  refine J_iload_n (i := 1) (pc := 16) dX3_plant_16 rfl rfl ?_
  refine J_iconst (v := nI (1)) (pc := 17) dX3_plant_17 rfl ?_
  refine J_isubN (pc := 18) dX3_plant_18 (by omega) ?_
  refine J_cSi (st := []) (As := [.int (L), .int (-1), .int (nI ((P) - (1)))]) (pc := 19) dX3_plant_19 okX3_isIn q3_166 q3_167 rfl (Nat.le_of_ble_eq_true rfl) (Nat.le_of_ble_eq_true rfl) (m_isInT ⟨by rw [m32]; exact hL1, by rw [nI_toInt (by omega)]; omega⟩) ?_
  refine J_if_neN (tgt := 31) (pc := 22) dX3_plant_22 (by decide) (by omega) (fun c22 => ?_) (fun c22 => by exfalso; first | omega | simp_all)
  refine J_aload_n (i := 0) (pc := 31) dX3_plant_31 rfl rfl ?_
  refine J_cVi (st := []) (As := []) (pc := 32) dX3_plant_32 okX3_growing q3_199 q3_201 qs1_14 (rfl : vwCl[3]? = some _) a4 rfl (Nat.le_of_ble_eq_true rfl) (Nat.le_of_ble_eq_true rfl) (m_growing hM) ?_
  refine J_istore_n (i := 3) (lv' := [(3, .int (nI (gro σ.1))), (0, .ref (53)), (1, .int (nI (P))), (2, .int (L))]) (pc := 35) dX3_plant_35 rfl (by decide) rfl ?_
  refine J_iconst (v := nI (0)) (pc := 36) dX3_plant_36 rfl ?_
  refine J_istore (i := 4) (lv' := [(4, .int (nI (0))), (3, .int (nI (gro σ.1))), (0, .ref (53)), (1, .int (nI (P))), (2, .int (L))]) (pc := 37) dX3_plant_37 (by decide) rfl ?_
  refine J_sub (lv' := [(4, .int (nI (0))), (3, .int (nI (gro σ.1))), (0, .ref (53)), (1, .int (nI (P))), (2, .int (L))]) [0, 1, 2, 3, 4] rfl ?_
  refine mgb_loop hP1x hPa hPb σ.1.1 0 _ (Nat.zero_add _) (gro_lt a1) ?_
  rw [show gbF P L σ.1.1 0 (gro σ.1) = gbS σ.1 P L from rfl]
  refine J_aload_n (i := 0) (pc := 71) dX3_plant_71 rfl rfl ?_
  refine J_getf (k := 7) (pc := 72) dX3_plant_72 flX3_37 a4 rfl ?_
  refine J_iconst (v := nI (5)) (pc := 75) dX3_plant_75 rfl ?_
  refine J_icmp_eqN (tgt := 83) (pc := 76) dX3_plant_76 (by decide) (by omega) (by omega) (fun c76 => by exfalso; first | omega | simp_all) (fun c76 => ?_)
  refine J_iload_n (i := 3) (pc := 79) dX3_plant_79 rfl rfl ?_
  refine J_if_neN (tgt := 89) (pc := 80) dX3_plant_80 (by decide) (by omega) (fun c80 => absurd c80 (fun q => q hg0)) (fun c80 => ?_)
  refine J_aload_n (i := 0) (pc := 83) dX3_plant_83 rfl rfl ?_
  refine J_iconst (v := nI (2)) (pc := 84) dX3_plant_84 rfl ?_
  refine J_cVh (st := []) (As := [.int (nI (2))]) (pc := 85) dX3_plant_85 okX3_no q3_169 q3_171 qs1_13 (rfl : vwCl[3]? = some _) a4 rfl (Nat.le_of_ble_eq_true rfl) (Nat.le_of_ble_eq_true rfl) (m_no hP1) (fun h_3 q_4 => ?_)
  refine J_iret (ty := .int) (pc := 88) dX3_plant_88 rfl rfl ?_
  exact ⟨rfl, FM_tr fm1 q_4.1, ρ, q_4.2⟩

def shB {α : Type} (f : Nat → α) (j b : Nat) : Nat → α := fun i => if j ≤ i ∧ i < b then f (i + 1) else f i
theorem shB_0 {α : Type} (f : Nat → α) (j i : Nat) : shB f j j i = f i := if_neg (by omega)
theorem shB_e {α : Type} (f : Nat → α) {j b i : Nat} (h : i < b) (hj : j ≤ b) : shB f j b i = shl f j i := by
  unfold shB shl
  by_cases e : i < j
  · rw [if_neg (by omega), if_pos e]
  · rw [if_pos (by omega), if_neg e]
theorem shB_s {α : Type} (f : Nat → α) {j b i : Nat} (hj : j ≤ b) : shB f j (b + 1) i = if i = b then f (b + 1) else shB f j b i := by
  unfold shB
  by_cases e : i = b
  · subst e
    rw [if_pos (by omega), if_pos rfl]
  · rw [if_neg e]
    by_cases e2 : j ≤ i ∧ i < b
    · rw [if_pos e2, if_pos (by omega)]
    · rw [if_neg e2, if_neg (by omega)]
theorem shB_n {α : Type} (f : Nat → α) {j b : Nat} : shB f j b (b + 1) = f (b + 1) := if_neg (by omega)

set_option maxHeartbeats 2000000 in
set_option maxRecDepth 20000 in
theorem mfe_loop {g : GT} {dd : Nat} {hh : MH} {σ : ST} {ρ : Nat → Nat} {j : Nat} {Q : RT → MH → Prop} (hj : j < σ.2.1.1) (h5 : σ.2.1.1 ≤ 5) (hrow : ∀ i, i < σ.2.1.1 → 60 ≤ ρ i ∧ ∃ f, hh.2 (ρ i) = some (aI 320 f)) : ∀ (m b : Nat) (h : MH) (rf : Nat → Option Nat) (pf lf : Nat → Int32), b + m = σ.2.1.1 - 1 ∧ j ≤ b → h.2 53 = some (oB 3 [.int (nI 0), .int (nI σ.1.1), .ref 54, .ref 55, .int (nI σ.1.2.1), .int (nI σ.2.1.2.1), .int (nI σ.2.1.2.2), .int (nI (σ.2.1.1 - 1)), .ref 56, .ref 57, .ref 58]) → h.2 56 = some (aG 5 rf) → (∀ i, i < σ.2.1.1 → rf i = some (shB ρ j b i)) → h.2 57 = some (aI 5 pf) → (∀ i, i < σ.2.1.1 → pf i = shB σ.2.2.2.1 j b i) → h.2 58 = some (aI 5 lf) → (∀ i, i < σ.2.1.1 → lf i = shB σ.2.2.2.2 j b i) → h.1 = hh.1 → (∀ i, i ≠ 53 → i ≠ 56 → i ≠ 57 → i ≠ 58 → h.2 i = hh.2 i) →
    (∀ h' rf pf lf, h'.2 53 = some (oB 3 [.int (nI 0), .int (nI σ.1.1), .ref 54, .ref 55, .int (nI σ.1.2.1), .int (nI σ.2.1.2.1), .int (nI σ.2.1.2.2), .int (nI (σ.2.1.1 - 1)), .ref 56, .ref 57, .ref 58]) → h'.2 56 = some (aG 5 rf) → (∀ i, i < σ.2.1.1 - 1 → rf i = some (shl ρ j i)) → h'.2 57 = some (aI 5 pf) → (∀ i, i < σ.2.1.1 - 1 → pf i = shl σ.2.2.2.1 j i) → h'.2 58 = some (aI 5 lf) → (∀ i, i < σ.2.1.1 - 1 → lf i = shl σ.2.2.2.2 j i) → h'.1 = hh.1 → (∀ i, i ≠ 53 → i ≠ 56 → i ≠ 57 → i ≠ 58 → h'.2 i = hh.2 i) → Q (.inl (some (.int (nI (σ.2.1.1 - 1))))) h') → J g dd 0 0 mX3_fell 31 [(2, .int (nI (b))), (0, .ref (53)), (1, .int (nI (j)))] [] h Q := by
  intro m
  induction m with
  | zero =>
    intro b h rf pf lf hb h53 h56 hr h57 hp h58 hl h0 ho hq
    have eb : σ.2.1.1 - 1 = b := by omega
    refine J_iload_n (i := 2) (pc := 31) dX3_fell_31 rfl rfl ?_
    refine J_aload_n (i := 0) (pc := 32) dX3_fell_32 rfl rfl ?_
    refine J_getf (k := 7) (pc := 33) dX3_fell_33 flX3_37 h53 rfl ?_
    refine J_icmp_geN (tgt := 87) (pc := 36) dX3_fell_36 (by decide) (by omega) (by omega) (fun c36 => ?_) (fun c36 => by exfalso; first | omega | simp_all)
    refine J_aload_n (i := 0) (pc := 87) dX3_fell_87 rfl rfl ?_
    refine J_getf (k := 7) (pc := 88) dX3_fell_88 flX3_37 h53 rfl ?_
    refine J_iret (ty := .int) (pc := 91) dX3_fell_91 rfl rfl ?_
    exact hq h rf pf lf h53 h56 (fun i hi => (hr i (by omega)).trans (by rw [shB_e _ (by omega) (by omega)])) h57 (fun i hi => (hp i (by omega)).trans (by rw [shB_e _ (by omega) (by omega)])) h58 (fun i hi => (hl i (by omega)).trans (by rw [shB_e _ (by omega) (by omega)])) h0 ho
  | succ m ih =>
    intro b h rf pf lf hb h53 h56 hr h57 hp h58 hl h0 ho hq
    obtain ⟨r60, f, hf⟩ := hrow (b + 1) (by omega)
    have hf2 : h.2 (ρ (b + 1)) = some (aI 320 f) := (ho _ (by omega) (by omega) (by omega) (by omega)).trans hf
    have hrb : rf (b + 1) = some (ρ (b + 1)) := by rw [hr (b + 1) (by omega), shB_n]
    refine J_iload_n (i := 2) (pc := 31) dX3_fell_31 rfl rfl ?_
    refine J_aload_n (i := 0) (pc := 32) dX3_fell_32 rfl rfl ?_
    refine J_getf (k := 7) (pc := 33) dX3_fell_33 flX3_37 h53 rfl ?_
    refine J_icmp_geN (tgt := 87) (pc := 36) dX3_fell_36 (by decide) (by omega) (by omega) (fun c36 => by exfalso; first | omega | simp_all) (fun c36 => ?_)
    refine J_aload_n (i := 0) (pc := 39) dX3_fell_39 rfl rfl ?_
    refine J_getf (k := 8) (pc := 40) dX3_fell_40 flX3_24 h53 rfl ?_
    refine J_iload_n (i := 2) (pc := 43) dX3_fell_43 rfl rfl ?_
    refine J_aload_n (i := 0) (pc := 44) dX3_fell_44 rfl rfl ?_
    refine J_getf (k := 8) (pc := 45) dX3_fell_45 flX3_24 h53 rfl ?_
    refine J_iload_n (i := 2) (pc := 48) dX3_fell_48 rfl rfl ?_
    refine J_iconst (v := nI (1)) (pc := 49) dX3_fell_49 rfl ?_
    refine J_iaddN (pc := 50) dX3_fell_50 ?_
    refine J_aald (j := b + 1) (b := ρ (b + 1)) (pc := 51) dX3_fell_51 (by decide) h56 rfl (by omega) (by omega) hrb ?_
    refine J_astG (j := b) (pc := 52) dX3_fell_52 h56 hf2 rfl (by omega) (by omega) ?_
    obtain ⟨h_1, eh_1⟩ : ∃ z : MH, z = (h.1, hset h.2 (56) (aG (5) (va_up rf (b) (some (ρ (b + 1)))))) := ⟨_, rfl⟩
    refine J_heq (h2 := h_1) eh_1 ?_
    have zh_1 : h_1.1 = h.1 := by rw [eh_1]
    have H_2 : h_1.2 (53) = some (oB 3 [.int (nI (0)), .int (nI (σ.1.1)), .ref (54), .ref (55), .int (nI (σ.1.2.1)), .int (nI (σ.2.1.2.1)), .int (nI (σ.2.1.2.2)), .int (nI (σ.2.1.1 - 1)), .ref (56), .ref (57), .ref (58)]) := (hs_n eh_1 (by omega)).trans h53
    have H_3 : h_1.2 (56) = some (aG (5) (va_up rf (b) (some (ρ (b + 1))))) := hs_s eh_1
    have H_4 : h_1.2 (57) = some (aI (5) (pf)) := (hs_n eh_1 (by omega)).trans h57
    have H_5 : h_1.2 (58) = some (aI (5) (lf)) := (hs_n eh_1 (by omega)).trans h58
    have H_6 : h_1.2 (ρ (b + 1)) = some (aI (320) (f)) := (hs_n eh_1 (by omega)).trans hf2
    have H_7 : (∀ i, i ≠ 53 → i ≠ 56 → i ≠ 57 → i ≠ 58 → h_1.2 i = h.2 i) := by rw [eh_1]; exact (fun i i1 i2 i3 i4 => (hset_n (by omega)).trans ((fun i _ _ _ _ => rfl) i i1 i2 i3 i4))
    refine J_aload_n (i := 0) (pc := 53) dX3_fell_53 rfl rfl ?_
    refine J_getf (k := 9) (pc := 54) dX3_fell_54 flX3_28 H_2 rfl ?_
    refine J_iload_n (i := 2) (pc := 57) dX3_fell_57 rfl rfl ?_
    refine J_aload_n (i := 0) (pc := 58) dX3_fell_58 rfl rfl ?_
    refine J_getf (k := 9) (pc := 59) dX3_fell_59 flX3_28 H_2 rfl ?_
    refine J_iload_n (i := 2) (pc := 62) dX3_fell_62 rfl rfl ?_
    refine J_iconst (v := nI (1)) (pc := 63) dX3_fell_63 rfl ?_
    refine J_iaddN (pc := 64) dX3_fell_64 ?_
    refine J_iald (j := b + 1) (pc := 65) dX3_fell_65 H_4 rfl (by omega) (by omega) ?_
    refine J_iast (j := b) (pc := 66) dX3_fell_66 H_4 rfl (by omega) (by omega) ?_
    obtain ⟨h_8, eh_8⟩ : ∃ z : MH, z = (h_1.1, hset h_1.2 (57) (aI (5) (upd pf (b) ((pf (b + 1)))))) := ⟨_, rfl⟩
    refine J_heq (h2 := h_8) eh_8 ?_
    have zh_8 : h_8.1 = h_1.1 := by rw [eh_8]
    have H_9 : h_8.2 (53) = some (oB 3 [.int (nI (0)), .int (nI (σ.1.1)), .ref (54), .ref (55), .int (nI (σ.1.2.1)), .int (nI (σ.2.1.2.1)), .int (nI (σ.2.1.2.2)), .int (nI (σ.2.1.1 - 1)), .ref (56), .ref (57), .ref (58)]) := (hs_n eh_8 (by omega)).trans H_2
    have H_10 : h_8.2 (56) = some (aG (5) (va_up rf (b) (some (ρ (b + 1))))) := (hs_n eh_8 (by omega)).trans H_3
    have H_11 : h_8.2 (57) = some (aI (5) (upd pf (b) ((pf (b + 1))))) := hs_s eh_8
    have H_12 : h_8.2 (58) = some (aI (5) (lf)) := (hs_n eh_8 (by omega)).trans H_5
    have H_13 : h_8.2 (ρ (b + 1)) = some (aI (320) (f)) := (hs_n eh_8 (by omega)).trans H_6
    have H_14 : (∀ i, i ≠ 53 → i ≠ 56 → i ≠ 57 → i ≠ 58 → h_8.2 i = h.2 i) := by rw [eh_8]; exact (fun i i1 i2 i3 i4 => (hset_n (by omega)).trans (H_7 i i1 i2 i3 i4))
    refine J_aload_n (i := 0) (pc := 67) dX3_fell_67 rfl rfl ?_
    refine J_getf (k := 10) (pc := 68) dX3_fell_68 flX3_31 H_9 rfl ?_
    refine J_iload_n (i := 2) (pc := 71) dX3_fell_71 rfl rfl ?_
    refine J_aload_n (i := 0) (pc := 72) dX3_fell_72 rfl rfl ?_
    refine J_getf (k := 10) (pc := 73) dX3_fell_73 flX3_31 H_9 rfl ?_
    refine J_iload_n (i := 2) (pc := 76) dX3_fell_76 rfl rfl ?_
    refine J_iconst (v := nI (1)) (pc := 77) dX3_fell_77 rfl ?_
    refine J_iaddN (pc := 78) dX3_fell_78 ?_
    refine J_iald (j := b + 1) (pc := 79) dX3_fell_79 H_12 rfl (by omega) (by omega) ?_
    refine J_iast (j := b) (pc := 80) dX3_fell_80 H_12 rfl (by omega) (by omega) ?_
    obtain ⟨h_15, eh_15⟩ : ∃ z : MH, z = (h_8.1, hset h_8.2 (58) (aI (5) (upd lf (b) ((lf (b + 1)))))) := ⟨_, rfl⟩
    refine J_heq (h2 := h_15) eh_15 ?_
    have zh_15 : h_15.1 = h_8.1 := by rw [eh_15]
    have H_16 : h_15.2 (53) = some (oB 3 [.int (nI (0)), .int (nI (σ.1.1)), .ref (54), .ref (55), .int (nI (σ.1.2.1)), .int (nI (σ.2.1.2.1)), .int (nI (σ.2.1.2.2)), .int (nI (σ.2.1.1 - 1)), .ref (56), .ref (57), .ref (58)]) := (hs_n eh_15 (by omega)).trans H_9
    have H_17 : h_15.2 (56) = some (aG (5) (va_up rf (b) (some (ρ (b + 1))))) := (hs_n eh_15 (by omega)).trans H_10
    have H_18 : h_15.2 (57) = some (aI (5) (upd pf (b) ((pf (b + 1))))) := (hs_n eh_15 (by omega)).trans H_11
    have H_19 : h_15.2 (58) = some (aI (5) (upd lf (b) ((lf (b + 1))))) := hs_s eh_15
    have H_20 : h_15.2 (ρ (b + 1)) = some (aI (320) (f)) := (hs_n eh_15 (by omega)).trans H_13
    have H_21 : (∀ i, i ≠ 53 → i ≠ 56 → i ≠ 57 → i ≠ 58 → h_15.2 i = h.2 i) := by rw [eh_15]; exact (fun i i1 i2 i3 i4 => (hset_n (by omega)).trans (H_14 i i1 i2 i3 i4))
    refine J_iinc (i := 2) (v := nI (b + 1)) (lv' := [(2, .int (nI (b + 1))), (0, .ref (53)), (1, .int (nI (j)))]) (pc := 81) dX3_fell_81 rfl (nI_add (b) 1) (by decide) rfl ?_
    refine J_goto (tgt := 31) (pc := 84) dX3_fell_84 (by decide) ?_
    refine J_sub (lv' := [(2, .int (nI (b + 1))), (0, .ref (53)), (1, .int (nI (j)))]) [0, 1, 2] rfl ?_
    refine ih (b + 1) h_15 _ _ _ (by omega) H_16 H_17 ?_ H_18 ?_ H_19 ?_ (by omega) (fun i i1 i2 i3 i4 => (H_21 i i1 i2 i3 i4).trans (ho i i1 i2 i3 i4)) hq
    · intro i hi
      rw [shB_s ρ (by omega)]
      by_cases e : i = b
      · rw [e, va_up_self, if_pos rfl]
      · rw [va_up_ne _ _ e, if_neg e]
        exact hr i hi
    · intro i hi
      rw [shB_s _ (by omega)]
      by_cases e : i = b
      · rw [e, pk_us, if_pos rfl, hp (b + 1) (by omega), shB_n]
      · rw [pk_un e, if_neg e]
        exact hp i hi
    · intro i hi
      rw [shB_s _ (by omega)]
      by_cases e : i = b
      · rw [e, pk_us, if_pos rfl, hl (b + 1) (by omega), shB_n]
      · rw [pk_un e, if_neg e]
        exact hl i hi

set_option maxHeartbeats 2000000 in
set_option maxRecDepth 20000 in
theorem m_fell {g : GT} {dd : Nat} {h : MH} {σ : ST} {ρ : Nat → Nat} {th : Int32} (hP : MP h σ ρ th) {j : Nat} (hj : j < σ.2.1.1) : J g (dd + 2) 0 0 mX3_fell 0 (lv_args 0 [.ref (53), .int (nI (j))]) [] h (RMo (.int (nI (σ.2.1.1 - 1))) h ((σ.1, (σ.2.1.1 - 1, σ.2.1.2.1, σ.2.1.2.2), shl σ.2.2.1 j, shl σ.2.2.2.1 j, shl σ.2.2.2.2 j)) (nI 0)) := by
  have a40 := hP.2.2.2.1
  have hz0 := hP.2.2.1
  refine J_aload_n (i := 0) (pc := 0) dX3_fell_0 rfl rfl ?_
  refine J_iconst (v := nI (0)) (pc := 1) dX3_fell_1 rfl ?_
  refine J_putf (k := 0) (pc := 2) dX3_fell_2 fpX3_fell_34 (fun g => ⟨rfl, rfl⟩) a40 (Nat.le_of_ble_eq_true rfl) ?_
  obtain ⟨h_1, eh_1⟩ : ∃ z : MH, z = (h.1, hset h.2 (53) (oB 3 [.int (nI (0)), .int (nI (σ.1.1)), .ref (54), .ref (55), .int (nI (σ.1.2.1)), .int (nI (σ.2.1.2.1)), .int (nI (σ.2.1.2.2)), .int (nI (σ.2.1.1)), .ref (56), .ref (57), .ref (58)])) := ⟨_, rfl⟩
  refine J_heq (h2 := h_1) eh_1 ?_
  have zh_1 : h_1.1 = h.1 := by rw [eh_1]
  have H_2 : h_1.2 (53) = some (oB 3 [.int (nI (0)), .int (nI (σ.1.1)), .ref (54), .ref (55), .int (nI (σ.1.2.1)), .int (nI (σ.2.1.2.1)), .int (nI (σ.2.1.2.2)), .int (nI (σ.2.1.1)), .ref (56), .ref (57), .ref (58)]) := hs_s eh_1
  have hP1 : MP h_1 σ ρ (nI 0) := MP_53 hP eh_1
  have fm1 : FM h h_1 := FM_set eh_1 (by decide) (by decide)
  obtain ⟨a1, a2, a3, a4, ⟨mf, a5, a5b⟩, ⟨sf, a6, a6b⟩, ⟨rf, a7, a7b⟩, ⟨pf, a8, a8b⟩, ⟨lf, a9, a9b⟩, a10, a11⟩ := id hP1
  obtain ⟨o1, o2, o3, o4⟩ := id a2
  have hM := MP_MS hP1
  obtain ⟨hn, hc9, hm5, hs2⟩ := id a1
  have hp9 := pw_le hn
  refine J_aload_n (i := 0) (pc := 5) dX3_fell_5 rfl rfl ?_
  refine J_iload_n (i := 1) (pc := 6) dX3_fell_6 rfl rfl ?_
  refine J_cVi (st := []) (As := [.int (nI (j))]) (pc := 7) dX3_fell_7 okX3_isTree q4_8 q4_10 qs2_9 (rfl : vwCl[3]? = some _) a4 rfl (Nat.le_of_ble_eq_true rfl) (Nat.le_of_ble_eq_true rfl) (m_isTreeT hP1 hj) ?_
  refine J_if_neN (tgt := 19) (pc := 10) dX3_fell_10 (by decide) (by omega) (fun c10 => ?_) (fun c10 => by exfalso; first | omega | simp_all)
  refine J_aload_n (i := 0) (pc := 19) dX3_fell_19 rfl rfl ?_
  refine J_dup (pc := 20) dX3_fell_20 rfl ?_
  refine J_getf (k := 7) (pc := 21) dX3_fell_21 flX3_37 a4 rfl ?_
  refine J_iconst (v := nI (1)) (pc := 24) dX3_fell_24 rfl ?_
  refine J_isubN (pc := 25) dX3_fell_25 (by omega) ?_
  refine J_putf (k := 7) (pc := 26) dX3_fell_26 fpX3_fell_37 (fun g => ⟨rfl, rfl⟩) a4 (Nat.le_of_ble_eq_true rfl) ?_
  obtain ⟨h_3, eh_3⟩ : ∃ z : MH, z = (h_1.1, hset h_1.2 (53) (oB 3 [.int (nI (0)), .int (nI (σ.1.1)), .ref (54), .ref (55), .int (nI (σ.1.2.1)), .int (nI (σ.2.1.2.1)), .int (nI (σ.2.1.2.2)), .int (nI ((σ.2.1.1) - (1))), .ref (56), .ref (57), .ref (58)])) := ⟨_, rfl⟩
  refine J_heq (h2 := h_3) eh_3 ?_
  have zh_3 : h_3.1 = h_1.1 := by rw [eh_3]
  have H_4 : h_3.2 (53) = some (oB 3 [.int (nI (0)), .int (nI (σ.1.1)), .ref (54), .ref (55), .int (nI (σ.1.2.1)), .int (nI (σ.2.1.2.1)), .int (nI (σ.2.1.2.2)), .int (nI ((σ.2.1.1) - (1))), .ref (56), .ref (57), .ref (58)]) := hs_s eh_3
  have H_5 : h_3.2 (54) = some (aI (60) (mf)) := (hs_n eh_3 (by omega)).trans a5
  have H_6 : h_3.2 (55) = some (aI (20) (sf)) := (hs_n eh_3 (by omega)).trans a6
  have H_7 : h_3.2 (56) = some (aG (5) (rf)) := (hs_n eh_3 (by omega)).trans a7
  have H_8 : h_3.2 (57) = some (aI (5) (pf)) := (hs_n eh_3 (by omega)).trans a8
  have H_9 : h_3.2 (58) = some (aI (5) (lf)) := (hs_n eh_3 (by omega)).trans a9
  have H_10 : FM h h_3 := by rw [eh_3]; exact FM_st fm1 (by omega) (by omega) rfl
  have H_11 : (∀ i, 60 ≤ i → i < h_1.1 → h_3.2 i = h_1.2 i) := by rw [eh_3]; exact (fun i i1 i2 => (hset_n (by omega)).trans ((fun i _ _ => rfl) i i1 i2))
  refine J_iload_n (i := 1) (pc := 29) dX3_fell_29 rfl rfl ?_
  refine J_istore_n (i := 2) (lv' := [(2, .int (nI (j))), (0, .ref (53)), (1, .int (nI (j)))]) (pc := 30) dX3_fell_30 rfl (by decide) rfl ?_
  refine J_sub (lv' := [(2, .int (nI (j))), (0, .ref (53)), (1, .int (nI (j)))]) [0, 1, 2] rfl ?_
  have ho : ∀ i, i ≠ 53 → i ≠ 56 → i ≠ 57 → i ≠ 58 → h_3.2 i = h_1.2 i := fun i i1 _ _ _ => hs_n eh_3 i1
  refine mfe_loop (hh := h_3) hj o1 (fun i hi => by obtain ⟨b1, b2, f9, b3, b4⟩ := a10 i hi; exact ⟨b1, f9, (H_11 _ b1 b2).trans b3⟩) (σ.2.1.1 - 1 - j) j h_3 rf pf lf (by omega) H_4 H_7 (fun i hi => by rw [shB_0]; exact a7b i hi) H_8 (fun i hi => by rw [shB_0]; exact a8b i hi) H_9 (fun i hi => by rw [shB_0]; exact a9b i hi) rfl (fun i _ _ _ _ => rfl) ?_
  intro h9 rf9 pf9 lf9 k53 k56 kr k57 kp k58 kl k0 ko
  have shi : ∀ i, i < σ.2.1.1 - 1 → ∃ i', i' < σ.2.1.1 ∧ (∀ {α : Type} (f : Nat → α), shl f j i = f i') ∧ i' = if i < j then i else i + 1 := by
    intro i hi
    by_cases e : i < j
    · exact ⟨i, by omega, fun f => if_pos e, by rw [if_pos e]⟩
    · exact ⟨i + 1, by omega, fun f => if_neg e, by rw [if_neg e]⟩
  refine ⟨rfl, FM_tr H_10 ⟨by omega, fun i hi => ko i (by omega) (by omega) (by omega) (by omega)⟩, shl ρ j, MP_mk (h := h) (σ := σ) (σ' := (σ.1, (σ.2.1.1 - 1, σ.2.1.2.1, σ.2.1.2.2), shl σ.2.2.1 j, shl σ.2.2.2.1 j, shl σ.2.2.2.2 j)) (ρ := ρ) a1 ⟨by show σ.2.1.1 - 1 ≤ 5; omega, o2, o3, ?_⟩ (by omega) k53 ⟨mf, (ko _ (by omega) (by omega) (by omega) (by omega)).trans H_5, a5b⟩ ⟨sf, (ko _ (by omega) (by omega) (by omega) (by omega)).trans H_6, a6b⟩ ⟨rf9, k56, kr⟩ ⟨pf9, k57, kp⟩ ⟨lf9, k58, kl⟩ ?_ ?_⟩
  · intro i hi
    obtain ⟨i', x1, x2, x3⟩ := shi i hi
    show okT 5 (shl σ.2.2.1 j i) ∧ nN 5 (shl σ.2.2.1 j i) ≤ 39
    rw [x2]
    exact o4 i' x1
  · intro i hi
    obtain ⟨i', x1, x2, x3⟩ := shi i hi
    show 60 ≤ shl ρ j i ∧ shl ρ j i < h9.1 ∧ ∃ f', h9.2 (shl ρ j i) = some (aI 320 f') ∧ RW f' 5 1 (shl σ.2.2.1 j i)
    rw [x2, x2]
    obtain ⟨b1, b2, f9, b3, b4⟩ := a10 i' x1
    exact ⟨b1, by omega, f9, (ko _ (by omega) (by omega) (by omega) (by omega)).trans ((H_11 _ b1 b2).trans b3), b4⟩
  · intro i k hi hk q
    obtain ⟨i', x1, x2, x3⟩ := shi i hi
    obtain ⟨k', y1, y2, y3⟩ := shi k hk
    rw [x2, y2] at q
    have e := a11 i' k' x1 y1 q
    rw [x3, y3] at e
    (repeat' split at e) <;> omega

set_option maxHeartbeats 2000000 in
set_option maxRecDepth 20000 in
theorem m_fellX1 {g : GT} {dd : Nat} {h : MH} {σ : ST} {ρ : Nat → Nat} {th : Int32} (hP : MP h σ ρ th) {x : Int32} (hx : ¬ (0 ≤ x.toInt ∧ x.toInt < (σ.2.1.1 : Int))) : J g (dd + 2) 0 0 mX3_fell 0 (lv_args 0 [.ref (53), .int (x)]) [] h (RMo (.int (nI 0)) h σ (nI 1)) := by
  have a40 := hP.2.2.2.1
  have hz0 := hP.2.2.1
  refine J_aload_n (i := 0) (pc := 0) dX3_fell_0 rfl rfl ?_
  refine J_iconst (v := nI (0)) (pc := 1) dX3_fell_1 rfl ?_
  refine J_putf (k := 0) (pc := 2) dX3_fell_2 fpX3_fell_34 (fun g => ⟨rfl, rfl⟩) a40 (Nat.le_of_ble_eq_true rfl) ?_
  obtain ⟨h_1, eh_1⟩ : ∃ z : MH, z = (h.1, hset h.2 (53) (oB 3 [.int (nI (0)), .int (nI (σ.1.1)), .ref (54), .ref (55), .int (nI (σ.1.2.1)), .int (nI (σ.2.1.2.1)), .int (nI (σ.2.1.2.2)), .int (nI (σ.2.1.1)), .ref (56), .ref (57), .ref (58)])) := ⟨_, rfl⟩
  refine J_heq (h2 := h_1) eh_1 ?_
  have zh_1 : h_1.1 = h.1 := by rw [eh_1]
  have H_2 : h_1.2 (53) = some (oB 3 [.int (nI (0)), .int (nI (σ.1.1)), .ref (54), .ref (55), .int (nI (σ.1.2.1)), .int (nI (σ.2.1.2.1)), .int (nI (σ.2.1.2.2)), .int (nI (σ.2.1.1)), .ref (56), .ref (57), .ref (58)]) := hs_s eh_1
  have hP1 : MP h_1 σ ρ (nI 0) := MP_53 hP eh_1
  have fm1 : FM h h_1 := FM_set eh_1 (by decide) (by decide)
  obtain ⟨a1, a2, a3, a4, ⟨mf, a5, a5b⟩, ⟨sf, a6, a6b⟩, ⟨rf, a7, a7b⟩, ⟨pf, a8, a8b⟩, ⟨lf, a9, a9b⟩, a10, a11⟩ := id hP1
  obtain ⟨o1, o2, o3, o4⟩ := id a2
  have hM := MP_MS hP1
  obtain ⟨hn, hc9, hm5, hs2⟩ := id a1
  have hp9 := pw_le hn
  refine J_aload_n (i := 0) (pc := 5) dX3_fell_5 rfl rfl ?_
  refine J_iload_n (i := 1) (pc := 6) dX3_fell_6 rfl rfl ?_
  refine J_cVi (st := []) (As := [.int (x)]) (pc := 7) dX3_fell_7 okX3_isTree q4_8 q4_10 qs2_9 (rfl : vwCl[3]? = some _) a4 rfl (Nat.le_of_ble_eq_true rfl) (Nat.le_of_ble_eq_true rfl) (m_isTreeF hP1 hx) ?_
  refine J_if_neN (tgt := 19) (pc := 10) dX3_fell_10 (by decide) (by omega) (fun c10 => by exfalso; first | omega | simp_all) (fun c10 => ?_)
  refine J_aload_n (i := 0) (pc := 13) dX3_fell_13 rfl rfl ?_
  refine J_iconst (v := nI (1)) (pc := 14) dX3_fell_14 rfl ?_
  refine J_cVh (st := []) (As := [.int (nI (1))]) (pc := 15) dX3_fell_15 okX3_no q3_169 q3_171 qs1_13 (rfl : vwCl[3]? = some _) a4 rfl (Nat.le_of_ble_eq_true rfl) (Nat.le_of_ble_eq_true rfl) (m_no hP1) (fun h_3 q_4 => ?_)
  refine J_iret (ty := .int) (pc := 18) dX3_fell_18 rfl rfl ?_
  exact ⟨rfl, FM_tr fm1 q_4.1, ρ, q_4.2⟩

