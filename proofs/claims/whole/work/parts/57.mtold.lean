-- the reference: counts, what is told, checks of arguments
set_option maxHeartbeats 2000000 in
set_option maxRecDepth 20000 in
theorem mvf_loop {g : GT} {dd : Nat} {σ : ST} {ρ : Nat → Nat} {th : Int32} {X R : Nat} {Q : RT → MH → Prop} (hX : X < 2 ^ 20) : ∀ (k b a r : Nat) (h : MH), b + k = σ.1.1 → MP h σ ρ th → pcn X σ.1.1 ≤ pcn X b + r → (∀ h', Ext h h' → Q (.inl (some (.int (nI (a + sumP (fun b => if X.testBit b = true ∧ vS σ (σ.1.2.2.1 0 b) (σ.1.2.2.1 1 b) (σ.1.2.2.1 2 b) = some (σ.1.2.2.2 b) then 1 else 0) k b))))) h') →
    J g (dd + 3) (2 * r + R) (6 * r + 3 * R) mX3_votedFor 4 [(3, .int (nI (b))), (2, .int (nI (a))), (0, .ref (53)), (1, .int (nI (X)))] [] h Q := by
  intro k
  induction k with
  | zero =>
    intro b a r h hb hP hr hq
    obtain ⟨a1, a2, a3, a4, ⟨mf, a5, a5b⟩, ⟨sf, a6, a6b⟩, ⟨rf, a7, a7b⟩, ⟨pf, a8, a8b⟩, ⟨lf, a9, a9b⟩, a10, a11⟩ := id hP
    obtain ⟨o1, o2, o3, o4⟩ := id a2
    have hM := MP_MS hP
    obtain ⟨hn, hc9, hm5, hs2⟩ := id a1
    have hp9 := pw_le hn
    refine J_iload_n (i := 3) (pc := 4) dX3_votedFor_4 rfl rfl ?_
    refine J_aload_n (i := 0) (pc := 5) dX3_votedFor_5 rfl rfl ?_
    refine J_getf (k := 1) (pc := 6) dX3_votedFor_6 flX3_44 a4 rfl ?_
    refine J_icmp_geN (tgt := 52) (pc := 9) dX3_votedFor_9 (by decide) (by omega) (by omega) (fun c9 => ?_) (fun c9 => by exfalso; first | omega | simp_all)
    refine J_iload_n (i := 2) (pc := 52) dX3_votedFor_52 rfl rfl ?_
    refine J_iret (ty := .int) (pc := 53) dX3_votedFor_53 rfl rfl ?_
    exact hq h Ext_rfl
  | succ k ih =>
    intro b a r h hk hP hr hq
    have hb : b < σ.1.1 := by omega
    obtain ⟨a1, a2, a3, a4, ⟨mf, a5, a5b⟩, ⟨sf, a6, a6b⟩, ⟨rf, a7, a7b⟩, ⟨pf, a8, a8b⟩, ⟨lf, a9, a9b⟩, a10, a11⟩ := id hP
    obtain ⟨o1, o2, o3, o4⟩ := id a2
    have hM := MP_MS hP
    obtain ⟨hn, hc9, hm5, hs2⟩ := id a1
    have hp9 := pw_le hn
    have hs9 := hs2 b hb
    have hv31 : ∀ z, vS σ (σ.1.2.2.1 0 b) (σ.1.2.2.1 1 b) (σ.1.2.2.1 2 b) = some z → z < 2 ^ 31 := fun z e => by have := vS_le e; omega
    have hpl := pcn_le2 X (show b + 1 ≤ σ.1.1 by omega)
    refine J_iload_n (i := 3) (pc := 4) dX3_votedFor_4 rfl rfl ?_
    refine J_aload_n (i := 0) (pc := 5) dX3_votedFor_5 rfl rfl ?_
    refine J_getf (k := 1) (pc := 6) dX3_votedFor_6 flX3_44 a4 rfl ?_
    refine J_icmp_geN (tgt := 52) (pc := 9) dX3_votedFor_9 (by decide) (by omega) (by omega) (fun c9 => by exfalso; first | omega | simp_all) (fun c9 => ?_)
    refine J_iload_n (i := 2) (pc := 12) dX3_votedFor_12 rfl rfl ?_
    refine J_iload_n (i := 1) (pc := 13) dX3_votedFor_13 rfl rfl ?_
    refine J_iload_n (i := 3) (pc := 14) dX3_votedFor_14 rfl rfl ?_
    refine J_cSi (st := [.int (nI (a))]) (As := [.int (nI (X)), .int (nI (b))]) (pc := 15) dX3_votedFor_15 okX3_has q3_184 q3_185 rfl (Nat.le_of_ble_eq_true rfl) (Nat.le_of_ble_eq_true rfl) (m_has (by omega) (by omega)) ?_
    refine J_if_eqB (tgt := 43) (pc := 18) dX3_votedFor_18 (by decide) (fun c18 => ?_) (fun c18 => ?_)
    · skip
      refine J_iconst (v := nI (0)) (pc := 43) dX3_votedFor_43 rfl ?_
      refine J_iaddN (pc := 44) dX3_votedFor_44 ?_
      refine J_istore_n (i := 2) (lv' := [(2, .int (nI (a))), (3, .int (nI (b))), (0, .ref (53)), (1, .int (nI (X)))]) (pc := 45) dX3_votedFor_45 rfl (by decide) rfl ?_
      refine J_iinc (i := 3) (v := nI (b + 1)) (lv' := [(3, .int (nI (b + 1))), (2, .int (nI (a))), (0, .ref (53)), (1, .int (nI (X)))]) (pc := 46) dX3_votedFor_46 rfl (nI_add (b) 1) (by decide) rfl ?_
      refine J_goto (tgt := 4) (pc := 49) dX3_votedFor_49 (by decide) ?_
      refine J_sub (lv' := [(3, .int (nI (b + 1))), (2, .int (nI (a))), (0, .ref (53)), (1, .int (nI (X)))]) [0, 1, 2, 3] rfl ?_
      have hpc : pcn X (b + 1) = pcn X b + (if X.testBit b then 1 else 0) := rfl
      rw [c18] at hpc
      rw [if_neg (by decide)] at hpc
      have hle := pcn_le2 X (show b + 1 ≤ σ.1.1 by omega)
      rw [sumP, if_neg (fun q => by first | (rw [c18] at q; exact absurd q.1 (by decide)) | exact c36 ((enc_eq hv31 (by omega)).mpr q.2)), Nat.zero_add] at hq
      exact J_bud (by omega) (by omega) (ih (b + 1) (a) (r) h (by omega) hP (by omega) (fun h' x9 => hq h' (Ext_tr Ext_rfl x9)))
    · skip
      have hr1 : 1 ≤ r := by
        have hpc : pcn X (b + 1) = pcn X b + (if X.testBit b then 1 else 0) := rfl
        rw [c18, if_pos rfl] at hpc
        omega
      refine J_aload_n (i := 0) (pc := 21) dX3_votedFor_21 rfl rfl ?_
      refine J_aload_n (i := 0) (pc := 22) dX3_votedFor_22 rfl rfl ?_
      refine J_iload_n (i := 3) (pc := 23) dX3_votedFor_23 rfl rfl ?_
      refine J_cVB (st := [.ref (53), .int (nI (a))]) (As := [.int (nI (b))]) (v := some (.ref (h.1))) (ca1 := 1) (sa1 := 3) (ca2 := 2 * (r - 1) + 1 + R) (sa2 := 6 * (r - 1) + 3 + 3 * R) (pc := 24) dX3_votedFor_24 okX3_threeOf q4_27 q4_29 qs2_12 (rfl : vwCl[3]? = some _) a4 rfl (Nat.le_of_ble_eq_true rfl) (Nat.le_of_ble_eq_true rfl) (m_threeOf hM (by omega) hb) (by omega) (by omega) (fun h_1 q_2 => ?_)
      obtain ⟨B, eB⟩ : ∃ z : Nat, z = h.1 := ⟨_, rfl⟩
      rw [← eB]
      obtain ⟨xB, zB, tf, kB, tB⟩ := q_2
      rw [← eB] at kB
      have zh_1 := xB.1
      have H_3 : h_1.2 (53) = some (oB 3 [.int (th), .int (nI (σ.1.1)), .ref (54), .ref (55), .int (nI (σ.1.2.1)), .int (nI (σ.2.1.2.1)), .int (nI (σ.2.1.2.2)), .int (nI (σ.2.1.1)), .ref (56), .ref (57), .ref (58)]) := (xB.2 _ (by omega)).trans a4
      have H_4 : h_1.2 (55) = some (aI (20) (sf)) := (xB.2 _ (by omega)).trans a6
      have H_5 : Ext h h_1 := Ext_tr Ext_rfl xB
      have H_6 : MS h_1 σ.1 := MS_ext xB (by omega) hM
      have H_7 : MP h_1 σ ρ th := MP_ext xB hP
      refine J_cVB (st := [.int (nI (a))]) (As := [.ref (B)]) (v := some (.int (enc (vS σ (σ.1.2.2.1 0 b) (σ.1.2.2.1 1 b) (σ.1.2.2.1 2 b))))) (ca1 := 1) (sa1 := 3) (ca2 := 2 * (r - 1) + R) (sa2 := 6 * (r - 1) + 3 * R) (pc := 27) dX3_votedFor_27 okX3_voted q4_81 q4_83 qs2_15 (rfl : vwCl[3]? = some _) H_3 rfl (Nat.le_of_ble_eq_true rfl) (Nat.le_of_ble_eq_true rfl) (m_voted H_7 kB (by omega) tB (hm5 0 b hb) (hm5 1 b hb) (hm5 2 b hb)) (by omega) (by omega) (fun h_8 q_9 => ?_)
      have zh_8 := q_9.1
      have H_10 : h_8.2 (53) = some (oB 3 [.int (th), .int (nI (σ.1.1)), .ref (54), .ref (55), .int (nI (σ.1.2.1)), .int (nI (σ.2.1.2.1)), .int (nI (σ.2.1.2.2)), .int (nI (σ.2.1.1)), .ref (56), .ref (57), .ref (58)]) := (q_9.2 _ (by omega)).trans H_3
      have H_11 : h_8.2 (55) = some (aI (20) (sf)) := (q_9.2 _ (by omega)).trans H_4
      have H_12 : Ext h h_8 := Ext_tr H_5 q_9
      have H_13 : MS h_8 σ.1 := MS_ext q_9 (by omega) H_6
      have H_14 : MP h_8 σ ρ th := MP_ext q_9 H_7
      have H_15 : h_8.2 (B) = some (aI (3) (tf)) := (q_9.2 _ (by omega)).trans kB
      refine J_aload_n (i := 0) (pc := 30) dX3_votedFor_30 rfl rfl ?_
      refine J_getf (k := 3) (pc := 31) dX3_votedFor_31 flX3_13 H_10 rfl ?_
      refine J_iload_n (i := 3) (pc := 34) dX3_votedFor_34 rfl rfl ?_
      refine J_iald (j := b) (pc := 35) dX3_votedFor_35 H_11 rfl (by omega) (by omega) ?_
      rw [show sf b = nI (σ.1.2.2.2 b) from a6b b hb]
      refine J_icmp_ne (tgt := 43) (pc := 36) dX3_votedFor_36 (by decide) (fun c36 => ?_) (fun c36 => ?_)
      · skip
        refine J_iconst (v := nI (0)) (pc := 43) dX3_votedFor_43 rfl ?_
        refine J_iaddN (pc := 44) dX3_votedFor_44 ?_
        refine J_istore_n (i := 2) (lv' := [(2, .int (nI (a))), (3, .int (nI (b))), (0, .ref (53)), (1, .int (nI (X)))]) (pc := 45) dX3_votedFor_45 rfl (by decide) rfl ?_
        refine J_iinc (i := 3) (v := nI (b + 1)) (lv' := [(3, .int (nI (b + 1))), (2, .int (nI (a))), (0, .ref (53)), (1, .int (nI (X)))]) (pc := 46) dX3_votedFor_46 rfl (nI_add (b) 1) (by decide) rfl ?_
        refine J_goto (tgt := 4) (pc := 49) dX3_votedFor_49 (by decide) ?_
        refine J_sub (lv' := [(3, .int (nI (b + 1))), (2, .int (nI (a))), (0, .ref (53)), (1, .int (nI (X)))]) [0, 1, 2, 3] rfl ?_
        have hpc : pcn X (b + 1) = pcn X b + (if X.testBit b then 1 else 0) := rfl
        rw [c18] at hpc
        rw [if_pos rfl] at hpc
        have hle := pcn_le2 X (show b + 1 ≤ σ.1.1 by omega)
        rw [sumP, if_neg (fun q => by first | (rw [c18] at q; exact absurd q.1 (by decide)) | exact c36 ((enc_eq hv31 (by omega)).mpr q.2)), Nat.zero_add] at hq
        exact J_bud (by omega) (by omega) (ih (b + 1) (a) (r - 1) h_8 (by omega) H_14 (by omega) (fun h' x9 => hq h' (Ext_tr H_12 x9)))
      · skip
        refine J_iconst (v := nI (1)) (pc := 39) dX3_votedFor_39 rfl ?_
        refine J_goto (tgt := 44) (pc := 40) dX3_votedFor_40 (by decide) ?_
        refine J_iaddN (pc := 44) dX3_votedFor_44 ?_
        refine J_istore_n (i := 2) (lv' := [(2, .int (nI (a + 1))), (3, .int (nI (b))), (0, .ref (53)), (1, .int (nI (X)))]) (pc := 45) dX3_votedFor_45 rfl (by decide) rfl ?_
        refine J_iinc (i := 3) (v := nI (b + 1)) (lv' := [(3, .int (nI (b + 1))), (2, .int (nI (a + 1))), (0, .ref (53)), (1, .int (nI (X)))]) (pc := 46) dX3_votedFor_46 rfl (nI_add (b) 1) (by decide) rfl ?_
        refine J_goto (tgt := 4) (pc := 49) dX3_votedFor_49 (by decide) ?_
        refine J_sub (lv' := [(3, .int (nI (b + 1))), (2, .int (nI (a + 1))), (0, .ref (53)), (1, .int (nI (X)))]) [0, 1, 2, 3] rfl ?_
        have hpc : pcn X (b + 1) = pcn X b + (if X.testBit b then 1 else 0) := rfl
        rw [c18] at hpc
        rw [if_pos rfl] at hpc
        have hle := pcn_le2 X (show b + 1 ≤ σ.1.1 by omega)
        rw [sumP, if_pos ⟨c18, (enc_eq hv31 (by omega)).mp c36⟩, ← Nat.add_assoc] at hq
        exact J_bud (by omega) (by omega) (ih (b + 1) (a + 1) (r - 1) h_8 (by omega) H_14 (by omega) (fun h' x9 => hq h' (Ext_tr H_12 x9)))
theorem m_votedFor {g : GT} {dd : Nat} {h : MH} {σ : ST} {ρ : Nat → Nat} {th : Int32} (hP : MP h σ ρ th) {X : Nat} (hX : X < 2 ^ 20) : J g (dd + 3) (2 * cnt X) (6 * cnt X) mX3_votedFor 0 (lv_args 0 [.ref 53, .int (nI X)]) [] h (RH (nI (vrS σ X)) (fun h' => Ext h h')) := by
  rw [show vrS σ X = 0 + vrS σ X from (Nat.zero_add _).symm]
  refine J_iconst (v := nI (0)) (pc := 0) dX3_votedFor_0 rfl ?_
  refine J_istore_n (i := 2) (lv' := [(2, .int (nI (0))), (0, .ref (53)), (1, .int (nI (X)))]) (pc := 1) dX3_votedFor_1 rfl (by decide) rfl ?_
  refine J_iconst (v := nI (0)) (pc := 2) dX3_votedFor_2 rfl ?_
  refine J_istore_n (i := 3) (lv' := [(3, .int (nI (0))), (2, .int (nI (0))), (0, .ref (53)), (1, .int (nI (X)))]) (pc := 3) dX3_votedFor_3 rfl (by decide) rfl ?_
  refine J_sub (lv' := [(3, .int (nI (0))), (2, .int (nI (0))), (0, .ref (53)), (1, .int (nI (X)))]) [0, 1, 2, 3] rfl ?_
  exact mvf_loop (R := 0) hX σ.1.1 0 0 (cnt X) h (Nat.zero_add _) hP (by have := pcn_cnt hP.1 X; show pcn X σ.1.1 ≤ 0 + cnt X; omega) (fun h' x9 => ⟨rfl, x9⟩)

set_option maxHeartbeats 2000000 in
set_option maxRecDepth 20000 in
theorem m_counted0 {g : GT} {dd : Nat} {h : MH} {σ : ST} {ρ : Nat → Nat} {th : Int32} (hP : MP h σ ρ th) : J g (dd + 4) 0 0 mX3_counted 0 (lv_args 0 [.ref (53), .int (nI (0))]) [] h (RH (nI (ctS σ 0)) (fun h' => Ext h h')) := by
  obtain ⟨a1, a2, a3, a4, ⟨mf, a5, a5b⟩, ⟨sf, a6, a6b⟩, ⟨rf, a7, a7b⟩, ⟨pf, a8, a8b⟩, ⟨lf, a9, a9b⟩, a10, a11⟩ := id hP
  obtain ⟨o1, o2, o3, o4⟩ := id a2
  have hM := MP_MS hP
  obtain ⟨hn, hc9, hm5, hs2⟩ := id a1
  have hp9 := pw_le hn

  refine J_iload_n (i := 1) (pc := 0) dX3_counted_0 rfl rfl ?_
  refine J_tableIn (off := 39) (tgt := 40) (pc := 1) dX3_counted_1 (by decide) (by decide) (by decide +kernel) (by decide) ?_
  refine J_aload_n (i := 0) (pc := 40) dX3_counted_40 rfl rfl ?_
  refine J_getf (k := 1) (pc := 41) dX3_counted_41 flX3_44 a4 rfl ?_
  refine J_iret (ty := .int) (pc := 44) dX3_counted_44 rfl rfl ?_
  exact ⟨rfl, Ext_rfl⟩

set_option maxHeartbeats 2000000 in
set_option maxRecDepth 20000 in
theorem m_counted1 {g : GT} {dd : Nat} {h : MH} {σ : ST} {ρ : Nat → Nat} {th : Int32} (hP : MP h σ ρ th) : J g (dd + 4) 0 0 mX3_counted 0 (lv_args 0 [.ref (53), .int (nI (1))]) [] h (RH (nI (ctS σ 1)) (fun h' => Ext h h')) := by
  obtain ⟨a1, a2, a3, a4, ⟨mf, a5, a5b⟩, ⟨sf, a6, a6b⟩, ⟨rf, a7, a7b⟩, ⟨pf, a8, a8b⟩, ⟨lf, a9, a9b⟩, a10, a11⟩ := id hP
  obtain ⟨o1, o2, o3, o4⟩ := id a2
  have hM := MP_MS hP
  obtain ⟨hn, hc9, hm5, hs2⟩ := id a1
  have hp9 := pw_le hn

  refine J_iload_n (i := 1) (pc := 0) dX3_counted_0 rfl rfl ?_
  refine J_tableIn (off := 44) (tgt := 45) (pc := 1) dX3_counted_1 (by decide) (by decide) (by decide +kernel) (by decide) ?_
  refine J_aload_n (i := 0) (pc := 45) dX3_counted_45 rfl rfl ?_
  refine J_aload_n (i := 0) (pc := 46) dX3_counted_46 rfl rfl ?_
  refine J_getf (k := 4) (pc := 47) dX3_counted_47 flX3_47 a4 rfl ?_
  refine J_cVi (st := []) (As := [.int (nI (σ.1.2.1))]) (pc := 50) dX3_counted_50 okX3_many q3_219 q3_221 qs2_3 (rfl : vwCl[3]? = some _) a4 rfl (Nat.le_of_ble_eq_true rfl) (Nat.le_of_ble_eq_true rfl) (m_many hM (by omega)) ?_
  refine J_iret (ty := .int) (pc := 53) dX3_counted_53 rfl rfl ?_
  exact ⟨rfl, Ext_rfl⟩

set_option maxHeartbeats 2000000 in
set_option maxRecDepth 20000 in
theorem m_counted2 {g : GT} {dd : Nat} {h : MH} {σ : ST} {ρ : Nat → Nat} {th : Int32} (hP : MP h σ ρ th) : J g (dd + 4) 0 0 mX3_counted 0 (lv_args 0 [.ref (53), .int (nI (2))]) [] h (RH (nI (ctS σ 2)) (fun h' => Ext h h')) := by
  obtain ⟨a1, a2, a3, a4, ⟨mf, a5, a5b⟩, ⟨sf, a6, a6b⟩, ⟨rf, a7, a7b⟩, ⟨pf, a8, a8b⟩, ⟨lf, a9, a9b⟩, a10, a11⟩ := id hP
  obtain ⟨o1, o2, o3, o4⟩ := id a2
  have hM := MP_MS hP
  obtain ⟨hn, hc9, hm5, hs2⟩ := id a1
  have hp9 := pw_le hn

  refine J_iload_n (i := 1) (pc := 0) dX3_counted_0 rfl rfl ?_
  refine J_tableIn (off := 53) (tgt := 54) (pc := 1) dX3_counted_1 (by decide) (by decide) (by decide +kernel) (by decide) ?_
  refine J_aload_n (i := 0) (pc := 54) dX3_counted_54 rfl rfl ?_
  refine J_getf (k := 7) (pc := 55) dX3_counted_55 flX3_37 a4 rfl ?_
  refine J_iret (ty := .int) (pc := 58) dX3_counted_58 rfl rfl ?_
  exact ⟨rfl, Ext_rfl⟩

set_option maxHeartbeats 2000000 in
set_option maxRecDepth 20000 in
theorem m_counted3 {g : GT} {dd : Nat} {h : MH} {σ : ST} {ρ : Nat → Nat} {th : Int32} (hP : MP h σ ρ th) : J g (dd + 4) (2 * cnt (gro σ.1)) (6 * cnt (gro σ.1)) mX3_counted 0 (lv_args 0 [.ref (53), .int (nI (3))]) [] h (RH (nI (ctS σ 3)) (fun h' => Ext h h')) := by
  obtain ⟨a1, a2, a3, a4, ⟨mf, a5, a5b⟩, ⟨sf, a6, a6b⟩, ⟨rf, a7, a7b⟩, ⟨pf, a8, a8b⟩, ⟨lf, a9, a9b⟩, a10, a11⟩ := id hP
  obtain ⟨o1, o2, o3, o4⟩ := id a2
  have hM := MP_MS hP
  obtain ⟨hn, hc9, hm5, hs2⟩ := id a1
  have hp9 := pw_le hn

  refine J_iload_n (i := 1) (pc := 0) dX3_counted_0 rfl rfl ?_
  refine J_tableIn (off := 58) (tgt := 59) (pc := 1) dX3_counted_1 (by decide) (by decide) (by decide +kernel) (by decide) ?_
  refine J_aload_n (i := 0) (pc := 59) dX3_counted_59 rfl rfl ?_
  refine J_aload_n (i := 0) (pc := 60) dX3_counted_60 rfl rfl ?_
  refine J_cVi (st := [.ref (53)]) (As := []) (pc := 61) dX3_counted_61 okX3_growing q3_199 q3_201 qs1_14 (rfl : vwCl[3]? = some _) a4 rfl (Nat.le_of_ble_eq_true rfl) (Nat.le_of_ble_eq_true rfl) (m_growing hM) ?_
  refine J_cVB (st := []) (As := [.int (nI (gro σ.1))]) (v := some (.int (nI (vrS σ (gro σ.1))))) (ca1 := 2 * cnt (gro σ.1)) (sa1 := 6 * cnt (gro σ.1)) (ca2 := 0) (sa2 := 0) (pc := 64) dX3_counted_64 okX3_votedFor q4_93 q4_95 qs3_1 (rfl : vwCl[3]? = some _) a4 rfl (Nat.le_of_ble_eq_true rfl) (Nat.le_of_ble_eq_true rfl) (m_votedFor hP (gro_lt hM.1)) (by omega) (by omega) (fun h_1 q_2 => ?_)
  have zh_1 := q_2.1
  have H_3 : h_1.2 (53) = some (oB 3 [.int (th), .int (nI (σ.1.1)), .ref (54), .ref (55), .int (nI (σ.1.2.1)), .int (nI (σ.2.1.2.1)), .int (nI (σ.2.1.2.2)), .int (nI (σ.2.1.1)), .ref (56), .ref (57), .ref (58)]) := (q_2.2 _ (by omega)).trans a4
  have H_4 : h_1.2 (54) = some (aI (60) (mf)) := (q_2.2 _ (by omega)).trans a5
  have H_5 : h_1.2 (55) = some (aI (20) (sf)) := (q_2.2 _ (by omega)).trans a6
  have H_6 : h_1.2 (56) = some (aG (5) (rf)) := (q_2.2 _ (by omega)).trans a7
  have H_7 : h_1.2 (57) = some (aI (5) (pf)) := (q_2.2 _ (by omega)).trans a8
  have H_8 : h_1.2 (58) = some (aI (5) (lf)) := (q_2.2 _ (by omega)).trans a9
  have H_9 : Ext h h_1 := Ext_tr Ext_rfl q_2
  have H_10 : MS h_1 σ.1 := MS_ext q_2 (by omega) hM
  have H_11 : MP h_1 σ ρ th := MP_ext q_2 hP
  refine J_iret (ty := .int) (pc := 67) dX3_counted_67 rfl rfl ?_
  exact ⟨rfl, H_9⟩

set_option maxHeartbeats 2000000 in
set_option maxRecDepth 20000 in
theorem m_counted4 {g : GT} {dd : Nat} {h : MH} {σ : ST} {ρ : Nat → Nat} {th : Int32} (hP : MP h σ ρ th) : J g (dd + 4) (2 * cnt σ.1.2.1) (6 * cnt σ.1.2.1) mX3_counted 0 (lv_args 0 [.ref (53), .int (nI (4))]) [] h (RH (nI (ctS σ 4)) (fun h' => Ext h h')) := by
  obtain ⟨a1, a2, a3, a4, ⟨mf, a5, a5b⟩, ⟨sf, a6, a6b⟩, ⟨rf, a7, a7b⟩, ⟨pf, a8, a8b⟩, ⟨lf, a9, a9b⟩, a10, a11⟩ := id hP
  obtain ⟨o1, o2, o3, o4⟩ := id a2
  have hM := MP_MS hP
  obtain ⟨hn, hc9, hm5, hs2⟩ := id a1
  have hp9 := pw_le hn

  refine J_iload_n (i := 1) (pc := 0) dX3_counted_0 rfl rfl ?_
  refine J_tableIn (off := 67) (tgt := 68) (pc := 1) dX3_counted_1 (by decide) (by decide) (by decide +kernel) (by decide) ?_
  refine J_aload_n (i := 0) (pc := 68) dX3_counted_68 rfl rfl ?_
  refine J_aload_n (i := 0) (pc := 69) dX3_counted_69 rfl rfl ?_
  refine J_getf (k := 4) (pc := 70) dX3_counted_70 flX3_47 a4 rfl ?_
  refine J_cVB (st := []) (As := [.int (nI (σ.1.2.1))]) (v := some (.int (nI (vrS σ (σ.1.2.1))))) (ca1 := 2 * cnt (σ.1.2.1)) (sa1 := 6 * cnt (σ.1.2.1)) (ca2 := 0) (sa2 := 0) (pc := 73) dX3_counted_73 okX3_votedFor q4_93 q4_95 qs3_1 (rfl : vwCl[3]? = some _) a4 rfl (Nat.le_of_ble_eq_true rfl) (Nat.le_of_ble_eq_true rfl) (m_votedFor hP (by omega)) (by omega) (by omega) (fun h_1 q_2 => ?_)
  have zh_1 := q_2.1
  have H_3 : h_1.2 (53) = some (oB 3 [.int (th), .int (nI (σ.1.1)), .ref (54), .ref (55), .int (nI (σ.1.2.1)), .int (nI (σ.2.1.2.1)), .int (nI (σ.2.1.2.2)), .int (nI (σ.2.1.1)), .ref (56), .ref (57), .ref (58)]) := (q_2.2 _ (by omega)).trans a4
  have H_4 : h_1.2 (54) = some (aI (60) (mf)) := (q_2.2 _ (by omega)).trans a5
  have H_5 : h_1.2 (55) = some (aI (20) (sf)) := (q_2.2 _ (by omega)).trans a6
  have H_6 : h_1.2 (56) = some (aG (5) (rf)) := (q_2.2 _ (by omega)).trans a7
  have H_7 : h_1.2 (57) = some (aI (5) (pf)) := (q_2.2 _ (by omega)).trans a8
  have H_8 : h_1.2 (58) = some (aI (5) (lf)) := (q_2.2 _ (by omega)).trans a9
  have H_9 : Ext h h_1 := Ext_tr Ext_rfl q_2
  have H_10 : MS h_1 σ.1 := MS_ext q_2 (by omega) hM
  have H_11 : MP h_1 σ ρ th := MP_ext q_2 hP
  refine J_iret (ty := .int) (pc := 76) dX3_counted_76 rfl rfl ?_
  exact ⟨rfl, H_9⟩

set_option maxHeartbeats 2000000 in
set_option maxRecDepth 20000 in
theorem m_counted5 {g : GT} {dd : Nat} {h : MH} {σ : ST} {ρ : Nat → Nat} {th : Int32} (hP : MP h σ ρ th) : J g (dd + 4) 0 0 mX3_counted 0 (lv_args 0 [.ref (53), .int (nI (5))]) [] h (RH (nI (ctS σ 5)) (fun h' => Ext h h')) := by
  obtain ⟨a1, a2, a3, a4, ⟨mf, a5, a5b⟩, ⟨sf, a6, a6b⟩, ⟨rf, a7, a7b⟩, ⟨pf, a8, a8b⟩, ⟨lf, a9, a9b⟩, a10, a11⟩ := id hP
  obtain ⟨o1, o2, o3, o4⟩ := id a2
  have hM := MP_MS hP
  obtain ⟨hn, hc9, hm5, hs2⟩ := id a1
  have hp9 := pw_le hn

  refine J_iload_n (i := 1) (pc := 0) dX3_counted_0 rfl rfl ?_
  refine J_tableIn (off := 76) (tgt := 77) (pc := 1) dX3_counted_1 (by decide) (by decide) (by decide +kernel) (by decide) ?_
  refine J_aload_n (i := 0) (pc := 77) dX3_counted_77 rfl rfl ?_
  refine J_getf (k := 5) (pc := 78) dX3_counted_78 flX3_16 a4 rfl ?_
  refine J_iret (ty := .int) (pc := 81) dX3_counted_81 rfl rfl ?_
  exact ⟨rfl, Ext_rfl⟩

set_option maxHeartbeats 2000000 in
set_option maxRecDepth 20000 in
theorem m_counted6 {g : GT} {dd : Nat} {h : MH} {σ : ST} {ρ : Nat → Nat} {th : Int32} (hP : MP h σ ρ th) : J g (dd + 4) 0 0 mX3_counted 0 (lv_args 0 [.ref (53), .int (nI (6))]) [] h (RH (nI (ctS σ 6)) (fun h' => Ext h h')) := by
  obtain ⟨a1, a2, a3, a4, ⟨mf, a5, a5b⟩, ⟨sf, a6, a6b⟩, ⟨rf, a7, a7b⟩, ⟨pf, a8, a8b⟩, ⟨lf, a9, a9b⟩, a10, a11⟩ := id hP
  obtain ⟨o1, o2, o3, o4⟩ := id a2
  have hM := MP_MS hP
  obtain ⟨hn, hc9, hm5, hs2⟩ := id a1
  have hp9 := pw_le hn

  refine J_iload_n (i := 1) (pc := 0) dX3_counted_0 rfl rfl ?_
  refine J_tableOut (tgt := 82) (pc := 1) dX3_counted_1 (by decide) (by decide) ?_
  refine J_aload_n (i := 0) (pc := 82) dX3_counted_82 rfl rfl ?_
  refine J_getf (k := 6) (pc := 83) dX3_counted_83 flX3_20 a4 rfl ?_
  refine J_iret (ty := .int) (pc := 86) dX3_counted_86 rfl rfl ?_
  exact ⟨rfl, Ext_rfl⟩

set_option maxHeartbeats 2000000 in
set_option maxRecDepth 20000 in
theorem m_beanTold0 {g : GT} {dd : Nat} {h : MH} {σ : ST} {ρ : Nat → Nat} {th : Int32} (hP : MP h σ ρ th) {k : Nat} (hk : k < σ.1.1) : J g (dd + 1) 0 0 mX3_beanTold 0 (lv_args 0 [.ref (53), .int (nI (k)), .int (nI (0))]) [] h (RI (nI (toS σ k 0)) h) := by
  obtain ⟨a1, a2, a3, a4, ⟨mf, a5, a5b⟩, ⟨sf, a6, a6b⟩, ⟨rf, a7, a7b⟩, ⟨pf, a8, a8b⟩, ⟨lf, a9, a9b⟩, a10, a11⟩ := id hP
  obtain ⟨o1, o2, o3, o4⟩ := id a2
  have hM := MP_MS hP
  obtain ⟨hn, hc9, hm5, hs2⟩ := id a1
  have hp9 := pw_le hn

  refine J_iload_n (i := 2) (pc := 0) dX3_beanTold_0 rfl rfl ?_
  refine J_iconst (v := nI (3)) (pc := 1) dX3_beanTold_1 rfl ?_
  refine J_icmp_geN (tgt := 14) (pc := 2) dX3_beanTold_2 (by decide) (by omega) (by omega) (fun c2 => by exfalso; first | omega | simp_all) (fun c2 => ?_)
  refine J_aload_n (i := 0) (pc := 5) dX3_beanTold_5 rfl rfl ?_
  refine J_iload_n (i := 1) (pc := 6) dX3_beanTold_6 rfl rfl ?_
  refine J_iload_n (i := 2) (pc := 7) dX3_beanTold_7 rfl rfl ?_
  refine J_cVi (st := []) (As := [.int (nI (k)), .int (nI (0))]) (pc := 8) dX3_beanTold_8 okX3_measure q3_231 q3_233 qs2_6 (rfl : vwCl[3]? = some _) a4 rfl (Nat.le_of_ble_eq_true rfl) (Nat.le_of_ble_eq_true rfl) (m_measure hM (by omega) (by omega)) ?_
  refine J_goto (tgt := 44) (pc := 11) dX3_beanTold_11 (by decide) ?_
  refine J_iret (ty := .int) (pc := 44) dX3_beanTold_44 rfl rfl ?_
  exact ⟨rfl, rfl⟩

set_option maxHeartbeats 2000000 in
set_option maxRecDepth 20000 in
theorem m_beanTold1 {g : GT} {dd : Nat} {h : MH} {σ : ST} {ρ : Nat → Nat} {th : Int32} (hP : MP h σ ρ th) {k : Nat} (hk : k < σ.1.1) : J g (dd + 1) 0 0 mX3_beanTold 0 (lv_args 0 [.ref (53), .int (nI (k)), .int (nI (1))]) [] h (RI (nI (toS σ k 1)) h) := by
  obtain ⟨a1, a2, a3, a4, ⟨mf, a5, a5b⟩, ⟨sf, a6, a6b⟩, ⟨rf, a7, a7b⟩, ⟨pf, a8, a8b⟩, ⟨lf, a9, a9b⟩, a10, a11⟩ := id hP
  obtain ⟨o1, o2, o3, o4⟩ := id a2
  have hM := MP_MS hP
  obtain ⟨hn, hc9, hm5, hs2⟩ := id a1
  have hp9 := pw_le hn

  refine J_iload_n (i := 2) (pc := 0) dX3_beanTold_0 rfl rfl ?_
  refine J_iconst (v := nI (3)) (pc := 1) dX3_beanTold_1 rfl ?_
  refine J_icmp_geN (tgt := 14) (pc := 2) dX3_beanTold_2 (by decide) (by omega) (by omega) (fun c2 => by exfalso; first | omega | simp_all) (fun c2 => ?_)
  refine J_aload_n (i := 0) (pc := 5) dX3_beanTold_5 rfl rfl ?_
  refine J_iload_n (i := 1) (pc := 6) dX3_beanTold_6 rfl rfl ?_
  refine J_iload_n (i := 2) (pc := 7) dX3_beanTold_7 rfl rfl ?_
  refine J_cVi (st := []) (As := [.int (nI (k)), .int (nI (1))]) (pc := 8) dX3_beanTold_8 okX3_measure q3_231 q3_233 qs2_6 (rfl : vwCl[3]? = some _) a4 rfl (Nat.le_of_ble_eq_true rfl) (Nat.le_of_ble_eq_true rfl) (m_measure hM (by omega) (by omega)) ?_
  refine J_goto (tgt := 44) (pc := 11) dX3_beanTold_11 (by decide) ?_
  refine J_iret (ty := .int) (pc := 44) dX3_beanTold_44 rfl rfl ?_
  exact ⟨rfl, rfl⟩

set_option maxHeartbeats 2000000 in
set_option maxRecDepth 20000 in
theorem m_beanTold2 {g : GT} {dd : Nat} {h : MH} {σ : ST} {ρ : Nat → Nat} {th : Int32} (hP : MP h σ ρ th) {k : Nat} (hk : k < σ.1.1) : J g (dd + 1) 0 0 mX3_beanTold 0 (lv_args 0 [.ref (53), .int (nI (k)), .int (nI (2))]) [] h (RI (nI (toS σ k 2)) h) := by
  obtain ⟨a1, a2, a3, a4, ⟨mf, a5, a5b⟩, ⟨sf, a6, a6b⟩, ⟨rf, a7, a7b⟩, ⟨pf, a8, a8b⟩, ⟨lf, a9, a9b⟩, a10, a11⟩ := id hP
  obtain ⟨o1, o2, o3, o4⟩ := id a2
  have hM := MP_MS hP
  obtain ⟨hn, hc9, hm5, hs2⟩ := id a1
  have hp9 := pw_le hn

  refine J_iload_n (i := 2) (pc := 0) dX3_beanTold_0 rfl rfl ?_
  refine J_iconst (v := nI (3)) (pc := 1) dX3_beanTold_1 rfl ?_
  refine J_icmp_geN (tgt := 14) (pc := 2) dX3_beanTold_2 (by decide) (by omega) (by omega) (fun c2 => by exfalso; first | omega | simp_all) (fun c2 => ?_)
  refine J_aload_n (i := 0) (pc := 5) dX3_beanTold_5 rfl rfl ?_
  refine J_iload_n (i := 1) (pc := 6) dX3_beanTold_6 rfl rfl ?_
  refine J_iload_n (i := 2) (pc := 7) dX3_beanTold_7 rfl rfl ?_
  refine J_cVi (st := []) (As := [.int (nI (k)), .int (nI (2))]) (pc := 8) dX3_beanTold_8 okX3_measure q3_231 q3_233 qs2_6 (rfl : vwCl[3]? = some _) a4 rfl (Nat.le_of_ble_eq_true rfl) (Nat.le_of_ble_eq_true rfl) (m_measure hM (by omega) (by omega)) ?_
  refine J_goto (tgt := 44) (pc := 11) dX3_beanTold_11 (by decide) ?_
  refine J_iret (ty := .int) (pc := 44) dX3_beanTold_44 rfl rfl ?_
  exact ⟨rfl, rfl⟩

set_option maxHeartbeats 2000000 in
set_option maxRecDepth 20000 in
theorem m_beanTold3 {g : GT} {dd : Nat} {h : MH} {σ : ST} {ρ : Nat → Nat} {th : Int32} (hP : MP h σ ρ th) {k : Nat} (hk : k < σ.1.1) : J g (dd + 1) 0 0 mX3_beanTold 0 (lv_args 0 [.ref (53), .int (nI (k)), .int (nI (3))]) [] h (RI (nI (toS σ k 3)) h) := by
  obtain ⟨a1, a2, a3, a4, ⟨mf, a5, a5b⟩, ⟨sf, a6, a6b⟩, ⟨rf, a7, a7b⟩, ⟨pf, a8, a8b⟩, ⟨lf, a9, a9b⟩, a10, a11⟩ := id hP
  obtain ⟨o1, o2, o3, o4⟩ := id a2
  have hM := MP_MS hP
  obtain ⟨hn, hc9, hm5, hs2⟩ := id a1
  have hp9 := pw_le hn

  refine J_iload_n (i := 2) (pc := 0) dX3_beanTold_0 rfl rfl ?_
  refine J_iconst (v := nI (3)) (pc := 1) dX3_beanTold_1 rfl ?_
  refine J_icmp_geN (tgt := 14) (pc := 2) dX3_beanTold_2 (by decide) (by omega) (by omega) (fun c2 => ?_) (fun c2 => by exfalso; first | omega | simp_all)
  refine J_iload_n (i := 2) (pc := 14) dX3_beanTold_14 rfl rfl ?_
  refine J_iconst (v := nI (3)) (pc := 15) dX3_beanTold_15 rfl ?_
  refine J_icmp_neN (tgt := 28) (pc := 16) dX3_beanTold_16 (by decide) (by omega) (by omega) (fun c16 => by exfalso; first | omega | simp_all) (fun c16 => ?_)
  refine J_aload_n (i := 0) (pc := 19) dX3_beanTold_19 rfl rfl ?_
  refine J_getf (k := 3) (pc := 20) dX3_beanTold_20 flX3_13 a4 rfl ?_
  refine J_iload_n (i := 1) (pc := 23) dX3_beanTold_23 rfl rfl ?_
  refine J_iald (j := k) (pc := 24) dX3_beanTold_24 a6 rfl (by omega) (by omega) ?_
  rw [show sf k = nI (σ.1.2.2.2 k) from a6b k hk]
  refine J_goto (tgt := 44) (pc := 25) dX3_beanTold_25 (by decide) ?_
  refine J_iret (ty := .int) (pc := 44) dX3_beanTold_44 rfl rfl ?_
  exact ⟨rfl, rfl⟩

set_option maxHeartbeats 2000000 in
set_option maxRecDepth 20000 in
theorem m_beanTold4 {g : GT} {dd : Nat} {h : MH} {σ : ST} {ρ : Nat → Nat} {th : Int32} (hP : MP h σ ρ th) {k : Nat} (hk : k < σ.1.1) : J g (dd + 1) 0 0 mX3_beanTold 0 (lv_args 0 [.ref (53), .int (nI (k)), .int (nI (4))]) [] h (RI (nI (toS σ k 4)) h) := by
  obtain ⟨a1, a2, a3, a4, ⟨mf, a5, a5b⟩, ⟨sf, a6, a6b⟩, ⟨rf, a7, a7b⟩, ⟨pf, a8, a8b⟩, ⟨lf, a9, a9b⟩, a10, a11⟩ := id hP
  obtain ⟨o1, o2, o3, o4⟩ := id a2
  have hM := MP_MS hP
  obtain ⟨hn, hc9, hm5, hs2⟩ := id a1
  have hp9 := pw_le hn

  refine J_iload_n (i := 2) (pc := 0) dX3_beanTold_0 rfl rfl ?_
  refine J_iconst (v := nI (3)) (pc := 1) dX3_beanTold_1 rfl ?_
  refine J_icmp_geN (tgt := 14) (pc := 2) dX3_beanTold_2 (by decide) (by omega) (by omega) (fun c2 => ?_) (fun c2 => by exfalso; first | omega | simp_all)
  refine J_iload_n (i := 2) (pc := 14) dX3_beanTold_14 rfl rfl ?_
  refine J_iconst (v := nI (3)) (pc := 15) dX3_beanTold_15 rfl ?_
  refine J_icmp_neN (tgt := 28) (pc := 16) dX3_beanTold_16 (by decide) (by omega) (by omega) (fun c16 => ?_) (fun c16 => by exfalso; first | omega | simp_all)
  refine J_aload_n (i := 0) (pc := 28) dX3_beanTold_28 rfl rfl ?_
  refine J_getf (k := 4) (pc := 29) dX3_beanTold_29 flX3_47 a4 rfl ?_
  refine J_iload_n (i := 1) (pc := 32) dX3_beanTold_32 rfl rfl ?_
  refine J_cSi (st := []) (As := [.int (nI (σ.1.2.1)), .int (nI (k))]) (pc := 33) dX3_beanTold_33 okX3_has q3_184 q3_185 rfl (Nat.le_of_ble_eq_true rfl) (Nat.le_of_ble_eq_true rfl) (m_has (by omega) (by omega)) ?_
  refine J_if_eqB (tgt := 43) (pc := 36) dX3_beanTold_36 (by decide) (fun c36 => ?_) (fun c36 => ?_)
  · skip
    refine J_iconst (v := nI (0)) (pc := 43) dX3_beanTold_43 rfl ?_
    refine J_iret (ty := .int) (pc := 44) dX3_beanTold_44 rfl rfl ?_
    exact ⟨congrArg (fun z : Int32 => (Sum.inl (some (Value.int z)) : RT)) (by first | exact (congrArg nI (toS4f c36)).symm | exact (congrArg nI (toS4t c36)).symm), rfl⟩
  · skip
    refine J_iconst (v := nI (1)) (pc := 39) dX3_beanTold_39 rfl ?_
    refine J_goto (tgt := 44) (pc := 40) dX3_beanTold_40 (by decide) ?_
    refine J_iret (ty := .int) (pc := 44) dX3_beanTold_44 rfl rfl ?_
    exact ⟨congrArg (fun z : Int32 => (Sum.inl (some (Value.int z)) : RT)) (by first | exact (congrArg nI (toS4f c36)).symm | exact (congrArg nI (toS4t c36)).symm), rfl⟩

set_option maxHeartbeats 2000000 in
set_option maxRecDepth 20000 in
theorem m_treeTold0 {g : GT} {dd : Nat} {h : MH} {σ : ST} {ρ : Nat → Nat} {th : Int32} (hP : MP h σ ρ th) {j : Nat} (hj : j < σ.2.1.1) : J g (dd + 7) 0 0 mX3_treeTold 0 (lv_args 0 [.ref (53), .int (nI (j)), .int (nI (0))]) [] h (RH (abS σ j 0) (fun h' => Ext h h')) := by
  obtain ⟨a1, a2, a3, a4, ⟨mf, a5, a5b⟩, ⟨sf, a6, a6b⟩, ⟨rf, a7, a7b⟩, ⟨pf, a8, a8b⟩, ⟨lf, a9, a9b⟩, a10, a11⟩ := id hP
  obtain ⟨o1, o2, o3, o4⟩ := id a2
  have hM := MP_MS hP
  obtain ⟨hn, hc9, hm5, hs2⟩ := id a1
  have hp9 := pw_le hn
  obtain ⟨p60, plt, f, pc, prw⟩ := a10 j hj
  obtain ⟨okj, n39⟩ := o4 j hj
  refine J_aload_n (i := 0) (pc := 0) dX3_treeTold_0 rfl rfl ?_
  refine J_getf (k := 8) (pc := 1) dX3_treeTold_1 flX3_24 a4 rfl ?_
  refine J_iload_n (i := 1) (pc := 4) dX3_treeTold_4 rfl rfl ?_
  refine J_aald (j := j) (b := ρ j) (pc := 5) dX3_treeTold_5 (by decide) a7 rfl (by omega) (by omega) (a7b j hj) ?_
  refine J_astore_n (i := 3) (lv' := [(3, .ref (ρ j)), (0, .ref (53)), (1, .int (nI (j))), (2, .int (nI (0)))]) (pc := 6) dX3_treeTold_6 rfl (by decide) rfl ?_
  refine J_iload_n (i := 2) (pc := 7) dX3_treeTold_7 rfl rfl ?_
  refine J_tableIn (off := 40) (tgt := 48) (pc := 8) dX3_treeTold_8 (by decide) (by decide) (by decide +kernel) (by decide) ?_
  refine J_aload_n (i := 3) (pc := 48) dX3_treeTold_48 rfl rfl ?_
  refine J_iconst (v := nI (1)) (pc := 49) dX3_treeTold_49 rfl ?_
  refine J_cSi (st := []) (As := [.ref (ρ j), .int (nI (1))]) (pc := 50) dX3_treeTold_50 okX3_nodes q4_38 q4_39 rfl (Nat.le_of_ble_eq_true rfl) (Nat.le_of_ble_eq_true rfl) ((by have r9 := m_nodes (g := g) (dd := dd) pc 5 1 _ prw (by decide) (by decide); exact r9)) ?_
  refine J_iret (ty := .int) (pc := 53) dX3_treeTold_53 rfl rfl ?_
  exact ⟨rfl, Ext_rfl⟩

set_option maxHeartbeats 2000000 in
set_option maxRecDepth 20000 in
theorem m_treeTold1 {g : GT} {dd : Nat} {h : MH} {σ : ST} {ρ : Nat → Nat} {th : Int32} (hP : MP h σ ρ th) {j : Nat} (hj : j < σ.2.1.1) : J g (dd + 7) 0 0 mX3_treeTold 0 (lv_args 0 [.ref (53), .int (nI (j)), .int (nI (1))]) [] h (RH (abS σ j 1) (fun h' => Ext h h')) := by
  obtain ⟨a1, a2, a3, a4, ⟨mf, a5, a5b⟩, ⟨sf, a6, a6b⟩, ⟨rf, a7, a7b⟩, ⟨pf, a8, a8b⟩, ⟨lf, a9, a9b⟩, a10, a11⟩ := id hP
  obtain ⟨o1, o2, o3, o4⟩ := id a2
  have hM := MP_MS hP
  obtain ⟨hn, hc9, hm5, hs2⟩ := id a1
  have hp9 := pw_le hn
  obtain ⟨p60, plt, f, pc, prw⟩ := a10 j hj
  obtain ⟨okj, n39⟩ := o4 j hj
  refine J_aload_n (i := 0) (pc := 0) dX3_treeTold_0 rfl rfl ?_
  refine J_getf (k := 8) (pc := 1) dX3_treeTold_1 flX3_24 a4 rfl ?_
  refine J_iload_n (i := 1) (pc := 4) dX3_treeTold_4 rfl rfl ?_
  refine J_aald (j := j) (b := ρ j) (pc := 5) dX3_treeTold_5 (by decide) a7 rfl (by omega) (by omega) (a7b j hj) ?_
  refine J_astore_n (i := 3) (lv' := [(3, .ref (ρ j)), (0, .ref (53)), (1, .int (nI (j))), (2, .int (nI (1)))]) (pc := 6) dX3_treeTold_6 rfl (by decide) rfl ?_
  refine J_iload_n (i := 2) (pc := 7) dX3_treeTold_7 rfl rfl ?_
  refine J_tableIn (off := 46) (tgt := 54) (pc := 8) dX3_treeTold_8 (by decide) (by decide) (by decide +kernel) (by decide) ?_
  refine J_aload_n (i := 3) (pc := 54) dX3_treeTold_54 rfl rfl ?_
  refine J_iconst (v := nI (1)) (pc := 55) dX3_treeTold_55 rfl ?_
  refine J_cSi (st := []) (As := [.ref (ρ j), .int (nI (1))]) (pc := 56) dX3_treeTold_56 okX3_leaves q4_58 q4_59 rfl (Nat.le_of_ble_eq_true rfl) (Nat.le_of_ble_eq_true rfl) (m_leaves (dd := dd) pc 5 1 _ prw (by decide) (by decide)) ?_
  refine J_iret (ty := .int) (pc := 59) dX3_treeTold_59 rfl rfl ?_
  exact ⟨rfl, Ext_rfl⟩

set_option maxHeartbeats 2000000 in
set_option maxRecDepth 20000 in
theorem m_treeTold2 {g : GT} {dd : Nat} {h : MH} {σ : ST} {ρ : Nat → Nat} {th : Int32} (hP : MP h σ ρ th) {j : Nat} (hj : j < σ.2.1.1) : J g (dd + 7) 0 0 mX3_treeTold 0 (lv_args 0 [.ref (53), .int (nI (j)), .int (nI (2))]) [] h (RH (abS σ j 2) (fun h' => Ext h h')) := by
  obtain ⟨a1, a2, a3, a4, ⟨mf, a5, a5b⟩, ⟨sf, a6, a6b⟩, ⟨rf, a7, a7b⟩, ⟨pf, a8, a8b⟩, ⟨lf, a9, a9b⟩, a10, a11⟩ := id hP
  obtain ⟨o1, o2, o3, o4⟩ := id a2
  have hM := MP_MS hP
  obtain ⟨hn, hc9, hm5, hs2⟩ := id a1
  have hp9 := pw_le hn
  obtain ⟨p60, plt, f, pc, prw⟩ := a10 j hj
  obtain ⟨okj, n39⟩ := o4 j hj
  refine J_aload_n (i := 0) (pc := 0) dX3_treeTold_0 rfl rfl ?_
  refine J_getf (k := 8) (pc := 1) dX3_treeTold_1 flX3_24 a4 rfl ?_
  refine J_iload_n (i := 1) (pc := 4) dX3_treeTold_4 rfl rfl ?_
  refine J_aald (j := j) (b := ρ j) (pc := 5) dX3_treeTold_5 (by decide) a7 rfl (by omega) (by omega) (a7b j hj) ?_
  refine J_astore_n (i := 3) (lv' := [(3, .ref (ρ j)), (0, .ref (53)), (1, .int (nI (j))), (2, .int (nI (2)))]) (pc := 6) dX3_treeTold_6 rfl (by decide) rfl ?_
  refine J_iload_n (i := 2) (pc := 7) dX3_treeTold_7 rfl rfl ?_
  refine J_tableIn (off := 52) (tgt := 60) (pc := 8) dX3_treeTold_8 (by decide) (by decide) (by decide +kernel) (by decide) ?_
  refine J_aload_n (i := 3) (pc := 60) dX3_treeTold_60 rfl rfl ?_
  refine J_iconst (v := nI (1)) (pc := 61) dX3_treeTold_61 rfl ?_
  refine J_cSi (st := []) (As := [.ref (ρ j), .int (nI (1))]) (pc := 62) dX3_treeTold_62 okX3_deep q4_61 q4_62 rfl (Nat.le_of_ble_eq_true rfl) (Nat.le_of_ble_eq_true rfl) (m_deep (dd := dd) pc 5 1 _ prw (by decide) (by decide)) ?_
  refine J_iret (ty := .int) (pc := 65) dX3_treeTold_65 rfl rfl ?_
  exact ⟨rfl, Ext_rfl⟩

set_option maxHeartbeats 2000000 in
set_option maxRecDepth 20000 in
theorem m_treeTold3 {g : GT} {dd : Nat} {h : MH} {σ : ST} {ρ : Nat → Nat} {th : Int32} (hP : MP h σ ρ th) {j : Nat} (hj : j < σ.2.1.1) : J g (dd + 7) (cnt (gro σ.1)) (3 * cnt (gro σ.1)) mX3_treeTold 0 (lv_args 0 [.ref (53), .int (nI (j)), .int (nI (3))]) [] h (RH (abS σ j 3) (fun h' => Ext h h')) := by
  obtain ⟨a1, a2, a3, a4, ⟨mf, a5, a5b⟩, ⟨sf, a6, a6b⟩, ⟨rf, a7, a7b⟩, ⟨pf, a8, a8b⟩, ⟨lf, a9, a9b⟩, a10, a11⟩ := id hP
  obtain ⟨o1, o2, o3, o4⟩ := id a2
  have hM := MP_MS hP
  obtain ⟨hn, hc9, hm5, hs2⟩ := id a1
  have hp9 := pw_le hn
  obtain ⟨p60, plt, f, pc, prw⟩ := a10 j hj
  obtain ⟨okj, n39⟩ := o4 j hj
  refine J_aload_n (i := 0) (pc := 0) dX3_treeTold_0 rfl rfl ?_
  refine J_getf (k := 8) (pc := 1) dX3_treeTold_1 flX3_24 a4 rfl ?_
  refine J_iload_n (i := 1) (pc := 4) dX3_treeTold_4 rfl rfl ?_
  refine J_aald (j := j) (b := ρ j) (pc := 5) dX3_treeTold_5 (by decide) a7 rfl (by omega) (by omega) (a7b j hj) ?_
  refine J_astore_n (i := 3) (lv' := [(3, .ref (ρ j)), (0, .ref (53)), (1, .int (nI (j))), (2, .int (nI (3)))]) (pc := 6) dX3_treeTold_6 rfl (by decide) rfl ?_
  refine J_iload_n (i := 2) (pc := 7) dX3_treeTold_7 rfl rfl ?_
  refine J_tableIn (off := 58) (tgt := 66) (pc := 8) dX3_treeTold_8 (by decide) (by decide) (by decide +kernel) (by decide) ?_
  refine J_aload_n (i := 0) (pc := 66) dX3_treeTold_66 rfl rfl ?_
  refine J_aload_n (i := 3) (pc := 67) dX3_treeTold_67 rfl rfl ?_
  refine J_iconst (v := nI (1)) (pc := 68) dX3_treeTold_68 rfl ?_
  refine J_aload_n (i := 0) (pc := 69) dX3_treeTold_69 rfl rfl ?_
  refine J_cVi (st := [.int (nI (1)), .ref (ρ j), .ref (53)]) (As := []) (pc := 70) dX3_treeTold_70 okX3_growing q3_199 q3_201 qs1_14 (rfl : vwCl[3]? = some _) a4 rfl (Nat.le_of_ble_eq_true rfl) (Nat.le_of_ble_eq_true rfl) (m_growing hM) ?_
  refine J_cVB (st := []) (As := [.ref (ρ j), .int (nI (1)), .int (nI (gro σ.1))]) (v := some (.int (nI (rgT σ.1 5 (σ.2.2.1 j) (gro σ.1))))) (ca1 := cnt (gro σ.1)) (sa1 := 3 * cnt (gro σ.1)) (ca2 := 0) (sa2 := 0) (pc := 73) dX3_treeTold_73 okX3_right q4_23 q4_25 qs2_11 (rfl : vwCl[3]? = some _) a4 rfl (Nat.le_of_ble_eq_true rfl) (Nat.le_of_ble_eq_true rfl) (m_right (dd := dd + 4) hM (by omega) pc plt (gro_lt hM.1) prw okj (by decide) (by decide)) (by omega) (by omega) (fun h_1 q_2 => ?_)
  have zh_1 := q_2.1
  have H_3 : h_1.2 (53) = some (oB 3 [.int (th), .int (nI (σ.1.1)), .ref (54), .ref (55), .int (nI (σ.1.2.1)), .int (nI (σ.2.1.2.1)), .int (nI (σ.2.1.2.2)), .int (nI (σ.2.1.1)), .ref (56), .ref (57), .ref (58)]) := (q_2.2 _ (by omega)).trans a4
  have H_4 : h_1.2 (54) = some (aI (60) (mf)) := (q_2.2 _ (by omega)).trans a5
  have H_5 : h_1.2 (55) = some (aI (20) (sf)) := (q_2.2 _ (by omega)).trans a6
  have H_6 : h_1.2 (56) = some (aG (5) (rf)) := (q_2.2 _ (by omega)).trans a7
  have H_7 : h_1.2 (57) = some (aI (5) (pf)) := (q_2.2 _ (by omega)).trans a8
  have H_8 : h_1.2 (58) = some (aI (5) (lf)) := (q_2.2 _ (by omega)).trans a9
  have H_9 : Ext h h_1 := Ext_tr Ext_rfl q_2
  have H_10 : MS h_1 σ.1 := MS_ext q_2 (by omega) hM
  have H_11 : MP h_1 σ ρ th := MP_ext q_2 hP
  refine J_iret (ty := .int) (pc := 76) dX3_treeTold_76 rfl rfl ?_
  exact ⟨rfl, H_9⟩

set_option maxHeartbeats 2000000 in
set_option maxRecDepth 20000 in
theorem m_treeTold4 {g : GT} {dd : Nat} {h : MH} {σ : ST} {ρ : Nat → Nat} {th : Int32} (hP : MP h σ ρ th) {j : Nat} (hj : j < σ.2.1.1) : J g (dd + 7) (cnt σ.1.2.1) (3 * cnt σ.1.2.1) mX3_treeTold 0 (lv_args 0 [.ref (53), .int (nI (j)), .int (nI (4))]) [] h (RH (abS σ j 4) (fun h' => Ext h h')) := by
  obtain ⟨a1, a2, a3, a4, ⟨mf, a5, a5b⟩, ⟨sf, a6, a6b⟩, ⟨rf, a7, a7b⟩, ⟨pf, a8, a8b⟩, ⟨lf, a9, a9b⟩, a10, a11⟩ := id hP
  obtain ⟨o1, o2, o3, o4⟩ := id a2
  have hM := MP_MS hP
  obtain ⟨hn, hc9, hm5, hs2⟩ := id a1
  have hp9 := pw_le hn
  obtain ⟨p60, plt, f, pc, prw⟩ := a10 j hj
  obtain ⟨okj, n39⟩ := o4 j hj
  refine J_aload_n (i := 0) (pc := 0) dX3_treeTold_0 rfl rfl ?_
  refine J_getf (k := 8) (pc := 1) dX3_treeTold_1 flX3_24 a4 rfl ?_
  refine J_iload_n (i := 1) (pc := 4) dX3_treeTold_4 rfl rfl ?_
  refine J_aald (j := j) (b := ρ j) (pc := 5) dX3_treeTold_5 (by decide) a7 rfl (by omega) (by omega) (a7b j hj) ?_
  refine J_astore_n (i := 3) (lv' := [(3, .ref (ρ j)), (0, .ref (53)), (1, .int (nI (j))), (2, .int (nI (4)))]) (pc := 6) dX3_treeTold_6 rfl (by decide) rfl ?_
  refine J_iload_n (i := 2) (pc := 7) dX3_treeTold_7 rfl rfl ?_
  refine J_tableIn (off := 69) (tgt := 77) (pc := 8) dX3_treeTold_8 (by decide) (by decide) (by decide +kernel) (by decide) ?_
  refine J_aload_n (i := 0) (pc := 77) dX3_treeTold_77 rfl rfl ?_
  refine J_aload_n (i := 3) (pc := 78) dX3_treeTold_78 rfl rfl ?_
  refine J_iconst (v := nI (1)) (pc := 79) dX3_treeTold_79 rfl ?_
  refine J_aload_n (i := 0) (pc := 80) dX3_treeTold_80 rfl rfl ?_
  refine J_getf (k := 4) (pc := 81) dX3_treeTold_81 flX3_47 a4 rfl ?_
  refine J_cVB (st := []) (As := [.ref (ρ j), .int (nI (1)), .int (nI (σ.1.2.1))]) (v := some (.int (nI (rgT σ.1 5 (σ.2.2.1 j) (σ.1.2.1))))) (ca1 := cnt (σ.1.2.1)) (sa1 := 3 * cnt (σ.1.2.1)) (ca2 := 0) (sa2 := 0) (pc := 84) dX3_treeTold_84 okX3_right q4_23 q4_25 qs2_11 (rfl : vwCl[3]? = some _) a4 rfl (Nat.le_of_ble_eq_true rfl) (Nat.le_of_ble_eq_true rfl) (m_right (dd := dd + 4) hM (by omega) pc plt (by omega) prw okj (by decide) (by decide)) (by omega) (by omega) (fun h_1 q_2 => ?_)
  have zh_1 := q_2.1
  have H_3 : h_1.2 (53) = some (oB 3 [.int (th), .int (nI (σ.1.1)), .ref (54), .ref (55), .int (nI (σ.1.2.1)), .int (nI (σ.2.1.2.1)), .int (nI (σ.2.1.2.2)), .int (nI (σ.2.1.1)), .ref (56), .ref (57), .ref (58)]) := (q_2.2 _ (by omega)).trans a4
  have H_4 : h_1.2 (54) = some (aI (60) (mf)) := (q_2.2 _ (by omega)).trans a5
  have H_5 : h_1.2 (55) = some (aI (20) (sf)) := (q_2.2 _ (by omega)).trans a6
  have H_6 : h_1.2 (56) = some (aG (5) (rf)) := (q_2.2 _ (by omega)).trans a7
  have H_7 : h_1.2 (57) = some (aI (5) (pf)) := (q_2.2 _ (by omega)).trans a8
  have H_8 : h_1.2 (58) = some (aI (5) (lf)) := (q_2.2 _ (by omega)).trans a9
  have H_9 : Ext h h_1 := Ext_tr Ext_rfl q_2
  have H_10 : MS h_1 σ.1 := MS_ext q_2 (by omega) hM
  have H_11 : MP h_1 σ ρ th := MP_ext q_2 hP
  refine J_iret (ty := .int) (pc := 87) dX3_treeTold_87 rfl rfl ?_
  exact ⟨rfl, H_9⟩

set_option maxHeartbeats 2000000 in
set_option maxRecDepth 20000 in
theorem m_treeTold5 {g : GT} {dd : Nat} {h : MH} {σ : ST} {ρ : Nat → Nat} {th : Int32} (hP : MP h σ ρ th) {j : Nat} (hj : j < σ.2.1.1) : J g (dd + 7) 0 0 mX3_treeTold 0 (lv_args 0 [.ref (53), .int (nI (j)), .int (nI (5))]) [] h (RH (abS σ j 5) (fun h' => Ext h h')) := by
  obtain ⟨a1, a2, a3, a4, ⟨mf, a5, a5b⟩, ⟨sf, a6, a6b⟩, ⟨rf, a7, a7b⟩, ⟨pf, a8, a8b⟩, ⟨lf, a9, a9b⟩, a10, a11⟩ := id hP
  obtain ⟨o1, o2, o3, o4⟩ := id a2
  have hM := MP_MS hP
  obtain ⟨hn, hc9, hm5, hs2⟩ := id a1
  have hp9 := pw_le hn
  obtain ⟨p60, plt, f, pc, prw⟩ := a10 j hj
  obtain ⟨okj, n39⟩ := o4 j hj
  refine J_aload_n (i := 0) (pc := 0) dX3_treeTold_0 rfl rfl ?_
  refine J_getf (k := 8) (pc := 1) dX3_treeTold_1 flX3_24 a4 rfl ?_
  refine J_iload_n (i := 1) (pc := 4) dX3_treeTold_4 rfl rfl ?_
  refine J_aald (j := j) (b := ρ j) (pc := 5) dX3_treeTold_5 (by decide) a7 rfl (by omega) (by omega) (a7b j hj) ?_
  refine J_astore_n (i := 3) (lv' := [(3, .ref (ρ j)), (0, .ref (53)), (1, .int (nI (j))), (2, .int (nI (5)))]) (pc := 6) dX3_treeTold_6 rfl (by decide) rfl ?_
  refine J_iload_n (i := 2) (pc := 7) dX3_treeTold_7 rfl rfl ?_
  refine J_tableIn (off := 80) (tgt := 88) (pc := 8) dX3_treeTold_8 (by decide) (by decide) (by decide +kernel) (by decide) ?_
  refine J_aload_n (i := 0) (pc := 88) dX3_treeTold_88 rfl rfl ?_
  refine J_getf (k := 9) (pc := 89) dX3_treeTold_89 flX3_28 a4 rfl ?_
  refine J_iload_n (i := 1) (pc := 92) dX3_treeTold_92 rfl rfl ?_
  refine J_iald (j := j) (pc := 93) dX3_treeTold_93 a8 rfl (by omega) (by omega) ?_
  rw [show pf j = (σ.2.2.2.1 j) from a8b j hj]
  refine J_iret (ty := .int) (pc := 94) dX3_treeTold_94 rfl rfl ?_
  exact ⟨rfl, Ext_rfl⟩

set_option maxHeartbeats 2000000 in
set_option maxRecDepth 20000 in
theorem m_treeTold6 {g : GT} {dd : Nat} {h : MH} {σ : ST} {ρ : Nat → Nat} {th : Int32} (hP : MP h σ ρ th) {j : Nat} (hj : j < σ.2.1.1) : J g (dd + 7) 0 0 mX3_treeTold 0 (lv_args 0 [.ref (53), .int (nI (j)), .int (nI (6))]) [] h (RH (abS σ j 6) (fun h' => Ext h h')) := by
  obtain ⟨a1, a2, a3, a4, ⟨mf, a5, a5b⟩, ⟨sf, a6, a6b⟩, ⟨rf, a7, a7b⟩, ⟨pf, a8, a8b⟩, ⟨lf, a9, a9b⟩, a10, a11⟩ := id hP
  obtain ⟨o1, o2, o3, o4⟩ := id a2
  have hM := MP_MS hP
  obtain ⟨hn, hc9, hm5, hs2⟩ := id a1
  have hp9 := pw_le hn
  obtain ⟨p60, plt, f, pc, prw⟩ := a10 j hj
  obtain ⟨okj, n39⟩ := o4 j hj
  refine J_aload_n (i := 0) (pc := 0) dX3_treeTold_0 rfl rfl ?_
  refine J_getf (k := 8) (pc := 1) dX3_treeTold_1 flX3_24 a4 rfl ?_
  refine J_iload_n (i := 1) (pc := 4) dX3_treeTold_4 rfl rfl ?_
  refine J_aald (j := j) (b := ρ j) (pc := 5) dX3_treeTold_5 (by decide) a7 rfl (by omega) (by omega) (a7b j hj) ?_
  refine J_astore_n (i := 3) (lv' := [(3, .ref (ρ j)), (0, .ref (53)), (1, .int (nI (j))), (2, .int (nI (6)))]) (pc := 6) dX3_treeTold_6 rfl (by decide) rfl ?_
  refine J_iload_n (i := 2) (pc := 7) dX3_treeTold_7 rfl rfl ?_
  refine J_tableOut (tgt := 95) (pc := 8) dX3_treeTold_8 (by decide) (by decide) ?_
  refine J_aload_n (i := 0) (pc := 95) dX3_treeTold_95 rfl rfl ?_
  refine J_getf (k := 10) (pc := 96) dX3_treeTold_96 flX3_31 a4 rfl ?_
  refine J_iload_n (i := 1) (pc := 99) dX3_treeTold_99 rfl rfl ?_
  refine J_iald (j := j) (pc := 100) dX3_treeTold_100 a9 rfl (by omega) (by omega) ?_
  rw [show lf j = (σ.2.2.2.2 j) from a9b j hj]
  refine J_iret (ty := .int) (pc := 101) dX3_treeTold_101 rfl rfl ?_
  exact ⟨rfl, Ext_rfl⟩

set_option maxHeartbeats 2000000 in
set_option maxRecDepth 20000 in
theorem m_isTreeT {g : GT} {dd : Nat} {h : MH} {σ : ST} {ρ : Nat → Nat} {th : Int32} (hP : MP h σ ρ th) {k : Nat} (hk : k < σ.2.1.1) : J g (dd + 1) 0 0 mX3_isTree 0 (lv_args 0 [.ref (53), .int (nI (k))]) [] h (RI (nI 1) h) := by
  obtain ⟨a1, a2, a3, a4, ⟨mf, a5, a5b⟩, ⟨sf, a6, a6b⟩, ⟨rf, a7, a7b⟩, ⟨pf, a8, a8b⟩, ⟨lf, a9, a9b⟩, a10, a11⟩ := id hP
  obtain ⟨o1, o2, o3, o4⟩ := id a2
  have hM := MP_MS hP
  obtain ⟨hn, hc9, hm5, hs2⟩ := id a1
  have hp9 := pw_le hn

  refine J_iload_n (i := 1) (pc := 0) dX3_isTree_0 rfl rfl ?_
  refine J_iconst (v := nI (0)) (pc := 1) dX3_isTree_1 rfl ?_
  refine J_aload_n (i := 0) (pc := 2) dX3_isTree_2 rfl rfl ?_
  refine J_getf (k := 7) (pc := 3) dX3_isTree_3 flX3_37 a4 rfl ?_
  refine J_iconst (v := nI (1)) (pc := 6) dX3_isTree_6 rfl ?_
  refine J_isub (pc := 7) dX3_isTree_7 ?_
  refine J_cSi (st := []) (As := [.int (nI (k)), .int (nI (0)), .int (nI (σ.2.1.1) - nI (1))]) (pc := 8) dX3_isTree_8 okX3_isIn q3_166 q3_167 rfl (Nat.le_of_ble_eq_true rfl) (Nat.le_of_ble_eq_true rfl) (m_isInT ⟨by rw [nI_toInt (by omega), nI_toInt (by omega)]; omega, by rw [pk_sub (by omega), nI_toInt (by omega), nI_toInt (by omega)]; omega⟩) ?_
  refine J_iret (ty := .boolean) (pc := 11) dX3_isTree_11 rfl rfl ?_
  exact ⟨rfl, rfl⟩

set_option maxHeartbeats 2000000 in
set_option maxRecDepth 20000 in
theorem m_isTreeF {g : GT} {dd : Nat} {h : MH} {σ : ST} {ρ : Nat → Nat} {th : Int32} (hP : MP h σ ρ th) {x : Int32} (hx : ¬ (0 ≤ x.toInt ∧ x.toInt < (σ.2.1.1 : Int))) : J g (dd + 1) 0 0 mX3_isTree 0 (lv_args 0 [.ref (53), .int (x)]) [] h (RI (nI 0) h) := by
  obtain ⟨a1, a2, a3, a4, ⟨mf, a5, a5b⟩, ⟨sf, a6, a6b⟩, ⟨rf, a7, a7b⟩, ⟨pf, a8, a8b⟩, ⟨lf, a9, a9b⟩, a10, a11⟩ := id hP
  obtain ⟨o1, o2, o3, o4⟩ := id a2
  have hM := MP_MS hP
  obtain ⟨hn, hc9, hm5, hs2⟩ := id a1
  have hp9 := pw_le hn

  refine J_iload_n (i := 1) (pc := 0) dX3_isTree_0 rfl rfl ?_
  refine J_iconst (v := nI (0)) (pc := 1) dX3_isTree_1 rfl ?_
  refine J_aload_n (i := 0) (pc := 2) dX3_isTree_2 rfl rfl ?_
  refine J_getf (k := 7) (pc := 3) dX3_isTree_3 flX3_37 a4 rfl ?_
  refine J_iconst (v := nI (1)) (pc := 6) dX3_isTree_6 rfl ?_
  refine J_isub (pc := 7) dX3_isTree_7 ?_
  refine J_cSi (st := []) (As := [.int (x), .int (nI (0)), .int (nI (σ.2.1.1) - nI (1))]) (pc := 8) dX3_isTree_8 okX3_isIn q3_166 q3_167 rfl (Nat.le_of_ble_eq_true rfl) (Nat.le_of_ble_eq_true rfl) (m_isInF (fun q => hx ⟨by have := q.1; rw [nI_toInt (by omega)] at this; exact this, by have := q.2; rw [pk_sub_toInt (by omega) (by omega)] at this; omega⟩)) ?_
  refine J_iret (ty := .boolean) (pc := 11) dX3_isTree_11 rfl rfl ?_
  exact ⟨rfl, rfl⟩

theorem m_isMeasureT {g : GT} {dd : Nat} {h : MH} {a b c : Int32} (hx : inM a b c) : J g (dd + 1) 0 0 mX3_isMeasure 0 (lv_args 0 [.int a, .int b, .int c]) [] h (RI (nI 1) h) := by
  refine J_iload_n (i := 0) (pc := 0) dX3_isMeasure_0 rfl rfl ?_
  refine J_iconst (v := nI (0)) (pc := 1) dX3_isMeasure_1 rfl ?_
  refine J_bipush (v := nI (50)) (pc := 2) dX3_isMeasure_2 rfl ?_
  refine J_cSi (st := []) (As := [.int (a), .int (nI (0)), .int (nI (50))]) (pc := 4) dX3_isMeasure_4 okX3_isIn q3_166 q3_167 rfl (Nat.le_of_ble_eq_true rfl) (Nat.le_of_ble_eq_true rfl) (m_isInT (by rw [nI_toInt (by decide), nI_toInt (by decide)]; exact hx.1)) ?_
  refine J_if_eqN (tgt := 34) (pc := 7) dX3_isMeasure_7 (by decide) (by omega) (fun c7 => by exfalso; first | omega | simp_all) (fun c7 => ?_)
  refine J_iload_n (i := 1) (pc := 10) dX3_isMeasure_10 rfl rfl ?_
  refine J_iconst (v := nI (0)) (pc := 11) dX3_isMeasure_11 rfl ?_
  refine J_bipush (v := nI (50)) (pc := 12) dX3_isMeasure_12 rfl ?_
  refine J_cSi (st := []) (As := [.int (b), .int (nI (0)), .int (nI (50))]) (pc := 14) dX3_isMeasure_14 okX3_isIn q3_166 q3_167 rfl (Nat.le_of_ble_eq_true rfl) (Nat.le_of_ble_eq_true rfl) (m_isInT (by rw [nI_toInt (by decide), nI_toInt (by decide)]; exact hx.2.1)) ?_
  refine J_if_eqN (tgt := 34) (pc := 17) dX3_isMeasure_17 (by decide) (by omega) (fun c17 => by exfalso; first | omega | simp_all) (fun c17 => ?_)
  refine J_iload_n (i := 2) (pc := 20) dX3_isMeasure_20 rfl rfl ?_
  refine J_iconst (v := nI (0)) (pc := 21) dX3_isMeasure_21 rfl ?_
  refine J_bipush (v := nI (50)) (pc := 22) dX3_isMeasure_22 rfl ?_
  refine J_cSi (st := []) (As := [.int (c), .int (nI (0)), .int (nI (50))]) (pc := 24) dX3_isMeasure_24 okX3_isIn q3_166 q3_167 rfl (Nat.le_of_ble_eq_true rfl) (Nat.le_of_ble_eq_true rfl) (m_isInT (by rw [nI_toInt (by decide), nI_toInt (by decide)]; exact hx.2.2)) ?_
  refine J_if_eqN (tgt := 34) (pc := 27) dX3_isMeasure_27 (by decide) (by omega) (fun c27 => by exfalso; first | omega | simp_all) (fun c27 => ?_)
  refine J_iconst (v := nI (1)) (pc := 30) dX3_isMeasure_30 rfl ?_
  refine J_goto (tgt := 35) (pc := 31) dX3_isMeasure_31 (by decide) ?_
  refine J_iret (ty := .boolean) (pc := 35) dX3_isMeasure_35 rfl rfl ?_
  exact ⟨rfl, rfl⟩
theorem m_in50 {g : GT} {dd : Nat} {h : MH} {x : Int32} : J g dd 0 0 mX3_isIn 0 (lv_args 0 [.int x, .int (nI 0), .int (nI 50)]) [] h (RI (nI (@ite Nat (inZ 0 50 x) (Classical.propDecidable _) 1 0)) h) ∧ True := ⟨by
  by_cases q : inZ 0 50 x
  · rw [if_pos q]
    exact m_isInT (by rw [nI_toInt (by decide), nI_toInt (by decide)]; exact q)
  · rw [if_neg q]
    exact m_isInF (by rw [nI_toInt (by decide), nI_toInt (by decide)]; exact q), trivial⟩

theorem m_isMeasureF {g : GT} {dd : Nat} {h : MH} {a b c : Int32} (hx : ¬ inM a b c) : J g (dd + 1) 0 0 mX3_isMeasure 0 (lv_args 0 [.int a, .int b, .int c]) [] h (RI (nI 0) h) := by
  have hle : ∀ x, @ite Nat (inZ 0 50 x) (Classical.propDecidable _) 1 0 < 2 ^ 31 := fun x => by split <;> omega
  have h1 := hle a
  have h2 := hle b
  have h3 := hle c
  refine J_iload_n (i := 0) (pc := 0) dX3_isMeasure_0 rfl rfl ?_
  refine J_iconst (v := nI (0)) (pc := 1) dX3_isMeasure_1 rfl ?_
  refine J_bipush (v := nI (50)) (pc := 2) dX3_isMeasure_2 rfl ?_
  refine J_cSi (st := []) (As := [.int (a), .int (nI (0)), .int (nI (50))]) (pc := 4) dX3_isMeasure_4 okX3_isIn q3_166 q3_167 rfl (Nat.le_of_ble_eq_true rfl) (Nat.le_of_ble_eq_true rfl) (m_in50.1) ?_
  refine J_if_eqN (tgt := 34) (pc := 7) dX3_isMeasure_7 (by decide) (by omega) (fun c7 => ?_) (fun c7 => ?_)
  · skip
    refine J_iconst (v := nI (0)) (pc := 34) dX3_isMeasure_34 rfl ?_
    refine J_iret (ty := .boolean) (pc := 35) dX3_isMeasure_35 rfl rfl ?_
    exact ⟨congrArg (fun z : Int32 => (Sum.inl (some (Value.int z)) : RT)) (by first | rfl | exact absurd ⟨by by_cases q : inZ 0 50 a; exact q; exact absurd (if_neg q) c7, by by_cases q : inZ 0 50 b; exact q; exact absurd (if_neg q) c17, by by_cases q : inZ 0 50 c; exact q; exact absurd (if_neg q) c27⟩ hx), rfl⟩
  · skip
    refine J_iload_n (i := 1) (pc := 10) dX3_isMeasure_10 rfl rfl ?_
    refine J_iconst (v := nI (0)) (pc := 11) dX3_isMeasure_11 rfl ?_
    refine J_bipush (v := nI (50)) (pc := 12) dX3_isMeasure_12 rfl ?_
    refine J_cSi (st := []) (As := [.int (b), .int (nI (0)), .int (nI (50))]) (pc := 14) dX3_isMeasure_14 okX3_isIn q3_166 q3_167 rfl (Nat.le_of_ble_eq_true rfl) (Nat.le_of_ble_eq_true rfl) (m_in50.1) ?_
    refine J_if_eqN (tgt := 34) (pc := 17) dX3_isMeasure_17 (by decide) (by omega) (fun c17 => ?_) (fun c17 => ?_)
    · skip
      refine J_iconst (v := nI (0)) (pc := 34) dX3_isMeasure_34 rfl ?_
      refine J_iret (ty := .boolean) (pc := 35) dX3_isMeasure_35 rfl rfl ?_
      exact ⟨congrArg (fun z : Int32 => (Sum.inl (some (Value.int z)) : RT)) (by first | rfl | exact absurd ⟨by by_cases q : inZ 0 50 a; exact q; exact absurd (if_neg q) c7, by by_cases q : inZ 0 50 b; exact q; exact absurd (if_neg q) c17, by by_cases q : inZ 0 50 c; exact q; exact absurd (if_neg q) c27⟩ hx), rfl⟩
    · skip
      refine J_iload_n (i := 2) (pc := 20) dX3_isMeasure_20 rfl rfl ?_
      refine J_iconst (v := nI (0)) (pc := 21) dX3_isMeasure_21 rfl ?_
      refine J_bipush (v := nI (50)) (pc := 22) dX3_isMeasure_22 rfl ?_
      refine J_cSi (st := []) (As := [.int (c), .int (nI (0)), .int (nI (50))]) (pc := 24) dX3_isMeasure_24 okX3_isIn q3_166 q3_167 rfl (Nat.le_of_ble_eq_true rfl) (Nat.le_of_ble_eq_true rfl) (m_in50.1) ?_
      refine J_if_eqN (tgt := 34) (pc := 27) dX3_isMeasure_27 (by decide) (by omega) (fun c27 => ?_) (fun c27 => ?_)
      · skip
        refine J_iconst (v := nI (0)) (pc := 34) dX3_isMeasure_34 rfl ?_
        refine J_iret (ty := .boolean) (pc := 35) dX3_isMeasure_35 rfl rfl ?_
        exact ⟨congrArg (fun z : Int32 => (Sum.inl (some (Value.int z)) : RT)) (by first | rfl | exact absurd ⟨by by_cases q : inZ 0 50 a; exact q; exact absurd (if_neg q) c7, by by_cases q : inZ 0 50 b; exact q; exact absurd (if_neg q) c17, by by_cases q : inZ 0 50 c; exact q; exact absurd (if_neg q) c27⟩ hx), rfl⟩
      · skip
        refine J_iconst (v := nI (1)) (pc := 30) dX3_isMeasure_30 rfl ?_
        refine J_goto (tgt := 35) (pc := 31) dX3_isMeasure_31 (by decide) ?_
        refine J_iret (ty := .boolean) (pc := 35) dX3_isMeasure_35 rfl rfl ?_
        exact ⟨congrArg (fun z : Int32 => (Sum.inl (some (Value.int z)) : RT)) (by first | rfl | exact absurd ⟨by by_cases q : inZ 0 50 a; exact q; exact absurd (if_neg q) c7, by by_cases q : inZ 0 50 b; exact q; exact absurd (if_neg q) c17, by by_cases q : inZ 0 50 c; exact q; exact absurd (if_neg q) c27⟩ hx), rfl⟩

