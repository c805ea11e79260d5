-- the reference: its questions
/-- the cells that the reference may not touch stand -/
def FM (h h' : MH) : Prop := h.1 ≤ h'.1 ∧ ∀ i, (i < 53 ∨ i = 59) → h'.2 i = h.2 i
theorem FM_rfl {h : MH} : FM h h := ⟨Nat.le_refl _, fun _ _ => rfl⟩
theorem FM_tr {h h1 h2 : MH} (k : FM h h1) (l : FM h1 h2) : FM h h2 := ⟨Nat.le_trans k.1 l.1, fun i hi => (l.2 i hi).trans (k.2 i hi)⟩
theorem FM_ext {h h' : MH} (hz : 60 ≤ h.1) (k : Ext h h') : FM h h' := ⟨k.1, fun i hi => k.2 i (by omega)⟩
theorem FM_EA {A : Nat} {h h' : MH} (hz : 60 ≤ h.1) (hA : 60 ≤ A) (k : EA A h h') : FM h h' := ⟨k.1, fun i hi => k.2 i (by omega) (by omega)⟩
theorem FM_set {i : Nat} {h h1 : MH} {c : MC} (e : h1 = (h.1, hset h.2 i c)) (hi : 53 ≤ i) (h9 : i ≠ 59) : FM h h1 := by
  subst e
  exact ⟨Nat.le_refl _, fun j hj => hset_n (by omega)⟩
theorem MP_53 {h h' : MH} {σ : ST} {ρ : Nat → Nat} {th th' : Int32} (hp : MP h σ ρ th) (e : h' = (h.1, hset h.2 53 (oB 3 [.int th', .int (nI σ.1.1), .ref 54, .ref 55, .int (nI σ.1.2.1), .int (nI σ.2.1.2.1), .int (nI σ.2.1.2.2), .int (nI σ.2.1.1), .ref 56, .ref 57, .ref 58]))) : MP h' σ ρ th' := by
  obtain ⟨a1, a2, a3, a4, ⟨mf, a5, a5b⟩, ⟨sf, a6, a6b⟩, ⟨rf, a7, a7b⟩, ⟨pf, a8, a8b⟩, ⟨lf, a9, a9b⟩, a10, a11⟩ := hp
  have k1 : h'.1 = h.1 := by rw [e]
  refine ⟨a1, a2, by omega, hs_s e, ⟨mf, (hs_n e (by omega)).trans a5, a5b⟩, ⟨sf, (hs_n e (by omega)).trans a6, a6b⟩, ⟨rf, (hs_n e (by omega)).trans a7, a7b⟩, ⟨pf, (hs_n e (by omega)).trans a8, a8b⟩, ⟨lf, (hs_n e (by omega)).trans a9, a9b⟩, fun i hi => ?_, a11⟩
  obtain ⟨b1, b2, f, b3, b4⟩ := a10 i hi
  exact ⟨b1, by omega, f, (hs_n e (by omega)).trans b3, b4⟩
theorem MP_hi {h : MH} {σ : ST} {ρ : Nat → Nat} {th : Int32} {A : Nat} {c : MC} (hA : 60 ≤ A) (hr : ∀ i, i < σ.2.1.1 → ρ i ≠ A) (hp : MP h σ ρ th) : MP (h.1, hset h.2 A c) σ ρ th := MP_oth' hp (fun i hi => hset_n hi) rfl hA hr
def MQs (h : MH) (σ : ST) (th : Int32) : Prop := ∃ ρ, MP h σ ρ th
abbrev RMo (v : Value) (h : MH) (σ : ST) (th : Int32) : RT → MH → Prop := fun r h' => r = .inl (some v) ∧ FM h h' ∧ MQs h' σ th
theorem m_inT {g : GT} {d : Nat} {h : MH} {x : Int32} {lo hi : Nat} (h1 : lo < 1000) (h2 : hi < 1000) (hx : inZ lo hi x) : J g d 0 0 mX3_isIn 0 (lv_args 0 [.int x, .int (nI lo), .int (nI hi)]) [] h (RI (nI 1) h) := m_isInT (by rw [nI_toInt (by omega), nI_toInt (by omega)]; exact hx)
theorem m_inF {g : GT} {d : Nat} {h : MH} {x : Int32} {lo hi : Nat} (h1 : lo < 1000) (h2 : hi < 1000) (hx : ¬ inZ lo hi x) : J g d 0 0 mX3_isIn 0 (lv_args 0 [.int x, .int (nI lo), .int (nI hi)]) [] h (RI (nI 0) h) := m_isInF (by rw [nI_toInt (by omega), nI_toInt (by omega)]; exact hx)
theorem m_thrown {g : GT} {d : Nat} {h : MH} {σ : ST} {ρ : Nat → Nat} {th : Int32} (hP : MP h σ ρ th) : J g d 0 0 mX3_thrown 0 (lv_args 0 [.ref 53]) [] h (RI th h) := by
  have a4 := hP.2.2.2.1
  refine J_aload_n (i := 0) (pc := 0) dX3_thrown_0 rfl rfl ?_
  refine J_getf (k := 0) (pc := 1) dX3_thrown_1 flX3_34 a4 rfl ?_
  refine J_iret (ty := .int) (pc := 4) dX3_thrown_4 rfl rfl ?_
  exact ⟨rfl, rfl⟩

set_option maxHeartbeats 2000000 in
set_option maxRecDepth 20000 in
theorem m_no {g : GT} {dd : Nat} {h : MH} {σ : ST} {ρ : Nat → Nat} {th : Int32} (hP : MP h σ ρ th) {x : Int32} : J g dd 0 0 mX3_no 0 (lv_args 0 [.ref 53, .int x]) [] h (RH (nI 0) (fun h' => FM h h' ∧ MP h' σ ρ x)) := by
  have a4 := hP.2.2.2.1
  refine J_aload_n (i := 0) (pc := 0) dX3_no_0 rfl rfl ?_
  refine J_iload_n (i := 1) (pc := 1) dX3_no_1 rfl rfl ?_
  refine J_putf (k := 0) (pc := 2) dX3_no_2 fpX3_no_34 (fun g => ⟨rfl, rfl⟩) a4 (Nat.le_of_ble_eq_true rfl) ?_
  obtain ⟨h_1, eh_1⟩ : ∃ z : MH, z = (h.1, hset h.2 (53) (oB 3 [.int (x), .int (nI (σ.1.1)), .ref (54), .ref (55), .int (nI (σ.1.2.1)), .int (nI (σ.2.1.2.1)), .int (nI (σ.2.1.2.2)), .int (nI (σ.2.1.1)), .ref (56), .ref (57), .ref (58)])) := ⟨_, rfl⟩
  refine J_heq (h2 := h_1) eh_1 ?_
  have H_2 : h_1.2 (53) = some (oB 3 [.int (x), .int (nI (σ.1.1)), .ref (54), .ref (55), .int (nI (σ.1.2.1)), .int (nI (σ.2.1.2.1)), .int (nI (σ.2.1.2.2)), .int (nI (σ.2.1.1)), .ref (56), .ref (57), .ref (58)]) := hs_s eh_1
  refine J_iconst (v := nI (0)) (pc := 5) dX3_no_5 rfl ?_
  refine J_iret (ty := .int) (pc := 6) dX3_no_6 rfl rfl ?_
  exact ⟨rfl, FM_set eh_1 (by decide) (by decide), MP_53 hP eh_1⟩

set_option maxHeartbeats 2000000 in
set_option maxRecDepth 20000 in
theorem m_node0 {g : GT} {dd : Nat} {h : MH} {σ : ST} {ρ : Nat → Nat} {th : Int32} (hP : MP h σ ρ th) {j p : Nat} (hj : j < σ.2.1.1) (hp : p < nN 5 (σ.2.2.1 j)) : J g (dd + 13) 0 0 mX3_node 0 (lv_args 0 [.ref (53), .int (nI (j)), .int (nI (p)), .int (nI (0))]) [] h (RMo (.int (enc (ndS (σ.2.2.1 j) p 0))) h σ (nI 0)) := by
  have a40 := hP.2.2.2.1
  have hz0 := hP.2.2.1
  refine J_aload_n (i := 0) (pc := 0) dX3_node_0 rfl rfl ?_
  refine J_iconst (v := nI (0)) (pc := 1) dX3_node_1 rfl ?_
  refine J_putf (k := 0) (pc := 2) dX3_node_2 fpX3_node_34 (fun g => ⟨rfl, rfl⟩) a40 (Nat.le_of_ble_eq_true rfl) ?_
  obtain ⟨h_1, eh_1⟩ : ∃ z : MH, z = (h.1, hset h.2 (53) (oB 3 [.int (nI (0)), .int (nI (σ.1.1)), .ref (54), .ref (55), .int (nI (σ.1.2.1)), .int (nI (σ.2.1.2.1)), .int (nI (σ.2.1.2.2)), .int (nI (σ.2.1.1)), .ref (56), .ref (57), .ref (58)])) := ⟨_, rfl⟩
  refine J_heq (h2 := h_1) eh_1 ?_
  have zh_1 : h_1.1 = h.1 := by rw [eh_1]
  have H_2 : h_1.2 (53) = some (oB 3 [.int (nI (0)), .int (nI (σ.1.1)), .ref (54), .ref (55), .int (nI (σ.1.2.1)), .int (nI (σ.2.1.2.1)), .int (nI (σ.2.1.2.2)), .int (nI (σ.2.1.1)), .ref (56), .ref (57), .ref (58)]) := hs_s eh_1
  have hP1 : MP h_1 σ ρ (nI 0) := MP_53 hP eh_1
  have fm1 : FM h h_1 := FM_set eh_1 (by decide) (by decide)
  obtain ⟨a1, a2, a3, a4, ⟨mf, a5, a5b⟩, ⟨sf, a6, a6b⟩, ⟨rf, a7, a7b⟩, ⟨pf, a8, a8b⟩, ⟨lf, a9, a9b⟩, a10, a11⟩ := id hP1
  obtain ⟨o1, o2, o3, o4⟩ := id a2
  have hM := MP_MS hP1
  obtain ⟨hn, hc9, hm5, hs2⟩ := id a1
  have hp9 := pw_le hn
  obtain ⟨p60, plt, f, pc, prw⟩ := a10 j hj
  obtain ⟨okj, n39⟩ := o4 j hj
  have n1 := nN_pos 5 (σ.2.2.1 j)
  refine J_aload_n (i := 0) (pc := 5) dX3_node_5 rfl rfl ?_
  refine J_iload_n (i := 1) (pc := 6) dX3_node_6 rfl rfl ?_
  refine J_cVi (st := []) (As := [.int (nI (j))]) (pc := 7) dX3_node_7 okX3_isTree q4_8 q4_10 qs2_9 (rfl : vwCl[3]? = some _) a4 rfl (Nat.le_of_ble_eq_true rfl) (Nat.le_of_ble_eq_true rfl) (m_isTreeT hP1 hj) ?_
  refine J_if_eqN (tgt := 57) (pc := 10) dX3_node_10 (by decide) (by omega) (fun c10 => by exfalso; first | omega | simp_all) (fun c10 => ?_)
  refine J_iload_n (i := 2) (pc := 13) dX3_node_13 rfl rfl ?_
  refine J_iconst (v := nI (0)) (pc := 14) dX3_node_14 rfl ?_
  refine J_aload_n (i := 0) (pc := 15) dX3_node_15 rfl rfl ?_
  refine J_getf (k := 8) (pc := 16) dX3_node_16 flX3_24 a4 rfl ?_
  refine J_iload_n (i := 1) (pc := 19) dX3_node_19 rfl rfl ?_
  refine J_aald (j := j) (b := ρ j) (pc := 20) dX3_node_20 (by decide) a7 rfl (by omega) (by omega) (a7b j hj) ?_
  refine J_iconst (v := nI (1)) (pc := 21) dX3_node_21 rfl ?_
  refine J_cSi (st := [.int (nI (0)), .int (nI (p))]) (As := [.ref (ρ j), .int (nI (1))]) (pc := 22) dX3_node_22 okX3_nodes q4_38 q4_39 rfl (Nat.le_of_ble_eq_true rfl) (Nat.le_of_ble_eq_true rfl) ((by have r9 := m_nodes (g := g) (dd := dd + 6) pc 5 1 _ prw (by decide) (by decide); exact r9)) ?_
  refine J_iconst (v := nI (1)) (pc := 25) dX3_node_25 rfl ?_
  refine J_isubN (pc := 26) dX3_node_26 (by omega) ?_
  refine J_cSi (st := []) (As := [.int (nI (p)), .int (nI (0)), .int (nI ((nN 5 (σ.2.2.1 j)) - (1)))]) (pc := 27) dX3_node_27 okX3_isIn q3_166 q3_167 rfl (Nat.le_of_ble_eq_true rfl) (Nat.le_of_ble_eq_true rfl) (m_inT (by omega) (by omega) (inZ_nI (by omega) (by omega) (by omega))) ?_
  refine J_if_eqN (tgt := 57) (pc := 30) dX3_node_30 (by decide) (by omega) (fun c30 => by exfalso; first | omega | simp_all) (fun c30 => ?_)
  refine J_iload_n (i := 3) (pc := 33) dX3_node_33 rfl rfl ?_
  refine J_iconst (v := nI (0)) (pc := 34) dX3_node_34 rfl ?_
  refine J_bipush (v := nI (6)) (pc := 35) dX3_node_35 rfl ?_
  refine J_cSi (st := []) (As := [.int (nI (0)), .int (nI (0)), .int (nI (6))]) (pc := 37) dX3_node_37 okX3_isIn q3_166 q3_167 rfl (Nat.le_of_ble_eq_true rfl) (Nat.le_of_ble_eq_true rfl) (m_inT (by omega) (by omega) (inZ_nI (by decide) (by decide) (by decide))) ?_
  refine J_if_eqN (tgt := 57) (pc := 40) dX3_node_40 (by decide) (by omega) (fun c40 => by exfalso; first | omega | simp_all) (fun c40 => ?_)
  refine J_aload_n (i := 0) (pc := 43) dX3_node_43 rfl rfl ?_
  refine J_getf (k := 8) (pc := 44) dX3_node_44 flX3_24 a4 rfl ?_
  refine J_iload_n (i := 1) (pc := 47) dX3_node_47 rfl rfl ?_
  refine J_aald (j := j) (b := ρ j) (pc := 48) dX3_node_48 (by decide) a7 rfl (by omega) (by omega) (a7b j hj) ?_
  refine J_iload_n (i := 2) (pc := 49) dX3_node_49 rfl rfl ?_
  refine J_iload_n (i := 3) (pc := 50) dX3_node_50 rfl rfl ?_
  refine J_cSi (st := []) (As := [.ref (ρ j), .int (nI (p)), .int (nI (0))]) (pc := 51) dX3_node_51 okX3_nodeTold q4_41 q4_42 rfl (Nat.le_of_ble_eq_true rfl) (Nat.le_of_ble_eq_true rfl) (m_nodeTold0 (dd := dd) pc prw hp) ?_
  refine J_goto (tgt := 62) (pc := 54) dX3_node_54 (by decide) ?_
  refine J_iret (ty := .int) (pc := 62) dX3_node_62 rfl rfl ?_
  exact ⟨rfl, FM_tr fm1 (FM_ext (by omega) Ext_rfl), ρ, hP1⟩

set_option maxHeartbeats 2000000 in
set_option maxRecDepth 20000 in
theorem m_node1 {g : GT} {dd : Nat} {h : MH} {σ : ST} {ρ : Nat → Nat} {th : Int32} (hP : MP h σ ρ th) {j p : Nat} (hj : j < σ.2.1.1) (hp : p < nN 5 (σ.2.2.1 j)) : J g (dd + 13) 0 0 mX3_node 0 (lv_args 0 [.ref (53), .int (nI (j)), .int (nI (p)), .int (nI (1))]) [] h (RMo (.int (enc (ndS (σ.2.2.1 j) p 1))) h σ (nI 0)) := by
  have a40 := hP.2.2.2.1
  have hz0 := hP.2.2.1
  refine J_aload_n (i := 0) (pc := 0) dX3_node_0 rfl rfl ?_
  refine J_iconst (v := nI (0)) (pc := 1) dX3_node_1 rfl ?_
  refine J_putf (k := 0) (pc := 2) dX3_node_2 fpX3_node_34 (fun g => ⟨rfl, rfl⟩) a40 (Nat.le_of_ble_eq_true rfl) ?_
  obtain ⟨h_1, eh_1⟩ : ∃ z : MH, z = (h.1, hset h.2 (53) (oB 3 [.int (nI (0)), .int (nI (σ.1.1)), .ref (54), .ref (55), .int (nI (σ.1.2.1)), .int (nI (σ.2.1.2.1)), .int (nI (σ.2.1.2.2)), .int (nI (σ.2.1.1)), .ref (56), .ref (57), .ref (58)])) := ⟨_, rfl⟩
  refine J_heq (h2 := h_1) eh_1 ?_
  have zh_1 : h_1.1 = h.1 := by rw [eh_1]
  have H_2 : h_1.2 (53) = some (oB 3 [.int (nI (0)), .int (nI (σ.1.1)), .ref (54), .ref (55), .int (nI (σ.1.2.1)), .int (nI (σ.2.1.2.1)), .int (nI (σ.2.1.2.2)), .int (nI (σ.2.1.1)), .ref (56), .ref (57), .ref (58)]) := hs_s eh_1
  have hP1 : MP h_1 σ ρ (nI 0) := MP_53 hP eh_1
  have fm1 : FM h h_1 := FM_set eh_1 (by decide) (by decide)
  obtain ⟨a1, a2, a3, a4, ⟨mf, a5, a5b⟩, ⟨sf, a6, a6b⟩, ⟨rf, a7, a7b⟩, ⟨pf, a8, a8b⟩, ⟨lf, a9, a9b⟩, a10, a11⟩ := id hP1
  obtain ⟨o1, o2, o3, o4⟩ := id a2
  have hM := MP_MS hP1
  obtain ⟨hn, hc9, hm5, hs2⟩ := id a1
  have hp9 := pw_le hn
  obtain ⟨p60, plt, f, pc, prw⟩ := a10 j hj
  obtain ⟨okj, n39⟩ := o4 j hj
  have n1 := nN_pos 5 (σ.2.2.1 j)
  refine J_aload_n (i := 0) (pc := 5) dX3_node_5 rfl rfl ?_
  refine J_iload_n (i := 1) (pc := 6) dX3_node_6 rfl rfl ?_
  refine J_cVi (st := []) (As := [.int (nI (j))]) (pc := 7) dX3_node_7 okX3_isTree q4_8 q4_10 qs2_9 (rfl : vwCl[3]? = some _) a4 rfl (Nat.le_of_ble_eq_true rfl) (Nat.le_of_ble_eq_true rfl) (m_isTreeT hP1 hj) ?_
  refine J_if_eqN (tgt := 57) (pc := 10) dX3_node_10 (by decide) (by omega) (fun c10 => by exfalso; first | omega | simp_all) (fun c10 => ?_)
  refine J_iload_n (i := 2) (pc := 13) dX3_node_13 rfl rfl ?_
  refine J_iconst (v := nI (0)) (pc := 14) dX3_node_14 rfl ?_
  refine J_aload_n (i := 0) (pc := 15) dX3_node_15 rfl rfl ?_
  refine J_getf (k := 8) (pc := 16) dX3_node_16 flX3_24 a4 rfl ?_
  refine J_iload_n (i := 1) (pc := 19) dX3_node_19 rfl rfl ?_
  refine J_aald (j := j) (b := ρ j) (pc := 20) dX3_node_20 (by decide) a7 rfl (by omega) (by omega) (a7b j hj) ?_
  refine J_iconst (v := nI (1)) (pc := 21) dX3_node_21 rfl ?_
  refine J_cSi (st := [.int (nI (0)), .int (nI (p))]) (As := [.ref (ρ j), .int (nI (1))]) (pc := 22) dX3_node_22 okX3_nodes q4_38 q4_39 rfl (Nat.le_of_ble_eq_true rfl) (Nat.le_of_ble_eq_true rfl) ((by have r9 := m_nodes (g := g) (dd := dd + 6) pc 5 1 _ prw (by decide) (by decide); exact r9)) ?_
  refine J_iconst (v := nI (1)) (pc := 25) dX3_node_25 rfl ?_
  refine J_isubN (pc := 26) dX3_node_26 (by omega) ?_
  refine J_cSi (st := []) (As := [.int (nI (p)), .int (nI (0)), .int (nI ((nN 5 (σ.2.2.1 j)) - (1)))]) (pc := 27) dX3_node_27 okX3_isIn q3_166 q3_167 rfl (Nat.le_of_ble_eq_true rfl) (Nat.le_of_ble_eq_true rfl) (m_inT (by omega) (by omega) (inZ_nI (by omega) (by omega) (by omega))) ?_
  refine J_if_eqN (tgt := 57) (pc := 30) dX3_node_30 (by decide) (by omega) (fun c30 => by exfalso; first | omega | simp_all) (fun c30 => ?_)
  refine J_iload_n (i := 3) (pc := 33) dX3_node_33 rfl rfl ?_
  refine J_iconst (v := nI (0)) (pc := 34) dX3_node_34 rfl ?_
  refine J_bipush (v := nI (6)) (pc := 35) dX3_node_35 rfl ?_
  refine J_cSi (st := []) (As := [.int (nI (1)), .int (nI (0)), .int (nI (6))]) (pc := 37) dX3_node_37 okX3_isIn q3_166 q3_167 rfl (Nat.le_of_ble_eq_true rfl) (Nat.le_of_ble_eq_true rfl) (m_inT (by omega) (by omega) (inZ_nI (by decide) (by decide) (by decide))) ?_
  refine J_if_eqN (tgt := 57) (pc := 40) dX3_node_40 (by decide) (by omega) (fun c40 => by exfalso; first | omega | simp_all) (fun c40 => ?_)
  refine J_aload_n (i := 0) (pc := 43) dX3_node_43 rfl rfl ?_
  refine J_getf (k := 8) (pc := 44) dX3_node_44 flX3_24 a4 rfl ?_
  refine J_iload_n (i := 1) (pc := 47) dX3_node_47 rfl rfl ?_
  refine J_aald (j := j) (b := ρ j) (pc := 48) dX3_node_48 (by decide) a7 rfl (by omega) (by omega) (a7b j hj) ?_
  refine J_iload_n (i := 2) (pc := 49) dX3_node_49 rfl rfl ?_
  refine J_iload_n (i := 3) (pc := 50) dX3_node_50 rfl rfl ?_
  refine J_cSi (st := []) (As := [.ref (ρ j), .int (nI (p)), .int (nI (1))]) (pc := 51) dX3_node_51 okX3_nodeTold q4_41 q4_42 rfl (Nat.le_of_ble_eq_true rfl) (Nat.le_of_ble_eq_true rfl) (m_nodeTold1 (dd := dd) pc prw hp) ?_
  refine J_goto (tgt := 62) (pc := 54) dX3_node_54 (by decide) ?_
  refine J_iret (ty := .int) (pc := 62) dX3_node_62 rfl rfl ?_
  exact ⟨rfl, FM_tr fm1 (FM_ext (by omega) Ext_rfl), ρ, hP1⟩

set_option maxHeartbeats 2000000 in
set_option maxRecDepth 20000 in
theorem m_node2 {g : GT} {dd : Nat} {h : MH} {σ : ST} {ρ : Nat → Nat} {th : Int32} (hP : MP h σ ρ th) {j p : Nat} (hj : j < σ.2.1.1) (hp : p < nN 5 (σ.2.2.1 j)) : J g (dd + 13) 0 0 mX3_node 0 (lv_args 0 [.ref (53), .int (nI (j)), .int (nI (p)), .int (nI (2))]) [] h (RMo (.int (enc (ndS (σ.2.2.1 j) p 2))) h σ (nI 0)) := by
  have a40 := hP.2.2.2.1
  have hz0 := hP.2.2.1
  refine J_aload_n (i := 0) (pc := 0) dX3_node_0 rfl rfl ?_
  refine J_iconst (v := nI (0)) (pc := 1) dX3_node_1 rfl ?_
  refine J_putf (k := 0) (pc := 2) dX3_node_2 fpX3_node_34 (fun g => ⟨rfl, rfl⟩) a40 (Nat.le_of_ble_eq_true rfl) ?_
  obtain ⟨h_1, eh_1⟩ : ∃ z : MH, z = (h.1, hset h.2 (53) (oB 3 [.int (nI (0)), .int (nI (σ.1.1)), .ref (54), .ref (55), .int (nI (σ.1.2.1)), .int (nI (σ.2.1.2.1)), .int (nI (σ.2.1.2.2)), .int (nI (σ.2.1.1)), .ref (56), .ref (57), .ref (58)])) := ⟨_, rfl⟩
  refine J_heq (h2 := h_1) eh_1 ?_
  have zh_1 : h_1.1 = h.1 := by rw [eh_1]
  have H_2 : h_1.2 (53) = some (oB 3 [.int (nI (0)), .int (nI (σ.1.1)), .ref (54), .ref (55), .int (nI (σ.1.2.1)), .int (nI (σ.2.1.2.1)), .int (nI (σ.2.1.2.2)), .int (nI (σ.2.1.1)), .ref (56), .ref (57), .ref (58)]) := hs_s eh_1
  have hP1 : MP h_1 σ ρ (nI 0) := MP_53 hP eh_1
  have fm1 : FM h h_1 := FM_set eh_1 (by decide) (by decide)
  obtain ⟨a1, a2, a3, a4, ⟨mf, a5, a5b⟩, ⟨sf, a6, a6b⟩, ⟨rf, a7, a7b⟩, ⟨pf, a8, a8b⟩, ⟨lf, a9, a9b⟩, a10, a11⟩ := id hP1
  obtain ⟨o1, o2, o3, o4⟩ := id a2
  have hM := MP_MS hP1
  obtain ⟨hn, hc9, hm5, hs2⟩ := id a1
  have hp9 := pw_le hn
  obtain ⟨p60, plt, f, pc, prw⟩ := a10 j hj
  obtain ⟨okj, n39⟩ := o4 j hj
  have n1 := nN_pos 5 (σ.2.2.1 j)
  refine J_aload_n (i := 0) (pc := 5) dX3_node_5 rfl rfl ?_
  refine J_iload_n (i := 1) (pc := 6) dX3_node_6 rfl rfl ?_
  refine J_cVi (st := []) (As := [.int (nI (j))]) (pc := 7) dX3_node_7 okX3_isTree q4_8 q4_10 qs2_9 (rfl : vwCl[3]? = some _) a4 rfl (Nat.le_of_ble_eq_true rfl) (Nat.le_of_ble_eq_true rfl) (m_isTreeT hP1 hj) ?_
  refine J_if_eqN (tgt := 57) (pc := 10) dX3_node_10 (by decide) (by omega) (fun c10 => by exfalso; first | omega | simp_all) (fun c10 => ?_)
  refine J_iload_n (i := 2) (pc := 13) dX3_node_13 rfl rfl ?_
  refine J_iconst (v := nI (0)) (pc := 14) dX3_node_14 rfl ?_
  refine J_aload_n (i := 0) (pc := 15) dX3_node_15 rfl rfl ?_
  refine J_getf (k := 8) (pc := 16) dX3_node_16 flX3_24 a4 rfl ?_
  refine J_iload_n (i := 1) (pc := 19) dX3_node_19 rfl rfl ?_
  refine J_aald (j := j) (b := ρ j) (pc := 20) dX3_node_20 (by decide) a7 rfl (by omega) (by omega) (a7b j hj) ?_
  refine J_iconst (v := nI (1)) (pc := 21) dX3_node_21 rfl ?_
  refine J_cSi (st := [.int (nI (0)), .int (nI (p))]) (As := [.ref (ρ j), .int (nI (1))]) (pc := 22) dX3_node_22 okX3_nodes q4_38 q4_39 rfl (Nat.le_of_ble_eq_true rfl) (Nat.le_of_ble_eq_true rfl) ((by have r9 := m_nodes (g := g) (dd := dd + 6) pc 5 1 _ prw (by decide) (by decide); exact r9)) ?_
  refine J_iconst (v := nI (1)) (pc := 25) dX3_node_25 rfl ?_
  refine J_isubN (pc := 26) dX3_node_26 (by omega) ?_
  refine J_cSi (st := []) (As := [.int (nI (p)), .int (nI (0)), .int (nI ((nN 5 (σ.2.2.1 j)) - (1)))]) (pc := 27) dX3_node_27 okX3_isIn q3_166 q3_167 rfl (Nat.le_of_ble_eq_true rfl) (Nat.le_of_ble_eq_true rfl) (m_inT (by omega) (by omega) (inZ_nI (by omega) (by omega) (by omega))) ?_
  refine J_if_eqN (tgt := 57) (pc := 30) dX3_node_30 (by decide) (by omega) (fun c30 => by exfalso; first | omega | simp_all) (fun c30 => ?_)
  refine J_iload_n (i := 3) (pc := 33) dX3_node_33 rfl rfl ?_
  refine J_iconst (v := nI (0)) (pc := 34) dX3_node_34 rfl ?_
  refine J_bipush (v := nI (6)) (pc := 35) dX3_node_35 rfl ?_
  refine J_cSi (st := []) (As := [.int (nI (2)), .int (nI (0)), .int (nI (6))]) (pc := 37) dX3_node_37 okX3_isIn q3_166 q3_167 rfl (Nat.le_of_ble_eq_true rfl) (Nat.le_of_ble_eq_true rfl) (m_inT (by omega) (by omega) (inZ_nI (by decide) (by decide) (by decide))) ?_
  refine J_if_eqN (tgt := 57) (pc := 40) dX3_node_40 (by decide) (by omega) (fun c40 => by exfalso; first | omega | simp_all) (fun c40 => ?_)
  refine J_aload_n (i := 0) (pc := 43) dX3_node_43 rfl rfl ?_
  refine J_getf (k := 8) (pc := 44) dX3_node_44 flX3_24 a4 rfl ?_
  refine J_iload_n (i := 1) (pc := 47) dX3_node_47 rfl rfl ?_
  refine J_aald (j := j) (b := ρ j) (pc := 48) dX3_node_48 (by decide) a7 rfl (by omega) (by omega) (a7b j hj) ?_
  refine J_iload_n (i := 2) (pc := 49) dX3_node_49 rfl rfl ?_
  refine J_iload_n (i := 3) (pc := 50) dX3_node_50 rfl rfl ?_
  refine J_cSi (st := []) (As := [.ref (ρ j), .int (nI (p)), .int (nI (2))]) (pc := 51) dX3_node_51 okX3_nodeTold q4_41 q4_42 rfl (Nat.le_of_ble_eq_true rfl) (Nat.le_of_ble_eq_true rfl) (m_nodeTold2 (dd := dd) pc prw hp) ?_
  refine J_goto (tgt := 62) (pc := 54) dX3_node_54 (by decide) ?_
  refine J_iret (ty := .int) (pc := 62) dX3_node_62 rfl rfl ?_
  exact ⟨rfl, FM_tr fm1 (FM_ext (by omega) Ext_rfl), ρ, hP1⟩

set_option maxHeartbeats 2000000 in
set_option maxRecDepth 20000 in
theorem m_node3 {g : GT} {dd : Nat} {h : MH} {σ : ST} {ρ : Nat → Nat} {th : Int32} (hP : MP h σ ρ th) {j p : Nat} (hj : j < σ.2.1.1) (hp : p < nN 5 (σ.2.2.1 j)) : J g (dd + 13) 0 0 mX3_node 0 (lv_args 0 [.ref (53), .int (nI (j)), .int (nI (p)), .int (nI (3))]) [] h (RMo (.int (enc (ndS (σ.2.2.1 j) p 3))) h σ (nI 0)) := by
  have a40 := hP.2.2.2.1
  have hz0 := hP.2.2.1
  refine J_aload_n (i := 0) (pc := 0) dX3_node_0 rfl rfl ?_
  refine J_iconst (v := nI (0)) (pc := 1) dX3_node_1 rfl ?_
  refine J_putf (k := 0) (pc := 2) dX3_node_2 fpX3_node_34 (fun g => ⟨rfl, rfl⟩) a40 (Nat.le_of_ble_eq_true rfl) ?_
  obtain ⟨h_1, eh_1⟩ : ∃ z : MH, z = (h.1, hset h.2 (53) (oB 3 [.int (nI (0)), .int (nI (σ.1.1)), .ref (54), .ref (55), .int (nI (σ.1.2.1)), .int (nI (σ.2.1.2.1)), .int (nI (σ.2.1.2.2)), .int (nI (σ.2.1.1)), .ref (56), .ref (57), .ref (58)])) := ⟨_, rfl⟩
  refine J_heq (h2 := h_1) eh_1 ?_
  have zh_1 : h_1.1 = h.1 := by rw [eh_1]
  have H_2 : h_1.2 (53) = some (oB 3 [.int (nI (0)), .int (nI (σ.1.1)), .ref (54), .ref (55), .int (nI (σ.1.2.1)), .int (nI (σ.2.1.2.1)), .int (nI (σ.2.1.2.2)), .int (nI (σ.2.1.1)), .ref (56), .ref (57), .ref (58)]) := hs_s eh_1
  have hP1 : MP h_1 σ ρ (nI 0) := MP_53 hP eh_1
  have fm1 : FM h h_1 := FM_set eh_1 (by decide) (by decide)
  obtain ⟨a1, a2, a3, a4, ⟨mf, a5, a5b⟩, ⟨sf, a6, a6b⟩, ⟨rf, a7, a7b⟩, ⟨pf, a8, a8b⟩, ⟨lf, a9, a9b⟩, a10, a11⟩ := id hP1
  obtain ⟨o1, o2, o3, o4⟩ := id a2
  have hM := MP_MS hP1
  obtain ⟨hn, hc9, hm5, hs2⟩ := id a1
  have hp9 := pw_le hn
  obtain ⟨p60, plt, f, pc, prw⟩ := a10 j hj
  obtain ⟨okj, n39⟩ := o4 j hj
  have n1 := nN_pos 5 (σ.2.2.1 j)
  refine J_aload_n (i := 0) (pc := 5) dX3_node_5 rfl rfl ?_
  refine J_iload_n (i := 1) (pc := 6) dX3_node_6 rfl rfl ?_
  refine J_cVi (st := []) (As := [.int (nI (j))]) (pc := 7) dX3_node_7 okX3_isTree q4_8 q4_10 qs2_9 (rfl : vwCl[3]? = some _) a4 rfl (Nat.le_of_ble_eq_true rfl) (Nat.le_of_ble_eq_true rfl) (m_isTreeT hP1 hj) ?_
  refine J_if_eqN (tgt := 57) (pc := 10) dX3_node_10 (by decide) (by omega) (fun c10 => by exfalso; first | omega | simp_all) (fun c10 => ?_)
  refine J_iload_n (i := 2) (pc := 13) dX3_node_13 rfl rfl ?_
  refine J_iconst (v := nI (0)) (pc := 14) dX3_node_14 rfl ?_
  refine J_aload_n (i := 0) (pc := 15) dX3_node_15 rfl rfl ?_
  refine J_getf (k := 8) (pc := 16) dX3_node_16 flX3_24 a4 rfl ?_
  refine J_iload_n (i := 1) (pc := 19) dX3_node_19 rfl rfl ?_
  refine J_aald (j := j) (b := ρ j) (pc := 20) dX3_node_20 (by decide) a7 rfl (by omega) (by omega) (a7b j hj) ?_
  refine J_iconst (v := nI (1)) (pc := 21) dX3_node_21 rfl ?_
  refine J_cSi (st := [.int (nI (0)), .int (nI (p))]) (As := [.ref (ρ j), .int (nI (1))]) (pc := 22) dX3_node_22 okX3_nodes q4_38 q4_39 rfl (Nat.le_of_ble_eq_true rfl) (Nat.le_of_ble_eq_true rfl) ((by have r9 := m_nodes (g := g) (dd := dd + 6) pc 5 1 _ prw (by decide) (by decide); exact r9)) ?_
  refine J_iconst (v := nI (1)) (pc := 25) dX3_node_25 rfl ?_
  refine J_isubN (pc := 26) dX3_node_26 (by omega) ?_
  refine J_cSi (st := []) (As := [.int (nI (p)), .int (nI (0)), .int (nI ((nN 5 (σ.2.2.1 j)) - (1)))]) (pc := 27) dX3_node_27 okX3_isIn q3_166 q3_167 rfl (Nat.le_of_ble_eq_true rfl) (Nat.le_of_ble_eq_true rfl) (m_inT (by omega) (by omega) (inZ_nI (by omega) (by omega) (by omega))) ?_
  refine J_if_eqN (tgt := 57) (pc := 30) dX3_node_30 (by decide) (by omega) (fun c30 => by exfalso; first | omega | simp_all) (fun c30 => ?_)
  refine J_iload_n (i := 3) (pc := 33) dX3_node_33 rfl rfl ?_
  refine J_iconst (v := nI (0)) (pc := 34) dX3_node_34 rfl ?_
  refine J_bipush (v := nI (6)) (pc := 35) dX3_node_35 rfl ?_
  refine J_cSi (st := []) (As := [.int (nI (3)), .int (nI (0)), .int (nI (6))]) (pc := 37) dX3_node_37 okX3_isIn q3_166 q3_167 rfl (Nat.le_of_ble_eq_true rfl) (Nat.le_of_ble_eq_true rfl) (m_inT (by omega) (by omega) (inZ_nI (by decide) (by decide) (by decide))) ?_
  refine J_if_eqN (tgt := 57) (pc := 40) dX3_node_40 (by decide) (by omega) (fun c40 => by exfalso; first | omega | simp_all) (fun c40 => ?_)
  refine J_aload_n (i := 0) (pc := 43) dX3_node_43 rfl rfl ?_
  refine J_getf (k := 8) (pc := 44) dX3_node_44 flX3_24 a4 rfl ?_
  refine J_iload_n (i := 1) (pc := 47) dX3_node_47 rfl rfl ?_
  refine J_aald (j := j) (b := ρ j) (pc := 48) dX3_node_48 (by decide) a7 rfl (by omega) (by omega) (a7b j hj) ?_
  refine J_iload_n (i := 2) (pc := 49) dX3_node_49 rfl rfl ?_
  refine J_iload_n (i := 3) (pc := 50) dX3_node_50 rfl rfl ?_
  refine J_cSi (st := []) (As := [.ref (ρ j), .int (nI (p)), .int (nI (3))]) (pc := 51) dX3_node_51 okX3_nodeTold q4_41 q4_42 rfl (Nat.le_of_ble_eq_true rfl) (Nat.le_of_ble_eq_true rfl) (m_nodeTold3 (dd := dd) pc prw hp) ?_
  refine J_goto (tgt := 62) (pc := 54) dX3_node_54 (by decide) ?_
  refine J_iret (ty := .int) (pc := 62) dX3_node_62 rfl rfl ?_
  exact ⟨rfl, FM_tr fm1 (FM_ext (by omega) Ext_rfl), ρ, hP1⟩

set_option maxHeartbeats 2000000 in
set_option maxRecDepth 20000 in
theorem m_node4 {g : GT} {dd : Nat} {h : MH} {σ : ST} {ρ : Nat → Nat} {th : Int32} (hP : MP h σ ρ th) {j p : Nat} (hj : j < σ.2.1.1) (hp : p < nN 5 (σ.2.2.1 j)) : J g (dd + 13) 0 0 mX3_node 0 (lv_args 0 [.ref (53), .int (nI (j)), .int (nI (p)), .int (nI (4))]) [] h (RMo (.int (enc (ndS (σ.2.2.1 j) p 4))) h σ (nI 0)) := by
  have a40 := hP.2.2.2.1
  have hz0 := hP.2.2.1
  refine J_aload_n (i := 0) (pc := 0) dX3_node_0 rfl rfl ?_
  refine J_iconst (v := nI (0)) (pc := 1) dX3_node_1 rfl ?_
  refine J_putf (k := 0) (pc := 2) dX3_node_2 fpX3_node_34 (fun g => ⟨rfl, rfl⟩) a40 (Nat.le_of_ble_eq_true rfl) ?_
  obtain ⟨h_1, eh_1⟩ : ∃ z : MH, z = (h.1, hset h.2 (53) (oB 3 [.int (nI (0)), .int (nI (σ.1.1)), .ref (54), .ref (55), .int (nI (σ.1.2.1)), .int (nI (σ.2.1.2.1)), .int (nI (σ.2.1.2.2)), .int (nI (σ.2.1.1)), .ref (56), .ref (57), .ref (58)])) := ⟨_, rfl⟩
  refine J_heq (h2 := h_1) eh_1 ?_
  have zh_1 : h_1.1 = h.1 := by rw [eh_1]
  have H_2 : h_1.2 (53) = some (oB 3 [.int (nI (0)), .int (nI (σ.1.1)), .ref (54), .ref (55), .int (nI (σ.1.2.1)), .int (nI (σ.2.1.2.1)), .int (nI (σ.2.1.2.2)), .int (nI (σ.2.1.1)), .ref (56), .ref (57), .ref (58)]) := hs_s eh_1
  have hP1 : MP h_1 σ ρ (nI 0) := MP_53 hP eh_1
  have fm1 : FM h h_1 := FM_set eh_1 (by decide) (by decide)
  obtain ⟨a1, a2, a3, a4, ⟨mf, a5, a5b⟩, ⟨sf, a6, a6b⟩, ⟨rf, a7, a7b⟩, ⟨pf, a8, a8b⟩, ⟨lf, a9, a9b⟩, a10, a11⟩ := id hP1
  obtain ⟨o1, o2, o3, o4⟩ := id a2
  have hM := MP_MS hP1
  obtain ⟨hn, hc9, hm5, hs2⟩ := id a1
  have hp9 := pw_le hn
  obtain ⟨p60, plt, f, pc, prw⟩ := a10 j hj
  obtain ⟨okj, n39⟩ := o4 j hj
  have n1 := nN_pos 5 (σ.2.2.1 j)
  refine J_aload_n (i := 0) (pc := 5) dX3_node_5 rfl rfl ?_
  refine J_iload_n (i := 1) (pc := 6) dX3_node_6 rfl rfl ?_
  refine J_cVi (st := []) (As := [.int (nI (j))]) (pc := 7) dX3_node_7 okX3_isTree q4_8 q4_10 qs2_9 (rfl : vwCl[3]? = some _) a4 rfl (Nat.le_of_ble_eq_true rfl) (Nat.le_of_ble_eq_true rfl) (m_isTreeT hP1 hj) ?_
  refine J_if_eqN (tgt := 57) (pc := 10) dX3_node_10 (by decide) (by omega) (fun c10 => by exfalso; first | omega | simp_all) (fun c10 => ?_)
  refine J_iload_n (i := 2) (pc := 13) dX3_node_13 rfl rfl ?_
  refine J_iconst (v := nI (0)) (pc := 14) dX3_node_14 rfl ?_
  refine J_aload_n (i := 0) (pc := 15) dX3_node_15 rfl rfl ?_
  refine J_getf (k := 8) (pc := 16) dX3_node_16 flX3_24 a4 rfl ?_
  refine J_iload_n (i := 1) (pc := 19) dX3_node_19 rfl rfl ?_
  refine J_aald (j := j) (b := ρ j) (pc := 20) dX3_node_20 (by decide) a7 rfl (by omega) (by omega) (a7b j hj) ?_
  refine J_iconst (v := nI (1)) (pc := 21) dX3_node_21 rfl ?_
  refine J_cSi (st := [.int (nI (0)), .int (nI (p))]) (As := [.ref (ρ j), .int (nI (1))]) (pc := 22) dX3_node_22 okX3_nodes q4_38 q4_39 rfl (Nat.le_of_ble_eq_true rfl) (Nat.le_of_ble_eq_true rfl) ((by have r9 := m_nodes (g := g) (dd := dd + 6) pc 5 1 _ prw (by decide) (by decide); exact r9)) ?_
  refine J_iconst (v := nI (1)) (pc := 25) dX3_node_25 rfl ?_
  refine J_isubN (pc := 26) dX3_node_26 (by omega) ?_
  refine J_cSi (st := []) (As := [.int (nI (p)), .int (nI (0)), .int (nI ((nN 5 (σ.2.2.1 j)) - (1)))]) (pc := 27) dX3_node_27 okX3_isIn q3_166 q3_167 rfl (Nat.le_of_ble_eq_true rfl) (Nat.le_of_ble_eq_true rfl) (m_inT (by omega) (by omega) (inZ_nI (by omega) (by omega) (by omega))) ?_
  refine J_if_eqN (tgt := 57) (pc := 30) dX3_node_30 (by decide) (by omega) (fun c30 => by exfalso; first | omega | simp_all) (fun c30 => ?_)
  refine J_iload_n (i := 3) (pc := 33) dX3_node_33 rfl rfl ?_
  refine J_iconst (v := nI (0)) (pc := 34) dX3_node_34 rfl ?_
  refine J_bipush (v := nI (6)) (pc := 35) dX3_node_35 rfl ?_
  refine J_cSi (st := []) (As := [.int (nI (4)), .int (nI (0)), .int (nI (6))]) (pc := 37) dX3_node_37 okX3_isIn q3_166 q3_167 rfl (Nat.le_of_ble_eq_true rfl) (Nat.le_of_ble_eq_true rfl) (m_inT (by omega) (by omega) (inZ_nI (by decide) (by decide) (by decide))) ?_
  refine J_if_eqN (tgt := 57) (pc := 40) dX3_node_40 (by decide) (by omega) (fun c40 => by exfalso; first | omega | simp_all) (fun c40 => ?_)
  refine J_aload_n (i := 0) (pc := 43) dX3_node_43 rfl rfl ?_
  refine J_getf (k := 8) (pc := 44) dX3_node_44 flX3_24 a4 rfl ?_
  refine J_iload_n (i := 1) (pc := 47) dX3_node_47 rfl rfl ?_
  refine J_aald (j := j) (b := ρ j) (pc := 48) dX3_node_48 (by decide) a7 rfl (by omega) (by omega) (a7b j hj) ?_
  refine J_iload_n (i := 2) (pc := 49) dX3_node_49 rfl rfl ?_
  refine J_iload_n (i := 3) (pc := 50) dX3_node_50 rfl rfl ?_
  refine J_cSi (st := []) (As := [.ref (ρ j), .int (nI (p)), .int (nI (4))]) (pc := 51) dX3_node_51 okX3_nodeTold q4_41 q4_42 rfl (Nat.le_of_ble_eq_true rfl) (Nat.le_of_ble_eq_true rfl) (m_nodeTold4 (dd := dd) pc prw hp) ?_
  refine J_goto (tgt := 62) (pc := 54) dX3_node_54 (by decide) ?_
  refine J_iret (ty := .int) (pc := 62) dX3_node_62 rfl rfl ?_
  exact ⟨rfl, FM_tr fm1 (FM_ext (by omega) Ext_rfl), ρ, hP1⟩

set_option maxHeartbeats 2000000 in
set_option maxRecDepth 20000 in
theorem m_node5 {g : GT} {dd : Nat} {h : MH} {σ : ST} {ρ : Nat → Nat} {th : Int32} (hP : MP h σ ρ th) {j p : Nat} (hj : j < σ.2.1.1) (hp : p < nN 5 (σ.2.2.1 j)) : J g (dd + 13) 0 0 mX3_node 0 (lv_args 0 [.ref (53), .int (nI (j)), .int (nI (p)), .int (nI (5))]) [] h (RMo (.int (enc (ndS (σ.2.2.1 j) p 5))) h σ (nI 0)) := by
  have a40 := hP.2.2.2.1
  have hz0 := hP.2.2.1
  refine J_aload_n (i := 0) (pc := 0) dX3_node_0 rfl rfl ?_
  refine J_iconst (v := nI (0)) (pc := 1) dX3_node_1 rfl ?_
  refine J_putf (k := 0) (pc := 2) dX3_node_2 fpX3_node_34 (fun g => ⟨rfl, rfl⟩) a40 (Nat.le_of_ble_eq_true rfl) ?_
  obtain ⟨h_1, eh_1⟩ : ∃ z : MH, z = (h.1, hset h.2 (53) (oB 3 [.int (nI (0)), .int (nI (σ.1.1)), .ref (54), .ref (55), .int (nI (σ.1.2.1)), .int (nI (σ.2.1.2.1)), .int (nI (σ.2.1.2.2)), .int (nI (σ.2.1.1)), .ref (56), .ref (57), .ref (58)])) := ⟨_, rfl⟩
  refine J_heq (h2 := h_1) eh_1 ?_
  have zh_1 : h_1.1 = h.1 := by rw [eh_1]
  have H_2 : h_1.2 (53) = some (oB 3 [.int (nI (0)), .int (nI (σ.1.1)), .ref (54), .ref (55), .int (nI (σ.1.2.1)), .int (nI (σ.2.1.2.1)), .int (nI (σ.2.1.2.2)), .int (nI (σ.2.1.1)), .ref (56), .ref (57), .ref (58)]) := hs_s eh_1
  have hP1 : MP h_1 σ ρ (nI 0) := MP_53 hP eh_1
  have fm1 : FM h h_1 := FM_set eh_1 (by decide) (by decide)
  obtain ⟨a1, a2, a3, a4, ⟨mf, a5, a5b⟩, ⟨sf, a6, a6b⟩, ⟨rf, a7, a7b⟩, ⟨pf, a8, a8b⟩, ⟨lf, a9, a9b⟩, a10, a11⟩ := id hP1
  obtain ⟨o1, o2, o3, o4⟩ := id a2
  have hM := MP_MS hP1
  obtain ⟨hn, hc9, hm5, hs2⟩ := id a1
  have hp9 := pw_le hn
  obtain ⟨p60, plt, f, pc, prw⟩ := a10 j hj
  obtain ⟨okj, n39⟩ := o4 j hj
  have n1 := nN_pos 5 (σ.2.2.1 j)
  refine J_aload_n (i := 0) (pc := 5) dX3_node_5 rfl rfl ?_
  refine J_iload_n (i := 1) (pc := 6) dX3_node_6 rfl rfl ?_
  refine J_cVi (st := []) (As := [.int (nI (j))]) (pc := 7) dX3_node_7 okX3_isTree q4_8 q4_10 qs2_9 (rfl : vwCl[3]? = some _) a4 rfl (Nat.le_of_ble_eq_true rfl) (Nat.le_of_ble_eq_true rfl) (m_isTreeT hP1 hj) ?_
  refine J_if_eqN (tgt := 57) (pc := 10) dX3_node_10 (by decide) (by omega) (fun c10 => by exfalso; first | omega | simp_all) (fun c10 => ?_)
  refine J_iload_n (i := 2) (pc := 13) dX3_node_13 rfl rfl ?_
  refine J_iconst (v := nI (0)) (pc := 14) dX3_node_14 rfl ?_
  refine J_aload_n (i := 0) (pc := 15) dX3_node_15 rfl rfl ?_
  refine J_getf (k := 8) (pc := 16) dX3_node_16 flX3_24 a4 rfl ?_
  refine J_iload_n (i := 1) (pc := 19) dX3_node_19 rfl rfl ?_
  refine J_aald (j := j) (b := ρ j) (pc := 20) dX3_node_20 (by decide) a7 rfl (by omega) (by omega) (a7b j hj) ?_
  refine J_iconst (v := nI (1)) (pc := 21) dX3_node_21 rfl ?_
  refine J_cSi (st := [.int (nI (0)), .int (nI (p))]) (As := [.ref (ρ j), .int (nI (1))]) (pc := 22) dX3_node_22 okX3_nodes q4_38 q4_39 rfl (Nat.le_of_ble_eq_true rfl) (Nat.le_of_ble_eq_true rfl) ((by have r9 := m_nodes (g := g) (dd := dd + 6) pc 5 1 _ prw (by decide) (by decide); exact r9)) ?_
  refine J_iconst (v := nI (1)) (pc := 25) dX3_node_25 rfl ?_
  refine J_isubN (pc := 26) dX3_node_26 (by omega) ?_
  refine J_cSi (st := []) (As := [.int (nI (p)), .int (nI (0)), .int (nI ((nN 5 (σ.2.2.1 j)) - (1)))]) (pc := 27) dX3_node_27 okX3_isIn q3_166 q3_167 rfl (Nat.le_of_ble_eq_true rfl) (Nat.le_of_ble_eq_true rfl) (m_inT (by omega) (by omega) (inZ_nI (by omega) (by omega) (by omega))) ?_
  refine J_if_eqN (tgt := 57) (pc := 30) dX3_node_30 (by decide) (by omega) (fun c30 => by exfalso; first | omega | simp_all) (fun c30 => ?_)
  refine J_iload_n (i := 3) (pc := 33) dX3_node_33 rfl rfl ?_
  refine J_iconst (v := nI (0)) (pc := 34) dX3_node_34 rfl ?_
  refine J_bipush (v := nI (6)) (pc := 35) dX3_node_35 rfl ?_
  refine J_cSi (st := []) (As := [.int (nI (5)), .int (nI (0)), .int (nI (6))]) (pc := 37) dX3_node_37 okX3_isIn q3_166 q3_167 rfl (Nat.le_of_ble_eq_true rfl) (Nat.le_of_ble_eq_true rfl) (m_inT (by omega) (by omega) (inZ_nI (by decide) (by decide) (by decide))) ?_
  refine J_if_eqN (tgt := 57) (pc := 40) dX3_node_40 (by decide) (by omega) (fun c40 => by exfalso; first | omega | simp_all) (fun c40 => ?_)
  refine J_aload_n (i := 0) (pc := 43) dX3_node_43 rfl rfl ?_
  refine J_getf (k := 8) (pc := 44) dX3_node_44 flX3_24 a4 rfl ?_
  refine J_iload_n (i := 1) (pc := 47) dX3_node_47 rfl rfl ?_
  refine J_aald (j := j) (b := ρ j) (pc := 48) dX3_node_48 (by decide) a7 rfl (by omega) (by omega) (a7b j hj) ?_
  refine J_iload_n (i := 2) (pc := 49) dX3_node_49 rfl rfl ?_
  refine J_iload_n (i := 3) (pc := 50) dX3_node_50 rfl rfl ?_
  refine J_cSi (st := []) (As := [.ref (ρ j), .int (nI (p)), .int (nI (5))]) (pc := 51) dX3_node_51 okX3_nodeTold q4_41 q4_42 rfl (Nat.le_of_ble_eq_true rfl) (Nat.le_of_ble_eq_true rfl) (m_nodeTold5 (dd := dd) pc prw hp) ?_
  refine J_goto (tgt := 62) (pc := 54) dX3_node_54 (by decide) ?_
  refine J_iret (ty := .int) (pc := 62) dX3_node_62 rfl rfl ?_
  exact ⟨rfl, FM_tr fm1 (FM_ext (by omega) Ext_rfl), ρ, hP1⟩

set_option maxHeartbeats 2000000 in
set_option maxRecDepth 20000 in
theorem m_node6 {g : GT} {dd : Nat} {h : MH} {σ : ST} {ρ : Nat → Nat} {th : Int32} (hP : MP h σ ρ th) {j p : Nat} (hj : j < σ.2.1.1) (hp : p < nN 5 (σ.2.2.1 j)) : J g (dd + 13) 0 0 mX3_node 0 (lv_args 0 [.ref (53), .int (nI (j)), .int (nI (p)), .int (nI (6))]) [] h (RMo (.int (enc (ndS (σ.2.2.1 j) p 6))) h σ (nI 0)) := by
  have a40 := hP.2.2.2.1
  have hz0 := hP.2.2.1
  refine J_aload_n (i := 0) (pc := 0) dX3_node_0 rfl rfl ?_
  refine J_iconst (v := nI (0)) (pc := 1) dX3_node_1 rfl ?_
  refine J_putf (k := 0) (pc := 2) dX3_node_2 fpX3_node_34 (fun g => ⟨rfl, rfl⟩) a40 (Nat.le_of_ble_eq_true rfl) ?_
  obtain ⟨h_1, eh_1⟩ : ∃ z : MH, z = (h.1, hset h.2 (53) (oB 3 [.int (nI (0)), .int (nI (σ.1.1)), .ref (54), .ref (55), .int (nI (σ.1.2.1)), .int (nI (σ.2.1.2.1)), .int (nI (σ.2.1.2.2)), .int (nI (σ.2.1.1)), .ref (56), .ref (57), .ref (58)])) := ⟨_, rfl⟩
  refine J_heq (h2 := h_1) eh_1 ?_
  have zh_1 : h_1.1 = h.1 := by rw [eh_1]
  have H_2 : h_1.2 (53) = some (oB 3 [.int (nI (0)), .int (nI (σ.1.1)), .ref (54), .ref (55), .int (nI (σ.1.2.1)), .int (nI (σ.2.1.2.1)), .int (nI (σ.2.1.2.2)), .int (nI (σ.2.1.1)), .ref (56), .ref (57), .ref (58)]) := hs_s eh_1
  have hP1 : MP h_1 σ ρ (nI 0) := MP_53 hP eh_1
  have fm1 : FM h h_1 := FM_set eh_1 (by decide) (by decide)
  obtain ⟨a1, a2, a3, a4, ⟨mf, a5, a5b⟩, ⟨sf, a6, a6b⟩, ⟨rf, a7, a7b⟩, ⟨pf, a8, a8b⟩, ⟨lf, a9, a9b⟩, a10, a11⟩ := id hP1
  obtain ⟨o1, o2, o3, o4⟩ := id a2
  have hM := MP_MS hP1
  obtain ⟨hn, hc9, hm5, hs2⟩ := id a1
  have hp9 := pw_le hn
  obtain ⟨p60, plt, f, pc, prw⟩ := a10 j hj
  obtain ⟨okj, n39⟩ := o4 j hj
  have n1 := nN_pos 5 (σ.2.2.1 j)
  refine J_aload_n (i := 0) (pc := 5) dX3_node_5 rfl rfl ?_
  refine J_iload_n (i := 1) (pc := 6) dX3_node_6 rfl rfl ?_
  refine J_cVi (st := []) (As := [.int (nI (j))]) (pc := 7) dX3_node_7 okX3_isTree q4_8 q4_10 qs2_9 (rfl : vwCl[3]? = some _) a4 rfl (Nat.le_of_ble_eq_true rfl) (Nat.le_of_ble_eq_true rfl) (m_isTreeT hP1 hj) ?_
  refine J_if_eqN (tgt := 57) (pc := 10) dX3_node_10 (by decide) (by omega) (fun c10 => by exfalso; first | omega | simp_all) (fun c10 => ?_)
  refine J_iload_n (i := 2) (pc := 13) dX3_node_13 rfl rfl ?_
  refine J_iconst (v := nI (0)) (pc := 14) dX3_node_14 rfl ?_
  refine J_aload_n (i := 0) (pc := 15) dX3_node_15 rfl rfl ?_
  refine J_getf (k := 8) (pc := 16) dX3_node_16 flX3_24 a4 rfl ?_
  refine J_iload_n (i := 1) (pc := 19) dX3_node_19 rfl rfl ?_
  refine J_aald (j := j) (b := ρ j) (pc := 20) dX3_node_20 (by decide) a7 rfl (by omega) (by omega) (a7b j hj) ?_
  refine J_iconst (v := nI (1)) (pc := 21) dX3_node_21 rfl ?_
  refine J_cSi (st := [.int (nI (0)), .int (nI (p))]) (As := [.ref (ρ j), .int (nI (1))]) (pc := 22) dX3_node_22 okX3_nodes q4_38 q4_39 rfl (Nat.le_of_ble_eq_true rfl) (Nat.le_of_ble_eq_true rfl) ((by have r9 := m_nodes (g := g) (dd := dd + 6) pc 5 1 _ prw (by decide) (by decide); exact r9)) ?_
  refine J_iconst (v := nI (1)) (pc := 25) dX3_node_25 rfl ?_
  refine J_isubN (pc := 26) dX3_node_26 (by omega) ?_
  refine J_cSi (st := []) (As := [.int (nI (p)), .int (nI (0)), .int (nI ((nN 5 (σ.2.2.1 j)) - (1)))]) (pc := 27) dX3_node_27 okX3_isIn q3_166 q3_167 rfl (Nat.le_of_ble_eq_true rfl) (Nat.le_of_ble_eq_true rfl) (m_inT (by omega) (by omega) (inZ_nI (by omega) (by omega) (by omega))) ?_
  refine J_if_eqN (tgt := 57) (pc := 30) dX3_node_30 (by decide) (by omega) (fun c30 => by exfalso; first | omega | simp_all) (fun c30 => ?_)
  refine J_iload_n (i := 3) (pc := 33) dX3_node_33 rfl rfl ?_
  refine J_iconst (v := nI (0)) (pc := 34) dX3_node_34 rfl ?_
  refine J_bipush (v := nI (6)) (pc := 35) dX3_node_35 rfl ?_
  refine J_cSi (st := []) (As := [.int (nI (6)), .int (nI (0)), .int (nI (6))]) (pc := 37) dX3_node_37 okX3_isIn q3_166 q3_167 rfl (Nat.le_of_ble_eq_true rfl) (Nat.le_of_ble_eq_true rfl) (m_inT (by omega) (by omega) (inZ_nI (by decide) (by decide) (by decide))) ?_
  refine J_if_eqN (tgt := 57) (pc := 40) dX3_node_40 (by decide) (by omega) (fun c40 => by exfalso; first | omega | simp_all) (fun c40 => ?_)
  refine J_aload_n (i := 0) (pc := 43) dX3_node_43 rfl rfl ?_
  refine J_getf (k := 8) (pc := 44) dX3_node_44 flX3_24 a4 rfl ?_
  refine J_iload_n (i := 1) (pc := 47) dX3_node_47 rfl rfl ?_
  refine J_aald (j := j) (b := ρ j) (pc := 48) dX3_node_48 (by decide) a7 rfl (by omega) (by omega) (a7b j hj) ?_
  refine J_iload_n (i := 2) (pc := 49) dX3_node_49 rfl rfl ?_
  refine J_iload_n (i := 3) (pc := 50) dX3_node_50 rfl rfl ?_
  refine J_cSi (st := []) (As := [.ref (ρ j), .int (nI (p)), .int (nI (6))]) (pc := 51) dX3_node_51 okX3_nodeTold q4_41 q4_42 rfl (Nat.le_of_ble_eq_true rfl) (Nat.le_of_ble_eq_true rfl) (m_nodeTold6 (dd := dd) pc prw hp) ?_
  refine J_goto (tgt := 62) (pc := 54) dX3_node_54 (by decide) ?_
  refine J_iret (ty := .int) (pc := 62) dX3_node_62 rfl rfl ?_
  exact ⟨rfl, FM_tr fm1 (FM_ext (by omega) Ext_rfl), ρ, hP1⟩

set_option maxHeartbeats 2000000 in
set_option maxRecDepth 20000 in
theorem m_nodeX1 {g : GT} {dd : Nat} {h : MH} {σ : ST} {ρ : Nat → Nat} {th : Int32} (hP : MP h σ ρ th) {x p what : Int32} (hx : ¬ (0 ≤ x.toInt ∧ x.toInt < (σ.2.1.1 : Int))) : J g (dd + 13) 0 0 mX3_node 0 (lv_args 0 [.ref (53), .int (x), .int (p), .int (what)]) [] h (RMo (.int (nI 0)) h σ (nI 1)) := by
  have a40 := hP.2.2.2.1
  have hz0 := hP.2.2.1
  refine J_aload_n (i := 0) (pc := 0) dX3_node_0 rfl rfl ?_
  refine J_iconst (v := nI (0)) (pc := 1) dX3_node_1 rfl ?_
  refine J_putf (k := 0) (pc := 2) dX3_node_2 fpX3_node_34 (fun g => ⟨rfl, rfl⟩) a40 (Nat.le_of_ble_eq_true rfl) ?_
  obtain ⟨h_1, eh_1⟩ : ∃ z : MH, z = (h.1, hset h.2 (53) (oB 3 [.int (nI (0)), .int (nI (σ.1.1)), .ref (54), .ref (55), .int (nI (σ.1.2.1)), .int (nI (σ.2.1.2.1)), .int (nI (σ.2.1.2.2)), .int (nI (σ.2.1.1)), .ref (56), .ref (57), .ref (58)])) := ⟨_, rfl⟩
  refine J_heq (h2 := h_1) eh_1 ?_
  have zh_1 : h_1.1 = h.1 := by rw [eh_1]
  have H_2 : h_1.2 (53) = some (oB 3 [.int (nI (0)), .int (nI (σ.1.1)), .ref (54), .ref (55), .int (nI (σ.1.2.1)), .int (nI (σ.2.1.2.1)), .int (nI (σ.2.1.2.2)), .int (nI (σ.2.1.1)), .ref (56), .ref (57), .ref (58)]) := hs_s eh_1
  have hP1 : MP h_1 σ ρ (nI 0) := MP_53 hP eh_1
  have fm1 : FM h h_1 := FM_set eh_1 (by decide) (by decide)
  obtain ⟨a1, a2, a3, a4, ⟨mf, a5, a5b⟩, ⟨sf, a6, a6b⟩, ⟨rf, a7, a7b⟩, ⟨pf, a8, a8b⟩, ⟨lf, a9, a9b⟩, a10, a11⟩ := id hP1
  obtain ⟨o1, o2, o3, o4⟩ := id a2
  have hM := MP_MS hP1
  obtain ⟨hn, hc9, hm5, hs2⟩ := id a1
  have hp9 := pw_le hn
  refine J_aload_n (i := 0) (pc := 5) dX3_node_5 rfl rfl ?_
  refine J_iload_n (i := 1) (pc := 6) dX3_node_6 rfl rfl ?_
  refine J_cVi (st := []) (As := [.int (x)]) (pc := 7) dX3_node_7 okX3_isTree q4_8 q4_10 qs2_9 (rfl : vwCl[3]? = some _) a4 rfl (Nat.le_of_ble_eq_true rfl) (Nat.le_of_ble_eq_true rfl) (m_isTreeF hP1 hx) ?_
  refine J_if_eqN (tgt := 57) (pc := 10) dX3_node_10 (by decide) (by omega) (fun c10 => ?_) (fun c10 => by exfalso; first | omega | simp_all)
  refine J_aload_n (i := 0) (pc := 57) dX3_node_57 rfl rfl ?_
  refine J_iconst (v := nI (1)) (pc := 58) dX3_node_58 rfl ?_
  refine J_cVh (st := []) (As := [.int (nI (1))]) (pc := 59) dX3_node_59 okX3_no q3_169 q3_171 qs1_13 (rfl : vwCl[3]? = some _) a4 rfl (Nat.le_of_ble_eq_true rfl) (Nat.le_of_ble_eq_true rfl) (m_no hP1) (fun h_3 q_4 => ?_)
  refine J_iret (ty := .int) (pc := 62) dX3_node_62 rfl rfl ?_
  exact ⟨rfl, FM_tr fm1 (FM_tr (FM_ext (by omega) Ext_rfl) q_4.1), ρ, q_4.2⟩

set_option maxHeartbeats 2000000 in
set_option maxRecDepth 20000 in
theorem m_nodeX2 {g : GT} {dd : Nat} {h : MH} {σ : ST} {ρ : Nat → Nat} {th : Int32} (hP : MP h σ ρ th) {j : Nat} {p what : Int32} (hj : j < σ.2.1.1) (hp : ¬ (0 ≤ p.toInt ∧ p.toInt < (nN 5 (σ.2.2.1 j) : Int))) : J g (dd + 13) 0 0 mX3_node 0 (lv_args 0 [.ref (53), .int (nI (j)), .int (p), .int (what)]) [] h (RMo (.int (nI 0)) h σ (nI 1)) := by
  have a40 := hP.2.2.2.1
  have hz0 := hP.2.2.1
  refine J_aload_n (i := 0) (pc := 0) dX3_node_0 rfl rfl ?_
  refine J_iconst (v := nI (0)) (pc := 1) dX3_node_1 rfl ?_
  refine J_putf (k := 0) (pc := 2) dX3_node_2 fpX3_node_34 (fun g => ⟨rfl, rfl⟩) a40 (Nat.le_of_ble_eq_true rfl) ?_
  obtain ⟨h_1, eh_1⟩ : ∃ z : MH, z = (h.1, hset h.2 (53) (oB 3 [.int (nI (0)), .int (nI (σ.1.1)), .ref (54), .ref (55), .int (nI (σ.1.2.1)), .int (nI (σ.2.1.2.1)), .int (nI (σ.2.1.2.2)), .int (nI (σ.2.1.1)), .ref (56), .ref (57), .ref (58)])) := ⟨_, rfl⟩
  refine J_heq (h2 := h_1) eh_1 ?_
  have zh_1 : h_1.1 = h.1 := by rw [eh_1]
  have H_2 : h_1.2 (53) = some (oB 3 [.int (nI (0)), .int (nI (σ.1.1)), .ref (54), .ref (55), .int (nI (σ.1.2.1)), .int (nI (σ.2.1.2.1)), .int (nI (σ.2.1.2.2)), .int (nI (σ.2.1.1)), .ref (56), .ref (57), .ref (58)]) := hs_s eh_1
  have hP1 : MP h_1 σ ρ (nI 0) := MP_53 hP eh_1
  have fm1 : FM h h_1 := FM_set eh_1 (by decide) (by decide)
  obtain ⟨a1, a2, a3, a4, ⟨mf, a5, a5b⟩, ⟨sf, a6, a6b⟩, ⟨rf, a7, a7b⟩, ⟨pf, a8, a8b⟩, ⟨lf, a9, a9b⟩, a10, a11⟩ := id hP1
  obtain ⟨o1, o2, o3, o4⟩ := id a2
  have hM := MP_MS hP1
  obtain ⟨hn, hc9, hm5, hs2⟩ := id a1
  have hp9 := pw_le hn
  obtain ⟨p60, plt, f, pc, prw⟩ := a10 j hj
  obtain ⟨okj, n39⟩ := o4 j hj
  have n1 := nN_pos 5 (σ.2.2.1 j)
  refine J_aload_n (i := 0) (pc := 5) dX3_node_5 rfl rfl ?_
  refine J_iload_n (i := 1) (pc := 6) dX3_node_6 rfl rfl ?_
  refine J_cVi (st := []) (As := [.int (nI (j))]) (pc := 7) dX3_node_7 okX3_isTree q4_8 q4_10 qs2_9 (rfl : vwCl[3]? = some _) a4 rfl (Nat.le_of_ble_eq_true rfl) (Nat.le_of_ble_eq_true rfl) (m_isTreeT hP1 hj) ?_
  refine J_if_eqN (tgt := 57) (pc := 10) dX3_node_10 (by decide) (by omega) (fun c10 => by exfalso; first | omega | simp_all) (fun c10 => ?_)
  refine J_iload_n (i := 2) (pc := 13) dX3_node_13 rfl rfl ?_
  refine J_iconst (v := nI (0)) (pc := 14) dX3_node_14 rfl ?_
  refine J_aload_n (i := 0) (pc := 15) dX3_node_15 rfl rfl ?_
  refine J_getf (k := 8) (pc := 16) dX3_node_16 flX3_24 a4 rfl ?_
  refine J_iload_n (i := 1) (pc := 19) dX3_node_19 rfl rfl ?_
  refine J_aald (j := j) (b := ρ j) (pc := 20) dX3_node_20 (by decide) a7 rfl (by omega) (by omega) (a7b j hj) ?_
  refine J_iconst (v := nI (1)) (pc := 21) dX3_node_21 rfl ?_
  refine J_cSi (st := [.int (nI (0)), .int (p)]) (As := [.ref (ρ j), .int (nI (1))]) (pc := 22) dX3_node_22 okX3_nodes q4_38 q4_39 rfl (Nat.le_of_ble_eq_true rfl) (Nat.le_of_ble_eq_true rfl) ((by have r9 := m_nodes (g := g) (dd := dd + 6) pc 5 1 _ prw (by decide) (by decide); exact r9)) ?_
  refine J_iconst (v := nI (1)) (pc := 25) dX3_node_25 rfl ?_
  refine J_isubN (pc := 26) dX3_node_26 (by omega) ?_
  refine J_cSi (st := []) (As := [.int (p), .int (nI (0)), .int (nI ((nN 5 (σ.2.2.1 j)) - (1)))]) (pc := 27) dX3_node_27 okX3_isIn q3_166 q3_167 rfl (Nat.le_of_ble_eq_true rfl) (Nat.le_of_ble_eq_true rfl) (m_inF (by omega) (by omega) (fun q => hp ⟨q.1, by have := q.2; omega⟩)) ?_
  refine J_if_eqN (tgt := 57) (pc := 30) dX3_node_30 (by decide) (by omega) (fun c30 => ?_) (fun c30 => by exfalso; first | omega | simp_all)
  refine J_aload_n (i := 0) (pc := 57) dX3_node_57 rfl rfl ?_
  refine J_iconst (v := nI (1)) (pc := 58) dX3_node_58 rfl ?_
  refine J_cVh (st := []) (As := [.int (nI (1))]) (pc := 59) dX3_node_59 okX3_no q3_169 q3_171 qs1_13 (rfl : vwCl[3]? = some _) a4 rfl (Nat.le_of_ble_eq_true rfl) (Nat.le_of_ble_eq_true rfl) (m_no hP1) (fun h_3 q_4 => ?_)
  refine J_iret (ty := .int) (pc := 62) dX3_node_62 rfl rfl ?_
  exact ⟨rfl, FM_tr fm1 (FM_tr (FM_ext (by omega) Ext_rfl) q_4.1), ρ, q_4.2⟩

set_option maxHeartbeats 2000000 in
set_option maxRecDepth 20000 in
theorem m_nodeX3 {g : GT} {dd : Nat} {h : MH} {σ : ST} {ρ : Nat → Nat} {th : Int32} (hP : MP h σ ρ th) {j p : Nat} (hj : j < σ.2.1.1) (hp : p < nN 5 (σ.2.2.1 j)) {what : Int32} (hw : ¬ inZ 0 6 what) : J g (dd + 13) 0 0 mX3_node 0 (lv_args 0 [.ref (53), .int (nI (j)), .int (nI (p)), .int (what)]) [] h (RMo (.int (nI 0)) h σ (nI 1)) := by
  have a40 := hP.2.2.2.1
  have hz0 := hP.2.2.1
  refine J_aload_n (i := 0) (pc := 0) dX3_node_0 rfl rfl ?_
  refine J_iconst (v := nI (0)) (pc := 1) dX3_node_1 rfl ?_
  refine J_putf (k := 0) (pc := 2) dX3_node_2 fpX3_node_34 (fun g => ⟨rfl, rfl⟩) a40 (Nat.le_of_ble_eq_true rfl) ?_
  obtain ⟨h_1, eh_1⟩ : ∃ z : MH, z = (h.1, hset h.2 (53) (oB 3 [.int (nI (0)), .int (nI (σ.1.1)), .ref (54), .ref (55), .int (nI (σ.1.2.1)), .int (nI (σ.2.1.2.1)), .int (nI (σ.2.1.2.2)), .int (nI (σ.2.1.1)), .ref (56), .ref (57), .ref (58)])) := ⟨_, rfl⟩
  refine J_heq (h2 := h_1) eh_1 ?_
  have zh_1 : h_1.1 = h.1 := by rw [eh_1]
  have H_2 : h_1.2 (53) = some (oB 3 [.int (nI (0)), .int (nI (σ.1.1)), .ref (54), .ref (55), .int (nI (σ.1.2.1)), .int (nI (σ.2.1.2.1)), .int (nI (σ.2.1.2.2)), .int (nI (σ.2.1.1)), .ref (56), .ref (57), .ref (58)]) := hs_s eh_1
  have hP1 : MP h_1 σ ρ (nI 0) := MP_53 hP eh_1
  have fm1 : FM h h_1 := FM_set eh_1 (by decide) (by decide)
  obtain ⟨a1, a2, a3, a4, ⟨mf, a5, a5b⟩, ⟨sf, a6, a6b⟩, ⟨rf, a7, a7b⟩, ⟨pf, a8, a8b⟩, ⟨lf, a9, a9b⟩, a10, a11⟩ := id hP1
  obtain ⟨o1, o2, o3, o4⟩ := id a2
  have hM := MP_MS hP1
  obtain ⟨hn, hc9, hm5, hs2⟩ := id a1
  have hp9 := pw_le hn
  obtain ⟨p60, plt, f, pc, prw⟩ := a10 j hj
  obtain ⟨okj, n39⟩ := o4 j hj
  have n1 := nN_pos 5 (σ.2.2.1 j)
  refine J_aload_n (i := 0) (pc := 5) dX3_node_5 rfl rfl ?_
  refine J_iload_n (i := 1) (pc := 6) dX3_node_6 rfl rfl ?_
  refine J_cVi (st := []) (As := [.int (nI (j))]) (pc := 7) dX3_node_7 okX3_isTree q4_8 q4_10 qs2_9 (rfl : vwCl[3]? = some _) a4 rfl (Nat.le_of_ble_eq_true rfl) (Nat.le_of_ble_eq_true rfl) (m_isTreeT hP1 hj) ?_
  refine J_if_eqN (tgt := 57) (pc := 10) dX3_node_10 (by decide) (by omega) (fun c10 => by exfalso; first | omega | simp_all) (fun c10 => ?_)
  refine J_iload_n (i := 2) (pc := 13) dX3_node_13 rfl rfl ?_
  refine J_iconst (v := nI (0)) (pc := 14) dX3_node_14 rfl ?_
  refine J_aload_n (i := 0) (pc := 15) dX3_node_15 rfl rfl ?_
  refine J_getf (k := 8) (pc := 16) dX3_node_16 flX3_24 a4 rfl ?_
  refine J_iload_n (i := 1) (pc := 19) dX3_node_19 rfl rfl ?_
  refine J_aald (j := j) (b := ρ j) (pc := 20) dX3_node_20 (by decide) a7 rfl (by omega) (by omega) (a7b j hj) ?_
  refine J_iconst (v := nI (1)) (pc := 21) dX3_node_21 rfl ?_
  refine J_cSi (st := [.int (nI (0)), .int (nI (p))]) (As := [.ref (ρ j), .int (nI (1))]) (pc := 22) dX3_node_22 okX3_nodes q4_38 q4_39 rfl (Nat.le_of_ble_eq_true rfl) (Nat.le_of_ble_eq_true rfl) ((by have r9 := m_nodes (g := g) (dd := dd + 6) pc 5 1 _ prw (by decide) (by decide); exact r9)) ?_
  refine J_iconst (v := nI (1)) (pc := 25) dX3_node_25 rfl ?_
  refine J_isubN (pc := 26) dX3_node_26 (by omega) ?_
  refine J_cSi (st := []) (As := [.int (nI (p)), .int (nI (0)), .int (nI ((nN 5 (σ.2.2.1 j)) - (1)))]) (pc := 27) dX3_node_27 okX3_isIn q3_166 q3_167 rfl (Nat.le_of_ble_eq_true rfl) (Nat.le_of_ble_eq_true rfl) (m_inT (by omega) (by omega) (inZ_nI (by omega) (by omega) (by omega))) ?_
  refine J_if_eqN (tgt := 57) (pc := 30) dX3_node_30 (by decide) (by omega) (fun c30 => by exfalso; first | omega | simp_all) (fun c30 => ?_)
  refine J_iload_n (i := 3) (pc := 33) dX3_node_33 rfl rfl ?_
  refine J_iconst (v := nI (0)) (pc := 34) dX3_node_34 rfl ?_
  refine J_bipush (v := nI (6)) (pc := 35) dX3_node_35 rfl ?_
  refine J_cSi (st := []) (As := [.int (what), .int (nI (0)), .int (nI (6))]) (pc := 37) dX3_node_37 okX3_isIn q3_166 q3_167 rfl (Nat.le_of_ble_eq_true rfl) (Nat.le_of_ble_eq_true rfl) (m_inF (by omega) (by omega) (hw)) ?_
  refine J_if_eqN (tgt := 57) (pc := 40) dX3_node_40 (by decide) (by omega) (fun c40 => ?_) (fun c40 => by exfalso; first | omega | simp_all)
  refine J_aload_n (i := 0) (pc := 57) dX3_node_57 rfl rfl ?_
  refine J_iconst (v := nI (1)) (pc := 58) dX3_node_58 rfl ?_
  refine J_cVh (st := []) (As := [.int (nI (1))]) (pc := 59) dX3_node_59 okX3_no q3_169 q3_171 qs1_13 (rfl : vwCl[3]? = some _) a4 rfl (Nat.le_of_ble_eq_true rfl) (Nat.le_of_ble_eq_true rfl) (m_no hP1) (fun h_3 q_4 => ?_)
  refine J_iret (ty := .int) (pc := 62) dX3_node_62 rfl rfl ?_
  exact ⟨rfl, FM_tr fm1 (FM_tr (FM_ext (by omega) Ext_rfl) q_4.1), ρ, q_4.2⟩

set_option maxHeartbeats 2000000 in
set_option maxRecDepth 20000 in
theorem m_about0 {g : GT} {dd : Nat} {h : MH} {σ : ST} {ρ : Nat → Nat} {th : Int32} (hP : MP h σ ρ th) {j : Nat} (hj : j < σ.2.1.1) : J g (dd + 8) 0 0 mX3_about 0 (lv_args 0 [.ref (53), .int (nI (j)), .int (nI (0))]) [] h (RMo (.int (abS σ j 0)) h σ (nI 0)) := by
  have a40 := hP.2.2.2.1
  have hz0 := hP.2.2.1
  refine J_aload_n (i := 0) (pc := 0) dX3_about_0 rfl rfl ?_
  refine J_iconst (v := nI (0)) (pc := 1) dX3_about_1 rfl ?_
  refine J_putf (k := 0) (pc := 2) dX3_about_2 fpX3_about_34 (fun g => ⟨rfl, rfl⟩) a40 (Nat.le_of_ble_eq_true rfl) ?_
  obtain ⟨h_1, eh_1⟩ : ∃ z : MH, z = (h.1, hset h.2 (53) (oB 3 [.int (nI (0)), .int (nI (σ.1.1)), .ref (54), .ref (55), .int (nI (σ.1.2.1)), .int (nI (σ.2.1.2.1)), .int (nI (σ.2.1.2.2)), .int (nI (σ.2.1.1)), .ref (56), .ref (57), .ref (58)])) := ⟨_, rfl⟩
  refine J_heq (h2 := h_1) eh_1 ?_
  have zh_1 : h_1.1 = h.1 := by rw [eh_1]
  have H_2 : h_1.2 (53) = some (oB 3 [.int (nI (0)), .int (nI (σ.1.1)), .ref (54), .ref (55), .int (nI (σ.1.2.1)), .int (nI (σ.2.1.2.1)), .int (nI (σ.2.1.2.2)), .int (nI (σ.2.1.1)), .ref (56), .ref (57), .ref (58)]) := hs_s eh_1
  have hP1 : MP h_1 σ ρ (nI 0) := MP_53 hP eh_1
  have fm1 : FM h h_1 := FM_set eh_1 (by decide) (by decide)
  obtain ⟨a1, a2, a3, a4, ⟨mf, a5, a5b⟩, ⟨sf, a6, a6b⟩, ⟨rf, a7, a7b⟩, ⟨pf, a8, a8b⟩, ⟨lf, a9, a9b⟩, a10, a11⟩ := id hP1
  obtain ⟨o1, o2, o3, o4⟩ := id a2
  have hM := MP_MS hP1
  obtain ⟨hn, hc9, hm5, hs2⟩ := id a1
  have hp9 := pw_le hn
  refine J_aload_n (i := 0) (pc := 5) dX3_about_5 rfl rfl ?_
  refine J_iload_n (i := 1) (pc := 6) dX3_about_6 rfl rfl ?_
  refine J_cVi (st := []) (As := [.int (nI (j))]) (pc := 7) dX3_about_7 okX3_isTree q4_8 q4_10 qs2_9 (rfl : vwCl[3]? = some _) a4 rfl (Nat.le_of_ble_eq_true rfl) (Nat.le_of_ble_eq_true rfl) (m_isTreeT hP1 hj) ?_
  refine J_if_eqN (tgt := 32) (pc := 10) dX3_about_10 (by decide) (by omega) (fun c10 => by exfalso; first | omega | simp_all) (fun c10 => ?_)
  refine J_iload_n (i := 2) (pc := 13) dX3_about_13 rfl rfl ?_
  refine J_iconst (v := nI (0)) (pc := 14) dX3_about_14 rfl ?_
  refine J_bipush (v := nI (6)) (pc := 15) dX3_about_15 rfl ?_
  refine J_cSi (st := []) (As := [.int (nI (0)), .int (nI (0)), .int (nI (6))]) (pc := 17) dX3_about_17 okX3_isIn q3_166 q3_167 rfl (Nat.le_of_ble_eq_true rfl) (Nat.le_of_ble_eq_true rfl) (m_inT (by omega) (by omega) (inZ_nI (by decide) (by decide) (by decide))) ?_
  refine J_if_eqN (tgt := 32) (pc := 20) dX3_about_20 (by decide) (by omega) (fun c20 => by exfalso; first | omega | simp_all) (fun c20 => ?_)
  refine J_aload_n (i := 0) (pc := 23) dX3_about_23 rfl rfl ?_
  refine J_iload_n (i := 1) (pc := 24) dX3_about_24 rfl rfl ?_
  refine J_iload_n (i := 2) (pc := 25) dX3_about_25 rfl rfl ?_
  refine J_cVB (st := []) (As := [.int (nI (j)), .int (nI (0))]) (v := some (.int (abS σ j 0))) (ca1 := 0) (sa1 := 0) (ca2 := 0) (sa2 := 0) (pc := 26) dX3_about_26 okX3_treeTold q4_54 q4_56 qs2_13 (rfl : vwCl[3]? = some _) a4 rfl (Nat.le_of_ble_eq_true rfl) (Nat.le_of_ble_eq_true rfl) (m_treeTold0 (dd := dd) hP1 hj) (by omega) (by omega) (fun h_3 q_4 => ?_)
  have zh_3 := q_4.1
  have H_5 : h_3.2 (53) = some (oB 3 [.int (nI (0)), .int (nI (σ.1.1)), .ref (54), .ref (55), .int (nI (σ.1.2.1)), .int (nI (σ.2.1.2.1)), .int (nI (σ.2.1.2.2)), .int (nI (σ.2.1.1)), .ref (56), .ref (57), .ref (58)]) := (q_4.2 _ (by omega)).trans a4
  have H_6 : h_3.2 (54) = some (aI (60) (mf)) := (q_4.2 _ (by omega)).trans a5
  have H_7 : h_3.2 (55) = some (aI (20) (sf)) := (q_4.2 _ (by omega)).trans a6
  have H_8 : h_3.2 (56) = some (aG (5) (rf)) := (q_4.2 _ (by omega)).trans a7
  have H_9 : h_3.2 (57) = some (aI (5) (pf)) := (q_4.2 _ (by omega)).trans a8
  have H_10 : h_3.2 (58) = some (aI (5) (lf)) := (q_4.2 _ (by omega)).trans a9
  have H_11 : Ext h_1 h_3 := Ext_tr Ext_rfl q_4
  have H_12 : MS h_3 σ.1 := MS_ext q_4 (by omega) hM
  have H_13 : MP h_3 σ ρ (nI 0) := MP_ext q_4 hP1
  refine J_goto (tgt := 37) (pc := 29) dX3_about_29 (by decide) ?_
  refine J_iret (ty := .int) (pc := 37) dX3_about_37 rfl rfl ?_
  exact ⟨rfl, FM_tr fm1 (FM_ext (by omega) H_11), ρ, H_13⟩

set_option maxHeartbeats 2000000 in
set_option maxRecDepth 20000 in
theorem m_about1 {g : GT} {dd : Nat} {h : MH} {σ : ST} {ρ : Nat → Nat} {th : Int32} (hP : MP h σ ρ th) {j : Nat} (hj : j < σ.2.1.1) : J g (dd + 8) 0 0 mX3_about 0 (lv_args 0 [.ref (53), .int (nI (j)), .int (nI (1))]) [] h (RMo (.int (abS σ j 1)) h σ (nI 0)) := by
  have a40 := hP.2.2.2.1
  have hz0 := hP.2.2.1
  refine J_aload_n (i := 0) (pc := 0) dX3_about_0 rfl rfl ?_
  refine J_iconst (v := nI (0)) (pc := 1) dX3_about_1 rfl ?_
  refine J_putf (k := 0) (pc := 2) dX3_about_2 fpX3_about_34 (fun g => ⟨rfl, rfl⟩) a40 (Nat.le_of_ble_eq_true rfl) ?_
  obtain ⟨h_1, eh_1⟩ : ∃ z : MH, z = (h.1, hset h.2 (53) (oB 3 [.int (nI (0)), .int (nI (σ.1.1)), .ref (54), .ref (55), .int (nI (σ.1.2.1)), .int (nI (σ.2.1.2.1)), .int (nI (σ.2.1.2.2)), .int (nI (σ.2.1.1)), .ref (56), .ref (57), .ref (58)])) := ⟨_, rfl⟩
  refine J_heq (h2 := h_1) eh_1 ?_
  have zh_1 : h_1.1 = h.1 := by rw [eh_1]
  have H_2 : h_1.2 (53) = some (oB 3 [.int (nI (0)), .int (nI (σ.1.1)), .ref (54), .ref (55), .int (nI (σ.1.2.1)), .int (nI (σ.2.1.2.1)), .int (nI (σ.2.1.2.2)), .int (nI (σ.2.1.1)), .ref (56), .ref (57), .ref (58)]) := hs_s eh_1
  have hP1 : MP h_1 σ ρ (nI 0) := MP_53 hP eh_1
  have fm1 : FM h h_1 := FM_set eh_1 (by decide) (by decide)
  obtain ⟨a1, a2, a3, a4, ⟨mf, a5, a5b⟩, ⟨sf, a6, a6b⟩, ⟨rf, a7, a7b⟩, ⟨pf, a8, a8b⟩, ⟨lf, a9, a9b⟩, a10, a11⟩ := id hP1
  obtain ⟨o1, o2, o3, o4⟩ := id a2
  have hM := MP_MS hP1
  obtain ⟨hn, hc9, hm5, hs2⟩ := id a1
  have hp9 := pw_le hn
  refine J_aload_n (i := 0) (pc := 5) dX3_about_5 rfl rfl ?_
  refine J_iload_n (i := 1) (pc := 6) dX3_about_6 rfl rfl ?_
  refine J_cVi (st := []) (As := [.int (nI (j))]) (pc := 7) dX3_about_7 okX3_isTree q4_8 q4_10 qs2_9 (rfl : vwCl[3]? = some _) a4 rfl (Nat.le_of_ble_eq_true rfl) (Nat.le_of_ble_eq_true rfl) (m_isTreeT hP1 hj) ?_
  refine J_if_eqN (tgt := 32) (pc := 10) dX3_about_10 (by decide) (by omega) (fun c10 => by exfalso; first | omega | simp_all) (fun c10 => ?_)
  refine J_iload_n (i := 2) (pc := 13) dX3_about_13 rfl rfl ?_
  refine J_iconst (v := nI (0)) (pc := 14) dX3_about_14 rfl ?_
  refine J_bipush (v := nI (6)) (pc := 15) dX3_about_15 rfl ?_
  refine J_cSi (st := []) (As := [.int (nI (1)), .int (nI (0)), .int (nI (6))]) (pc := 17) dX3_about_17 okX3_isIn q3_166 q3_167 rfl (Nat.le_of_ble_eq_true rfl) (Nat.le_of_ble_eq_true rfl) (m_inT (by omega) (by omega) (inZ_nI (by decide) (by decide) (by decide))) ?_
  refine J_if_eqN (tgt := 32) (pc := 20) dX3_about_20 (by decide) (by omega) (fun c20 => by exfalso; first | omega | simp_all) (fun c20 => ?_)
  refine J_aload_n (i := 0) (pc := 23) dX3_about_23 rfl rfl ?_
  refine J_iload_n (i := 1) (pc := 24) dX3_about_24 rfl rfl ?_
  refine J_iload_n (i := 2) (pc := 25) dX3_about_25 rfl rfl ?_
  refine J_cVB (st := []) (As := [.int (nI (j)), .int (nI (1))]) (v := some (.int (abS σ j 1))) (ca1 := 0) (sa1 := 0) (ca2 := 0) (sa2 := 0) (pc := 26) dX3_about_26 okX3_treeTold q4_54 q4_56 qs2_13 (rfl : vwCl[3]? = some _) a4 rfl (Nat.le_of_ble_eq_true rfl) (Nat.le_of_ble_eq_true rfl) (m_treeTold1 (dd := dd) hP1 hj) (by omega) (by omega) (fun h_3 q_4 => ?_)
  have zh_3 := q_4.1
  have H_5 : h_3.2 (53) = some (oB 3 [.int (nI (0)), .int (nI (σ.1.1)), .ref (54), .ref (55), .int (nI (σ.1.2.1)), .int (nI (σ.2.1.2.1)), .int (nI (σ.2.1.2.2)), .int (nI (σ.2.1.1)), .ref (56), .ref (57), .ref (58)]) := (q_4.2 _ (by omega)).trans a4
  have H_6 : h_3.2 (54) = some (aI (60) (mf)) := (q_4.2 _ (by omega)).trans a5
  have H_7 : h_3.2 (55) = some (aI (20) (sf)) := (q_4.2 _ (by omega)).trans a6
  have H_8 : h_3.2 (56) = some (aG (5) (rf)) := (q_4.2 _ (by omega)).trans a7
  have H_9 : h_3.2 (57) = some (aI (5) (pf)) := (q_4.2 _ (by omega)).trans a8
  have H_10 : h_3.2 (58) = some (aI (5) (lf)) := (q_4.2 _ (by omega)).trans a9
  have H_11 : Ext h_1 h_3 := Ext_tr Ext_rfl q_4
  have H_12 : MS h_3 σ.1 := MS_ext q_4 (by omega) hM
  have H_13 : MP h_3 σ ρ (nI 0) := MP_ext q_4 hP1
  refine J_goto (tgt := 37) (pc := 29) dX3_about_29 (by decide) ?_
  refine J_iret (ty := .int) (pc := 37) dX3_about_37 rfl rfl ?_
  exact ⟨rfl, FM_tr fm1 (FM_ext (by omega) H_11), ρ, H_13⟩

set_option maxHeartbeats 2000000 in
set_option maxRecDepth 20000 in
theorem m_about2 {g : GT} {dd : Nat} {h : MH} {σ : ST} {ρ : Nat → Nat} {th : Int32} (hP : MP h σ ρ th) {j : Nat} (hj : j < σ.2.1.1) : J g (dd + 8) 0 0 mX3_about 0 (lv_args 0 [.ref (53), .int (nI (j)), .int (nI (2))]) [] h (RMo (.int (abS σ j 2)) h σ (nI 0)) := by
  have a40 := hP.2.2.2.1
  have hz0 := hP.2.2.1
  refine J_aload_n (i := 0) (pc := 0) dX3_about_0 rfl rfl ?_
  refine J_iconst (v := nI (0)) (pc := 1) dX3_about_1 rfl ?_
  refine J_putf (k := 0) (pc := 2) dX3_about_2 fpX3_about_34 (fun g => ⟨rfl, rfl⟩) a40 (Nat.le_of_ble_eq_true rfl) ?_
  obtain ⟨h_1, eh_1⟩ : ∃ z : MH, z = (h.1, hset h.2 (53) (oB 3 [.int (nI (0)), .int (nI (σ.1.1)), .ref (54), .ref (55), .int (nI (σ.1.2.1)), .int (nI (σ.2.1.2.1)), .int (nI (σ.2.1.2.2)), .int (nI (σ.2.1.1)), .ref (56), .ref (57), .ref (58)])) := ⟨_, rfl⟩
  refine J_heq (h2 := h_1) eh_1 ?_
  have zh_1 : h_1.1 = h.1 := by rw [eh_1]
  have H_2 : h_1.2 (53) = some (oB 3 [.int (nI (0)), .int (nI (σ.1.1)), .ref (54), .ref (55), .int (nI (σ.1.2.1)), .int (nI (σ.2.1.2.1)), .int (nI (σ.2.1.2.2)), .int (nI (σ.2.1.1)), .ref (56), .ref (57), .ref (58)]) := hs_s eh_1
  have hP1 : MP h_1 σ ρ (nI 0) := MP_53 hP eh_1
  have fm1 : FM h h_1 := FM_set eh_1 (by decide) (by decide)
  obtain ⟨a1, a2, a3, a4, ⟨mf, a5, a5b⟩, ⟨sf, a6, a6b⟩, ⟨rf, a7, a7b⟩, ⟨pf, a8, a8b⟩, ⟨lf, a9, a9b⟩, a10, a11⟩ := id hP1
  obtain ⟨o1, o2, o3, o4⟩ := id a2
  have hM := MP_MS hP1
  obtain ⟨hn, hc9, hm5, hs2⟩ := id a1
  have hp9 := pw_le hn
  refine J_aload_n (i := 0) (pc := 5) dX3_about_5 rfl rfl ?_
  refine J_iload_n (i := 1) (pc := 6) dX3_about_6 rfl rfl ?_
  refine J_cVi (st := []) (As := [.int (nI (j))]) (pc := 7) dX3_about_7 okX3_isTree q4_8 q4_10 qs2_9 (rfl : vwCl[3]? = some _) a4 rfl (Nat.le_of_ble_eq_true rfl) (Nat.le_of_ble_eq_true rfl) (m_isTreeT hP1 hj) ?_
  refine J_if_eqN (tgt := 32) (pc := 10) dX3_about_10 (by decide) (by omega) (fun c10 => by exfalso; first | omega | simp_all) (fun c10 => ?_)
  refine J_iload_n (i := 2) (pc := 13) dX3_about_13 rfl rfl ?_
  refine J_iconst (v := nI (0)) (pc := 14) dX3_about_14 rfl ?_
  refine J_bipush (v := nI (6)) (pc := 15) dX3_about_15 rfl ?_
  refine J_cSi (st := []) (As := [.int (nI (2)), .int (nI (0)), .int (nI (6))]) (pc := 17) dX3_about_17 okX3_isIn q3_166 q3_167 rfl (Nat.le_of_ble_eq_true rfl) (Nat.le_of_ble_eq_true rfl) (m_inT (by omega) (by omega) (inZ_nI (by decide) (by decide) (by decide))) ?_
  refine J_if_eqN (tgt := 32) (pc := 20) dX3_about_20 (by decide) (by omega) (fun c20 => by exfalso; first | omega | simp_all) (fun c20 => ?_)
  refine J_aload_n (i := 0) (pc := 23) dX3_about_23 rfl rfl ?_
  refine J_iload_n (i := 1) (pc := 24) dX3_about_24 rfl rfl ?_
  refine J_iload_n (i := 2) (pc := 25) dX3_about_25 rfl rfl ?_
  refine J_cVB (st := []) (As := [.int (nI (j)), .int (nI (2))]) (v := some (.int (abS σ j 2))) (ca1 := 0) (sa1 := 0) (ca2 := 0) (sa2 := 0) (pc := 26) dX3_about_26 okX3_treeTold q4_54 q4_56 qs2_13 (rfl : vwCl[3]? = some _) a4 rfl (Nat.le_of_ble_eq_true rfl) (Nat.le_of_ble_eq_true rfl) (m_treeTold2 (dd := dd) hP1 hj) (by omega) (by omega) (fun h_3 q_4 => ?_)
  have zh_3 := q_4.1
  have H_5 : h_3.2 (53) = some (oB 3 [.int (nI (0)), .int (nI (σ.1.1)), .ref (54), .ref (55), .int (nI (σ.1.2.1)), .int (nI (σ.2.1.2.1)), .int (nI (σ.2.1.2.2)), .int (nI (σ.2.1.1)), .ref (56), .ref (57), .ref (58)]) := (q_4.2 _ (by omega)).trans a4
  have H_6 : h_3.2 (54) = some (aI (60) (mf)) := (q_4.2 _ (by omega)).trans a5
  have H_7 : h_3.2 (55) = some (aI (20) (sf)) := (q_4.2 _ (by omega)).trans a6
  have H_8 : h_3.2 (56) = some (aG (5) (rf)) := (q_4.2 _ (by omega)).trans a7
  have H_9 : h_3.2 (57) = some (aI (5) (pf)) := (q_4.2 _ (by omega)).trans a8
  have H_10 : h_3.2 (58) = some (aI (5) (lf)) := (q_4.2 _ (by omega)).trans a9
  have H_11 : Ext h_1 h_3 := Ext_tr Ext_rfl q_4
  have H_12 : MS h_3 σ.1 := MS_ext q_4 (by omega) hM
  have H_13 : MP h_3 σ ρ (nI 0) := MP_ext q_4 hP1
  refine J_goto (tgt := 37) (pc := 29) dX3_about_29 (by decide) ?_
  refine J_iret (ty := .int) (pc := 37) dX3_about_37 rfl rfl ?_
  exact ⟨rfl, FM_tr fm1 (FM_ext (by omega) H_11), ρ, H_13⟩

set_option maxHeartbeats 2000000 in
set_option maxRecDepth 20000 in
theorem m_about3 {g : GT} {dd : Nat} {h : MH} {σ : ST} {ρ : Nat → Nat} {th : Int32} (hP : MP h σ ρ th) {j : Nat} (hj : j < σ.2.1.1) : J g (dd + 8) (cnt (gro σ.1)) (3 * cnt (gro σ.1)) mX3_about 0 (lv_args 0 [.ref (53), .int (nI (j)), .int (nI (3))]) [] h (RMo (.int (abS σ j 3)) h σ (nI 0)) := by
  have a40 := hP.2.2.2.1
  have hz0 := hP.2.2.1
  refine J_aload_n (i := 0) (pc := 0) dX3_about_0 rfl rfl ?_
  refine J_iconst (v := nI (0)) (pc := 1) dX3_about_1 rfl ?_
  refine J_putf (k := 0) (pc := 2) dX3_about_2 fpX3_about_34 (fun g => ⟨rfl, rfl⟩) a40 (Nat.le_of_ble_eq_true rfl) ?_
  obtain ⟨h_1, eh_1⟩ : ∃ z : MH, z = (h.1, hset h.2 (53) (oB 3 [.int (nI (0)), .int (nI (σ.1.1)), .ref (54), .ref (55), .int (nI (σ.1.2.1)), .int (nI (σ.2.1.2.1)), .int (nI (σ.2.1.2.2)), .int (nI (σ.2.1.1)), .ref (56), .ref (57), .ref (58)])) := ⟨_, rfl⟩
  refine J_heq (h2 := h_1) eh_1 ?_
  have zh_1 : h_1.1 = h.1 := by rw [eh_1]
  have H_2 : h_1.2 (53) = some (oB 3 [.int (nI (0)), .int (nI (σ.1.1)), .ref (54), .ref (55), .int (nI (σ.1.2.1)), .int (nI (σ.2.1.2.1)), .int (nI (σ.2.1.2.2)), .int (nI (σ.2.1.1)), .ref (56), .ref (57), .ref (58)]) := hs_s eh_1
  have hP1 : MP h_1 σ ρ (nI 0) := MP_53 hP eh_1
  have fm1 : FM h h_1 := FM_set eh_1 (by decide) (by decide)
  obtain ⟨a1, a2, a3, a4, ⟨mf, a5, a5b⟩, ⟨sf, a6, a6b⟩, ⟨rf, a7, a7b⟩, ⟨pf, a8, a8b⟩, ⟨lf, a9, a9b⟩, a10, a11⟩ := id hP1
  obtain ⟨o1, o2, o3, o4⟩ := id a2
  have hM := MP_MS hP1
  obtain ⟨hn, hc9, hm5, hs2⟩ := id a1
  have hp9 := pw_le hn
  refine J_aload_n (i := 0) (pc := 5) dX3_about_5 rfl rfl ?_
  refine J_iload_n (i := 1) (pc := 6) dX3_about_6 rfl rfl ?_
  refine J_cVi (st := []) (As := [.int (nI (j))]) (pc := 7) dX3_about_7 okX3_isTree q4_8 q4_10 qs2_9 (rfl : vwCl[3]? = some _) a4 rfl (Nat.le_of_ble_eq_true rfl) (Nat.le_of_ble_eq_true rfl) (m_isTreeT hP1 hj) ?_
  refine J_if_eqN (tgt := 32) (pc := 10) dX3_about_10 (by decide) (by omega) (fun c10 => by exfalso; first | omega | simp_all) (fun c10 => ?_)
  refine J_iload_n (i := 2) (pc := 13) dX3_about_13 rfl rfl ?_
  refine J_iconst (v := nI (0)) (pc := 14) dX3_about_14 rfl ?_
  refine J_bipush (v := nI (6)) (pc := 15) dX3_about_15 rfl ?_
  refine J_cSi (st := []) (As := [.int (nI (3)), .int (nI (0)), .int (nI (6))]) (pc := 17) dX3_about_17 okX3_isIn q3_166 q3_167 rfl (Nat.le_of_ble_eq_true rfl) (Nat.le_of_ble_eq_true rfl) (m_inT (by omega) (by omega) (inZ_nI (by decide) (by decide) (by decide))) ?_
  refine J_if_eqN (tgt := 32) (pc := 20) dX3_about_20 (by decide) (by omega) (fun c20 => by exfalso; first | omega | simp_all) (fun c20 => ?_)
  refine J_aload_n (i := 0) (pc := 23) dX3_about_23 rfl rfl ?_
  refine J_iload_n (i := 1) (pc := 24) dX3_about_24 rfl rfl ?_
  refine J_iload_n (i := 2) (pc := 25) dX3_about_25 rfl rfl ?_
  refine J_cVB (st := []) (As := [.int (nI (j)), .int (nI (3))]) (v := some (.int (abS σ j 3))) (ca1 := cnt (gro σ.1)) (sa1 := 3 * cnt (gro σ.1)) (ca2 := 0) (sa2 := 0) (pc := 26) dX3_about_26 okX3_treeTold q4_54 q4_56 qs2_13 (rfl : vwCl[3]? = some _) a4 rfl (Nat.le_of_ble_eq_true rfl) (Nat.le_of_ble_eq_true rfl) (m_treeTold3 (dd := dd) hP1 hj) (by omega) (by omega) (fun h_3 q_4 => ?_)
  have zh_3 := q_4.1
  have H_5 : h_3.2 (53) = some (oB 3 [.int (nI (0)), .int (nI (σ.1.1)), .ref (54), .ref (55), .int (nI (σ.1.2.1)), .int (nI (σ.2.1.2.1)), .int (nI (σ.2.1.2.2)), .int (nI (σ.2.1.1)), .ref (56), .ref (57), .ref (58)]) := (q_4.2 _ (by omega)).trans a4
  have H_6 : h_3.2 (54) = some (aI (60) (mf)) := (q_4.2 _ (by omega)).trans a5
  have H_7 : h_3.2 (55) = some (aI (20) (sf)) := (q_4.2 _ (by omega)).trans a6
  have H_8 : h_3.2 (56) = some (aG (5) (rf)) := (q_4.2 _ (by omega)).trans a7
  have H_9 : h_3.2 (57) = some (aI (5) (pf)) := (q_4.2 _ (by omega)).trans a8
  have H_10 : h_3.2 (58) = some (aI (5) (lf)) := (q_4.2 _ (by omega)).trans a9
  have H_11 : Ext h_1 h_3 := Ext_tr Ext_rfl q_4
  have H_12 : MS h_3 σ.1 := MS_ext q_4 (by omega) hM
  have H_13 : MP h_3 σ ρ (nI 0) := MP_ext q_4 hP1
  refine J_goto (tgt := 37) (pc := 29) dX3_about_29 (by decide) ?_
  refine J_iret (ty := .int) (pc := 37) dX3_about_37 rfl rfl ?_
  exact ⟨rfl, FM_tr fm1 (FM_ext (by omega) H_11), ρ, H_13⟩

set_option maxHeartbeats 2000000 in
set_option maxRecDepth 20000 in
theorem m_about4 {g : GT} {dd : Nat} {h : MH} {σ : ST} {ρ : Nat → Nat} {th : Int32} (hP : MP h σ ρ th) {j : Nat} (hj : j < σ.2.1.1) : J g (dd + 8) (cnt σ.1.2.1) (3 * cnt σ.1.2.1) mX3_about 0 (lv_args 0 [.ref (53), .int (nI (j)), .int (nI (4))]) [] h (RMo (.int (abS σ j 4)) h σ (nI 0)) := by
  have a40 := hP.2.2.2.1
  have hz0 := hP.2.2.1
  refine J_aload_n (i := 0) (pc := 0) dX3_about_0 rfl rfl ?_
  refine J_iconst (v := nI (0)) (pc := 1) dX3_about_1 rfl ?_
  refine J_putf (k := 0) (pc := 2) dX3_about_2 fpX3_about_34 (fun g => ⟨rfl, rfl⟩) a40 (Nat.le_of_ble_eq_true rfl) ?_
  obtain ⟨h_1, eh_1⟩ : ∃ z : MH, z = (h.1, hset h.2 (53) (oB 3 [.int (nI (0)), .int (nI (σ.1.1)), .ref (54), .ref (55), .int (nI (σ.1.2.1)), .int (nI (σ.2.1.2.1)), .int (nI (σ.2.1.2.2)), .int (nI (σ.2.1.1)), .ref (56), .ref (57), .ref (58)])) := ⟨_, rfl⟩
  refine J_heq (h2 := h_1) eh_1 ?_
  have zh_1 : h_1.1 = h.1 := by rw [eh_1]
  have H_2 : h_1.2 (53) = some (oB 3 [.int (nI (0)), .int (nI (σ.1.1)), .ref (54), .ref (55), .int (nI (σ.1.2.1)), .int (nI (σ.2.1.2.1)), .int (nI (σ.2.1.2.2)), .int (nI (σ.2.1.1)), .ref (56), .ref (57), .ref (58)]) := hs_s eh_1
  have hP1 : MP h_1 σ ρ (nI 0) := MP_53 hP eh_1
  have fm1 : FM h h_1 := FM_set eh_1 (by decide) (by decide)
  obtain ⟨a1, a2, a3, a4, ⟨mf, a5, a5b⟩, ⟨sf, a6, a6b⟩, ⟨rf, a7, a7b⟩, ⟨pf, a8, a8b⟩, ⟨lf, a9, a9b⟩, a10, a11⟩ := id hP1
  obtain ⟨o1, o2, o3, o4⟩ := id a2
  have hM := MP_MS hP1
  obtain ⟨hn, hc9, hm5, hs2⟩ := id a1
  have hp9 := pw_le hn
  refine J_aload_n (i := 0) (pc := 5) dX3_about_5 rfl rfl ?_
  refine J_iload_n (i := 1) (pc := 6) dX3_about_6 rfl rfl ?_
  refine J_cVi (st := []) (As := [.int (nI (j))]) (pc := 7) dX3_about_7 okX3_isTree q4_8 q4_10 qs2_9 (rfl : vwCl[3]? = some _) a4 rfl (Nat.le_of_ble_eq_true rfl) (Nat.le_of_ble_eq_true rfl) (m_isTreeT hP1 hj) ?_
  refine J_if_eqN (tgt := 32) (pc := 10) dX3_about_10 (by decide) (by omega) (fun c10 => by exfalso; first | omega | simp_all) (fun c10 => ?_)
  refine J_iload_n (i := 2) (pc := 13) dX3_about_13 rfl rfl ?_
  refine J_iconst (v := nI (0)) (pc := 14) dX3_about_14 rfl ?_
  refine J_bipush (v := nI (6)) (pc := 15) dX3_about_15 rfl ?_
  refine J_cSi (st := []) (As := [.int (nI (4)), .int (nI (0)), .int (nI (6))]) (pc := 17) dX3_about_17 okX3_isIn q3_166 q3_167 rfl (Nat.le_of_ble_eq_true rfl) (Nat.le_of_ble_eq_true rfl) (m_inT (by omega) (by omega) (inZ_nI (by decide) (by decide) (by decide))) ?_
  refine J_if_eqN (tgt := 32) (pc := 20) dX3_about_20 (by decide) (by omega) (fun c20 => by exfalso; first | omega | simp_all) (fun c20 => ?_)
  refine J_aload_n (i := 0) (pc := 23) dX3_about_23 rfl rfl ?_
  refine J_iload_n (i := 1) (pc := 24) dX3_about_24 rfl rfl ?_
  refine J_iload_n (i := 2) (pc := 25) dX3_about_25 rfl rfl ?_
  refine J_cVB (st := []) (As := [.int (nI (j)), .int (nI (4))]) (v := some (.int (abS σ j 4))) (ca1 := cnt σ.1.2.1) (sa1 := 3 * cnt σ.1.2.1) (ca2 := 0) (sa2 := 0) (pc := 26) dX3_about_26 okX3_treeTold q4_54 q4_56 qs2_13 (rfl : vwCl[3]? = some _) a4 rfl (Nat.le_of_ble_eq_true rfl) (Nat.le_of_ble_eq_true rfl) (m_treeTold4 (dd := dd) hP1 hj) (by omega) (by omega) (fun h_3 q_4 => ?_)
  have zh_3 := q_4.1
  have H_5 : h_3.2 (53) = some (oB 3 [.int (nI (0)), .int (nI (σ.1.1)), .ref (54), .ref (55), .int (nI (σ.1.2.1)), .int (nI (σ.2.1.2.1)), .int (nI (σ.2.1.2.2)), .int (nI (σ.2.1.1)), .ref (56), .ref (57), .ref (58)]) := (q_4.2 _ (by omega)).trans a4
  have H_6 : h_3.2 (54) = some (aI (60) (mf)) := (q_4.2 _ (by omega)).trans a5
  have H_7 : h_3.2 (55) = some (aI (20) (sf)) := (q_4.2 _ (by omega)).trans a6
  have H_8 : h_3.2 (56) = some (aG (5) (rf)) := (q_4.2 _ (by omega)).trans a7
  have H_9 : h_3.2 (57) = some (aI (5) (pf)) := (q_4.2 _ (by omega)).trans a8
  have H_10 : h_3.2 (58) = some (aI (5) (lf)) := (q_4.2 _ (by omega)).trans a9
  have H_11 : Ext h_1 h_3 := Ext_tr Ext_rfl q_4
  have H_12 : MS h_3 σ.1 := MS_ext q_4 (by omega) hM
  have H_13 : MP h_3 σ ρ (nI 0) := MP_ext q_4 hP1
  refine J_goto (tgt := 37) (pc := 29) dX3_about_29 (by decide) ?_
  refine J_iret (ty := .int) (pc := 37) dX3_about_37 rfl rfl ?_
  exact ⟨rfl, FM_tr fm1 (FM_ext (by omega) H_11), ρ, H_13⟩

set_option maxHeartbeats 2000000 in
set_option maxRecDepth 20000 in
theorem m_about5 {g : GT} {dd : Nat} {h : MH} {σ : ST} {ρ : Nat → Nat} {th : Int32} (hP : MP h σ ρ th) {j : Nat} (hj : j < σ.2.1.1) : J g (dd + 8) 0 0 mX3_about 0 (lv_args 0 [.ref (53), .int (nI (j)), .int (nI (5))]) [] h (RMo (.int (abS σ j 5)) h σ (nI 0)) := by
  have a40 := hP.2.2.2.1
  have hz0 := hP.2.2.1
  refine J_aload_n (i := 0) (pc := 0) dX3_about_0 rfl rfl ?_
  refine J_iconst (v := nI (0)) (pc := 1) dX3_about_1 rfl ?_
  refine J_putf (k := 0) (pc := 2) dX3_about_2 fpX3_about_34 (fun g => ⟨rfl, rfl⟩) a40 (Nat.le_of_ble_eq_true rfl) ?_
  obtain ⟨h_1, eh_1⟩ : ∃ z : MH, z = (h.1, hset h.2 (53) (oB 3 [.int (nI (0)), .int (nI (σ.1.1)), .ref (54), .ref (55), .int (nI (σ.1.2.1)), .int (nI (σ.2.1.2.1)), .int (nI (σ.2.1.2.2)), .int (nI (σ.2.1.1)), .ref (56), .ref (57), .ref (58)])) := ⟨_, rfl⟩
  refine J_heq (h2 := h_1) eh_1 ?_
  have zh_1 : h_1.1 = h.1 := by rw [eh_1]
  have H_2 : h_1.2 (53) = some (oB 3 [.int (nI (0)), .int (nI (σ.1.1)), .ref (54), .ref (55), .int (nI (σ.1.2.1)), .int (nI (σ.2.1.2.1)), .int (nI (σ.2.1.2.2)), .int (nI (σ.2.1.1)), .ref (56), .ref (57), .ref (58)]) := hs_s eh_1
  have hP1 : MP h_1 σ ρ (nI 0) := MP_53 hP eh_1
  have fm1 : FM h h_1 := FM_set eh_1 (by decide) (by decide)
  obtain ⟨a1, a2, a3, a4, ⟨mf, a5, a5b⟩, ⟨sf, a6, a6b⟩, ⟨rf, a7, a7b⟩, ⟨pf, a8, a8b⟩, ⟨lf, a9, a9b⟩, a10, a11⟩ := id hP1
  obtain ⟨o1, o2, o3, o4⟩ := id a2
  have hM := MP_MS hP1
  obtain ⟨hn, hc9, hm5, hs2⟩ := id a1
  have hp9 := pw_le hn
  refine J_aload_n (i := 0) (pc := 5) dX3_about_5 rfl rfl ?_
  refine J_iload_n (i := 1) (pc := 6) dX3_about_6 rfl rfl ?_
  refine J_cVi (st := []) (As := [.int (nI (j))]) (pc := 7) dX3_about_7 okX3_isTree q4_8 q4_10 qs2_9 (rfl : vwCl[3]? = some _) a4 rfl (Nat.le_of_ble_eq_true rfl) (Nat.le_of_ble_eq_true rfl) (m_isTreeT hP1 hj) ?_
  refine J_if_eqN (tgt := 32) (pc := 10) dX3_about_10 (by decide) (by omega) (fun c10 => by exfalso; first | omega | simp_all) (fun c10 => ?_)
  refine J_iload_n (i := 2) (pc := 13) dX3_about_13 rfl rfl ?_
  refine J_iconst (v := nI (0)) (pc := 14) dX3_about_14 rfl ?_
  refine J_bipush (v := nI (6)) (pc := 15) dX3_about_15 rfl ?_
  refine J_cSi (st := []) (As := [.int (nI (5)), .int (nI (0)), .int (nI (6))]) (pc := 17) dX3_about_17 okX3_isIn q3_166 q3_167 rfl (Nat.le_of_ble_eq_true rfl) (Nat.le_of_ble_eq_true rfl) (m_inT (by omega) (by omega) (inZ_nI (by decide) (by decide) (by decide))) ?_
  refine J_if_eqN (tgt := 32) (pc := 20) dX3_about_20 (by decide) (by omega) (fun c20 => by exfalso; first | omega | simp_all) (fun c20 => ?_)
  refine J_aload_n (i := 0) (pc := 23) dX3_about_23 rfl rfl ?_
  refine J_iload_n (i := 1) (pc := 24) dX3_about_24 rfl rfl ?_
  refine J_iload_n (i := 2) (pc := 25) dX3_about_25 rfl rfl ?_
  refine J_cVB (st := []) (As := [.int (nI (j)), .int (nI (5))]) (v := some (.int (abS σ j 5))) (ca1 := 0) (sa1 := 0) (ca2 := 0) (sa2 := 0) (pc := 26) dX3_about_26 okX3_treeTold q4_54 q4_56 qs2_13 (rfl : vwCl[3]? = some _) a4 rfl (Nat.le_of_ble_eq_true rfl) (Nat.le_of_ble_eq_true rfl) (m_treeTold5 (dd := dd) hP1 hj) (by omega) (by omega) (fun h_3 q_4 => ?_)
  have zh_3 := q_4.1
  have H_5 : h_3.2 (53) = some (oB 3 [.int (nI (0)), .int (nI (σ.1.1)), .ref (54), .ref (55), .int (nI (σ.1.2.1)), .int (nI (σ.2.1.2.1)), .int (nI (σ.2.1.2.2)), .int (nI (σ.2.1.1)), .ref (56), .ref (57), .ref (58)]) := (q_4.2 _ (by omega)).trans a4
  have H_6 : h_3.2 (54) = some (aI (60) (mf)) := (q_4.2 _ (by omega)).trans a5
  have H_7 : h_3.2 (55) = some (aI (20) (sf)) := (q_4.2 _ (by omega)).trans a6
  have H_8 : h_3.2 (56) = some (aG (5) (rf)) := (q_4.2 _ (by omega)).trans a7
  have H_9 : h_3.2 (57) = some (aI (5) (pf)) := (q_4.2 _ (by omega)).trans a8
  have H_10 : h_3.2 (58) = some (aI (5) (lf)) := (q_4.2 _ (by omega)).trans a9
  have H_11 : Ext h_1 h_3 := Ext_tr Ext_rfl q_4
  have H_12 : MS h_3 σ.1 := MS_ext q_4 (by omega) hM
  have H_13 : MP h_3 σ ρ (nI 0) := MP_ext q_4 hP1
  refine J_goto (tgt := 37) (pc := 29) dX3_about_29 (by decide) ?_
  refine J_iret (ty := .int) (pc := 37) dX3_about_37 rfl rfl ?_
  exact ⟨rfl, FM_tr fm1 (FM_ext (by omega) H_11), ρ, H_13⟩

set_option maxHeartbeats 2000000 in
set_option maxRecDepth 20000 in
theorem m_about6 {g : GT} {dd : Nat} {h : MH} {σ : ST} {ρ : Nat → Nat} {th : Int32} (hP : MP h σ ρ th) {j : Nat} (hj : j < σ.2.1.1) : J g (dd + 8) 0 0 mX3_about 0 (lv_args 0 [.ref (53), .int (nI (j)), .int (nI (6))]) [] h (RMo (.int (abS σ j 6)) h σ (nI 0)) := by
  have a40 := hP.2.2.2.1
  have hz0 := hP.2.2.1
  refine J_aload_n (i := 0) (pc := 0) dX3_about_0 rfl rfl ?_
  refine J_iconst (v := nI (0)) (pc := 1) dX3_about_1 rfl ?_
  refine J_putf (k := 0) (pc := 2) dX3_about_2 fpX3_about_34 (fun g => ⟨rfl, rfl⟩) a40 (Nat.le_of_ble_eq_true rfl) ?_
  obtain ⟨h_1, eh_1⟩ : ∃ z : MH, z = (h.1, hset h.2 (53) (oB 3 [.int (nI (0)), .int (nI (σ.1.1)), .ref (54), .ref (55), .int (nI (σ.1.2.1)), .int (nI (σ.2.1.2.1)), .int (nI (σ.2.1.2.2)), .int (nI (σ.2.1.1)), .ref (56), .ref (57), .ref (58)])) := ⟨_, rfl⟩
  refine J_heq (h2 := h_1) eh_1 ?_
  have zh_1 : h_1.1 = h.1 := by rw [eh_1]
  have H_2 : h_1.2 (53) = some (oB 3 [.int (nI (0)), .int (nI (σ.1.1)), .ref (54), .ref (55), .int (nI (σ.1.2.1)), .int (nI (σ.2.1.2.1)), .int (nI (σ.2.1.2.2)), .int (nI (σ.2.1.1)), .ref (56), .ref (57), .ref (58)]) := hs_s eh_1
  have hP1 : MP h_1 σ ρ (nI 0) := MP_53 hP eh_1
  have fm1 : FM h h_1 := FM_set eh_1 (by decide) (by decide)
  obtain ⟨a1, a2, a3, a4, ⟨mf, a5, a5b⟩, ⟨sf, a6, a6b⟩, ⟨rf, a7, a7b⟩, ⟨pf, a8, a8b⟩, ⟨lf, a9, a9b⟩, a10, a11⟩ := id hP1
  obtain ⟨o1, o2, o3, o4⟩ := id a2
  have hM := MP_MS hP1
  obtain ⟨hn, hc9, hm5, hs2⟩ := id a1
  have hp9 := pw_le hn
  refine J_aload_n (i := 0) (pc := 5) dX3_about_5 rfl rfl ?_
  refine J_iload_n (i := 1) (pc := 6) dX3_about_6 rfl rfl ?_
  refine J_cVi (st := []) (As := [.int (nI (j))]) (pc := 7) dX3_about_7 okX3_isTree q4_8 q4_10 qs2_9 (rfl : vwCl[3]? = some _) a4 rfl (Nat.le_of_ble_eq_true rfl) (Nat.le_of_ble_eq_true rfl) (m_isTreeT hP1 hj) ?_
  refine J_if_eqN (tgt := 32) (pc := 10) dX3_about_10 (by decide) (by omega) (fun c10 => by exfalso; first | omega | simp_all) (fun c10 => ?_)
  refine J_iload_n (i := 2) (pc := 13) dX3_about_13 rfl rfl ?_
  refine J_iconst (v := nI (0)) (pc := 14) dX3_about_14 rfl ?_
  refine J_bipush (v := nI (6)) (pc := 15) dX3_about_15 rfl ?_
  refine J_cSi (st := []) (As := [.int (nI (6)), .int (nI (0)), .int (nI (6))]) (pc := 17) dX3_about_17 okX3_isIn q3_166 q3_167 rfl (Nat.le_of_ble_eq_true rfl) (Nat.le_of_ble_eq_true rfl) (m_inT (by omega) (by omega) (inZ_nI (by decide) (by decide) (by decide))) ?_
  refine J_if_eqN (tgt := 32) (pc := 20) dX3_about_20 (by decide) (by omega) (fun c20 => by exfalso; first | omega | simp_all) (fun c20 => ?_)
  refine J_aload_n (i := 0) (pc := 23) dX3_about_23 rfl rfl ?_
  refine J_iload_n (i := 1) (pc := 24) dX3_about_24 rfl rfl ?_
  refine J_iload_n (i := 2) (pc := 25) dX3_about_25 rfl rfl ?_
  refine J_cVB (st := []) (As := [.int (nI (j)), .int (nI (6))]) (v := some (.int (abS σ j 6))) (ca1 := 0) (sa1 := 0) (ca2 := 0) (sa2 := 0) (pc := 26) dX3_about_26 okX3_treeTold q4_54 q4_56 qs2_13 (rfl : vwCl[3]? = some _) a4 rfl (Nat.le_of_ble_eq_true rfl) (Nat.le_of_ble_eq_true rfl) (m_treeTold6 (dd := dd) hP1 hj) (by omega) (by omega) (fun h_3 q_4 => ?_)
  have zh_3 := q_4.1
  have H_5 : h_3.2 (53) = some (oB 3 [.int (nI (0)), .int (nI (σ.1.1)), .ref (54), .ref (55), .int (nI (σ.1.2.1)), .int (nI (σ.2.1.2.1)), .int (nI (σ.2.1.2.2)), .int (nI (σ.2.1.1)), .ref (56), .ref (57), .ref (58)]) := (q_4.2 _ (by omega)).trans a4
  have H_6 : h_3.2 (54) = some (aI (60) (mf)) := (q_4.2 _ (by omega)).trans a5
  have H_7 : h_3.2 (55) = some (aI (20) (sf)) := (q_4.2 _ (by omega)).trans a6
  have H_8 : h_3.2 (56) = some (aG (5) (rf)) := (q_4.2 _ (by omega)).trans a7
  have H_9 : h_3.2 (57) = some (aI (5) (pf)) := (q_4.2 _ (by omega)).trans a8
  have H_10 : h_3.2 (58) = some (aI (5) (lf)) := (q_4.2 _ (by omega)).trans a9
  have H_11 : Ext h_1 h_3 := Ext_tr Ext_rfl q_4
  have H_12 : MS h_3 σ.1 := MS_ext q_4 (by omega) hM
  have H_13 : MP h_3 σ ρ (nI 0) := MP_ext q_4 hP1
  refine J_goto (tgt := 37) (pc := 29) dX3_about_29 (by decide) ?_
  refine J_iret (ty := .int) (pc := 37) dX3_about_37 rfl rfl ?_
  exact ⟨rfl, FM_tr fm1 (FM_ext (by omega) H_11), ρ, H_13⟩

set_option maxHeartbeats 2000000 in
set_option maxRecDepth 20000 in
theorem m_aboutX1 {g : GT} {dd : Nat} {h : MH} {σ : ST} {ρ : Nat → Nat} {th : Int32} (hP : MP h σ ρ th) {x what : Int32} (hx : ¬ (0 ≤ x.toInt ∧ x.toInt < (σ.2.1.1 : Int))) : J g (dd + 8) 0 0 mX3_about 0 (lv_args 0 [.ref (53), .int (x), .int (what)]) [] h (RMo (.int (nI 0)) h σ (nI 1)) := by
  have a40 := hP.2.2.2.1
  have hz0 := hP.2.2.1
  refine J_aload_n (i := 0) (pc := 0) dX3_about_0 rfl rfl ?_
  refine J_iconst (v := nI (0)) (pc := 1) dX3_about_1 rfl ?_
  refine J_putf (k := 0) (pc := 2) dX3_about_2 fpX3_about_34 (fun g => ⟨rfl, rfl⟩) a40 (Nat.le_of_ble_eq_true rfl) ?_
  obtain ⟨h_1, eh_1⟩ : ∃ z : MH, z = (h.1, hset h.2 (53) (oB 3 [.int (nI (0)), .int (nI (σ.1.1)), .ref (54), .ref (55), .int (nI (σ.1.2.1)), .int (nI (σ.2.1.2.1)), .int (nI (σ.2.1.2.2)), .int (nI (σ.2.1.1)), .ref (56), .ref (57), .ref (58)])) := ⟨_, rfl⟩
  refine J_heq (h2 := h_1) eh_1 ?_
  have zh_1 : h_1.1 = h.1 := by rw [eh_1]
  have H_2 : h_1.2 (53) = some (oB 3 [.int (nI (0)), .int (nI (σ.1.1)), .ref (54), .ref (55), .int (nI (σ.1.2.1)), .int (nI (σ.2.1.2.1)), .int (nI (σ.2.1.2.2)), .int (nI (σ.2.1.1)), .ref (56), .ref (57), .ref (58)]) := hs_s eh_1
  have hP1 : MP h_1 σ ρ (nI 0) := MP_53 hP eh_1
  have fm1 : FM h h_1 := FM_set eh_1 (by decide) (by decide)
  obtain ⟨a1, a2, a3, a4, ⟨mf, a5, a5b⟩, ⟨sf, a6, a6b⟩, ⟨rf, a7, a7b⟩, ⟨pf, a8, a8b⟩, ⟨lf, a9, a9b⟩, a10, a11⟩ := id hP1
  obtain ⟨o1, o2, o3, o4⟩ := id a2
  have hM := MP_MS hP1
  obtain ⟨hn, hc9, hm5, hs2⟩ := id a1
  have hp9 := pw_le hn
  refine J_aload_n (i := 0) (pc := 5) dX3_about_5 rfl rfl ?_
  refine J_iload_n (i := 1) (pc := 6) dX3_about_6 rfl rfl ?_
  refine J_cVi (st := []) (As := [.int (x)]) (pc := 7) dX3_about_7 okX3_isTree q4_8 q4_10 qs2_9 (rfl : vwCl[3]? = some _) a4 rfl (Nat.le_of_ble_eq_true rfl) (Nat.le_of_ble_eq_true rfl) (m_isTreeF hP1 hx) ?_
  refine J_if_eqN (tgt := 32) (pc := 10) dX3_about_10 (by decide) (by omega) (fun c10 => ?_) (fun c10 => by exfalso; first | omega | simp_all)
  refine J_aload_n (i := 0) (pc := 32) dX3_about_32 rfl rfl ?_
  refine J_iconst (v := nI (1)) (pc := 33) dX3_about_33 rfl ?_
  refine J_cVh (st := []) (As := [.int (nI (1))]) (pc := 34) dX3_about_34 okX3_no q3_169 q3_171 qs1_13 (rfl : vwCl[3]? = some _) a4 rfl (Nat.le_of_ble_eq_true rfl) (Nat.le_of_ble_eq_true rfl) (m_no hP1) (fun h_3 q_4 => ?_)
  refine J_iret (ty := .int) (pc := 37) dX3_about_37 rfl rfl ?_
  exact ⟨rfl, FM_tr fm1 (FM_tr (FM_ext (by omega) Ext_rfl) q_4.1), ρ, q_4.2⟩

set_option maxHeartbeats 2000000 in
set_option maxRecDepth 20000 in
theorem m_aboutX2 {g : GT} {dd : Nat} {h : MH} {σ : ST} {ρ : Nat → Nat} {th : Int32} (hP : MP h σ ρ th) {j : Nat} {what : Int32} (hj : j < σ.2.1.1) (hw : ¬ inZ 0 6 what) : J g (dd + 8) 0 0 mX3_about 0 (lv_args 0 [.ref (53), .int (nI (j)), .int (what)]) [] h (RMo (.int (nI 0)) h σ (nI 1)) := by
  have a40 := hP.2.2.2.1
  have hz0 := hP.2.2.1
  refine J_aload_n (i := 0) (pc := 0) dX3_about_0 rfl rfl ?_
  refine J_iconst (v := nI (0)) (pc := 1) dX3_about_1 rfl ?_
  refine J_putf (k := 0) (pc := 2) dX3_about_2 fpX3_about_34 (fun g => ⟨rfl, rfl⟩) a40 (Nat.le_of_ble_eq_true rfl) ?_
  obtain ⟨h_1, eh_1⟩ : ∃ z : MH, z = (h.1, hset h.2 (53) (oB 3 [.int (nI (0)), .int (nI (σ.1.1)), .ref (54), .ref (55), .int (nI (σ.1.2.1)), .int (nI (σ.2.1.2.1)), .int (nI (σ.2.1.2.2)), .int (nI (σ.2.1.1)), .ref (56), .ref (57), .ref (58)])) := ⟨_, rfl⟩
  refine J_heq (h2 := h_1) eh_1 ?_
  have zh_1 : h_1.1 = h.1 := by rw [eh_1]
  have H_2 : h_1.2 (53) = some (oB 3 [.int (nI (0)), .int (nI (σ.1.1)), .ref (54), .ref (55), .int (nI (σ.1.2.1)), .int (nI (σ.2.1.2.1)), .int (nI (σ.2.1.2.2)), .int (nI (σ.2.1.1)), .ref (56), .ref (57), .ref (58)]) := hs_s eh_1
  have hP1 : MP h_1 σ ρ (nI 0) := MP_53 hP eh_1
  have fm1 : FM h h_1 := FM_set eh_1 (by decide) (by decide)
  obtain ⟨a1, a2, a3, a4, ⟨mf, a5, a5b⟩, ⟨sf, a6, a6b⟩, ⟨rf, a7, a7b⟩, ⟨pf, a8, a8b⟩, ⟨lf, a9, a9b⟩, a10, a11⟩ := id hP1
  obtain ⟨o1, o2, o3, o4⟩ := id a2
  have hM := MP_MS hP1
  obtain ⟨hn, hc9, hm5, hs2⟩ := id a1
  have hp9 := pw_le hn
  refine J_aload_n (i := 0) (pc := 5) dX3_about_5 rfl rfl ?_
  refine J_iload_n (i := 1) (pc := 6) dX3_about_6 rfl rfl ?_
  refine J_cVi (st := []) (As := [.int (nI (j))]) (pc := 7) dX3_about_7 okX3_isTree q4_8 q4_10 qs2_9 (rfl : vwCl[3]? = some _) a4 rfl (Nat.le_of_ble_eq_true rfl) (Nat.le_of_ble_eq_true rfl) (m_isTreeT hP1 hj) ?_
  refine J_if_eqN (tgt := 32) (pc := 10) dX3_about_10 (by decide) (by omega) (fun c10 => by exfalso; first | omega | simp_all) (fun c10 => ?_)
  refine J_iload_n (i := 2) (pc := 13) dX3_about_13 rfl rfl ?_
  refine J_iconst (v := nI (0)) (pc := 14) dX3_about_14 rfl ?_
  refine J_bipush (v := nI (6)) (pc := 15) dX3_about_15 rfl ?_
  refine J_cSi (st := []) (As := [.int (what), .int (nI (0)), .int (nI (6))]) (pc := 17) dX3_about_17 okX3_isIn q3_166 q3_167 rfl (Nat.le_of_ble_eq_true rfl) (Nat.le_of_ble_eq_true rfl) (m_inF (by omega) (by omega) (hw)) ?_
  refine J_if_eqN (tgt := 32) (pc := 20) dX3_about_20 (by decide) (by omega) (fun c20 => ?_) (fun c20 => by exfalso; first | omega | simp_all)
  refine J_aload_n (i := 0) (pc := 32) dX3_about_32 rfl rfl ?_
  refine J_iconst (v := nI (1)) (pc := 33) dX3_about_33 rfl ?_
  refine J_cVh (st := []) (As := [.int (nI (1))]) (pc := 34) dX3_about_34 okX3_no q3_169 q3_171 qs1_13 (rfl : vwCl[3]? = some _) a4 rfl (Nat.le_of_ble_eq_true rfl) (Nat.le_of_ble_eq_true rfl) (m_no hP1) (fun h_3 q_4 => ?_)
  refine J_iret (ty := .int) (pc := 37) dX3_about_37 rfl rfl ?_
  exact ⟨rfl, FM_tr fm1 (FM_tr (FM_ext (by omega) Ext_rfl) q_4.1), ρ, q_4.2⟩

set_option maxHeartbeats 2000000 in
set_option maxRecDepth 20000 in
theorem m_told0 {g : GT} {dd : Nat} {h : MH} {σ : ST} {ρ : Nat → Nat} {th : Int32} (hP : MP h σ ρ th) {k : Nat} (hk : k < σ.1.1) : J g (dd + 2) 0 0 mX3_told 0 (lv_args 0 [.ref (53), .int (nI (k)), .int (nI (0))]) [] h (RMo (.int (nI (toS σ k 0))) h σ (nI 0)) := by
  have a40 := hP.2.2.2.1
  have hz0 := hP.2.2.1
  refine J_aload_n (i := 0) (pc := 0) dX3_told_0 rfl rfl ?_
  refine J_iconst (v := nI (0)) (pc := 1) dX3_told_1 rfl ?_
  refine J_putf (k := 0) (pc := 2) dX3_told_2 fpX3_told_34 (fun g => ⟨rfl, rfl⟩) a40 (Nat.le_of_ble_eq_true rfl) ?_
  obtain ⟨h_1, eh_1⟩ : ∃ z : MH, z = (h.1, hset h.2 (53) (oB 3 [.int (nI (0)), .int (nI (σ.1.1)), .ref (54), .ref (55), .int (nI (σ.1.2.1)), .int (nI (σ.2.1.2.1)), .int (nI (σ.2.1.2.2)), .int (nI (σ.2.1.1)), .ref (56), .ref (57), .ref (58)])) := ⟨_, rfl⟩
  refine J_heq (h2 := h_1) eh_1 ?_
  have zh_1 : h_1.1 = h.1 := by rw [eh_1]
  have H_2 : h_1.2 (53) = some (oB 3 [.int (nI (0)), .int (nI (σ.1.1)), .ref (54), .ref (55), .int (nI (σ.1.2.1)), .int (nI (σ.2.1.2.1)), .int (nI (σ.2.1.2.2)), .int (nI (σ.2.1.1)), .ref (56), .ref (57), .ref (58)]) := hs_s eh_1
  have hP1 : MP h_1 σ ρ (nI 0) := MP_53 hP eh_1
  have fm1 : FM h h_1 := FM_set eh_1 (by decide) (by decide)
  obtain ⟨a1, a2, a3, a4, ⟨mf, a5, a5b⟩, ⟨sf, a6, a6b⟩, ⟨rf, a7, a7b⟩, ⟨pf, a8, a8b⟩, ⟨lf, a9, a9b⟩, a10, a11⟩ := id hP1
  obtain ⟨o1, o2, o3, o4⟩ := id a2
  have hM := MP_MS hP1
  obtain ⟨hn, hc9, hm5, hs2⟩ := id a1
  have hp9 := pw_le hn
  refine J_iload_n (i := 1) (pc := 5) dX3_told_5 rfl rfl ?_
  refine J_iconst (v := nI (0)) (pc := 6) dX3_told_6 rfl ?_
  refine J_aload_n (i := 0) (pc := 7) dX3_told_7 rfl rfl ?_
  refine J_getf (k := 1) (pc := 8) dX3_told_8 flX3_44 a4 rfl ?_
  refine J_iconst (v := nI (1)) (pc := 11) dX3_told_11 rfl ?_
  refine J_isub (pc := 12) dX3_told_12 ?_
  refine J_cSi (st := []) (As := [.int (nI (k)), .int (nI (0)), .int (nI (σ.1.1) - nI (1))]) (pc := 13) dX3_told_13 okX3_isIn q3_166 q3_167 rfl (Nat.le_of_ble_eq_true rfl) (Nat.le_of_ble_eq_true rfl) (m_isInT ⟨by rw [nI_toInt (by omega), nI_toInt (by omega)]; omega, by rw [pk_sub (by omega), nI_toInt (by omega), nI_toInt (by omega)]; omega⟩) ?_
  refine J_if_eqN (tgt := 37) (pc := 16) dX3_told_16 (by decide) (by omega) (fun c16 => by exfalso; first | omega | simp_all) (fun c16 => ?_)
  refine J_iload_n (i := 2) (pc := 19) dX3_told_19 rfl rfl ?_
  refine J_iconst (v := nI (0)) (pc := 20) dX3_told_20 rfl ?_
  refine J_iconst (v := nI (4)) (pc := 21) dX3_told_21 rfl ?_
  refine J_cSi (st := []) (As := [.int (nI (0)), .int (nI (0)), .int (nI (4))]) (pc := 22) dX3_told_22 okX3_isIn q3_166 q3_167 rfl (Nat.le_of_ble_eq_true rfl) (Nat.le_of_ble_eq_true rfl) (m_inT (by omega) (by omega) (inZ_nI (by decide) (by decide) (by decide))) ?_
  refine J_if_eqN (tgt := 37) (pc := 25) dX3_told_25 (by decide) (by omega) (fun c25 => by exfalso; first | omega | simp_all) (fun c25 => ?_)
  refine J_aload_n (i := 0) (pc := 28) dX3_told_28 rfl rfl ?_
  refine J_iload_n (i := 1) (pc := 29) dX3_told_29 rfl rfl ?_
  refine J_iload_n (i := 2) (pc := 30) dX3_told_30 rfl rfl ?_
  refine J_cVi (st := []) (As := [.int (nI (k)), .int (nI (0))]) (pc := 31) dX3_told_31 okX3_beanTold q4_69 q4_71 qs2_14 (rfl : vwCl[3]? = some _) a4 rfl (Nat.le_of_ble_eq_true rfl) (Nat.le_of_ble_eq_true rfl) (m_beanTold0 (dd := dd) hP1 hk) ?_
  refine J_goto (tgt := 42) (pc := 34) dX3_told_34 (by decide) ?_
  refine J_iret (ty := .int) (pc := 42) dX3_told_42 rfl rfl ?_
  exact ⟨rfl, FM_tr fm1 (FM_ext (by omega) Ext_rfl), ρ, hP1⟩

set_option maxHeartbeats 2000000 in
set_option maxRecDepth 20000 in
theorem m_told1 {g : GT} {dd : Nat} {h : MH} {σ : ST} {ρ : Nat → Nat} {th : Int32} (hP : MP h σ ρ th) {k : Nat} (hk : k < σ.1.1) : J g (dd + 2) 0 0 mX3_told 0 (lv_args 0 [.ref (53), .int (nI (k)), .int (nI (1))]) [] h (RMo (.int (nI (toS σ k 1))) h σ (nI 0)) := by
  have a40 := hP.2.2.2.1
  have hz0 := hP.2.2.1
  refine J_aload_n (i := 0) (pc := 0) dX3_told_0 rfl rfl ?_
  refine J_iconst (v := nI (0)) (pc := 1) dX3_told_1 rfl ?_
  refine J_putf (k := 0) (pc := 2) dX3_told_2 fpX3_told_34 (fun g => ⟨rfl, rfl⟩) a40 (Nat.le_of_ble_eq_true rfl) ?_
  obtain ⟨h_1, eh_1⟩ : ∃ z : MH, z = (h.1, hset h.2 (53) (oB 3 [.int (nI (0)), .int (nI (σ.1.1)), .ref (54), .ref (55), .int (nI (σ.1.2.1)), .int (nI (σ.2.1.2.1)), .int (nI (σ.2.1.2.2)), .int (nI (σ.2.1.1)), .ref (56), .ref (57), .ref (58)])) := ⟨_, rfl⟩
  refine J_heq (h2 := h_1) eh_1 ?_
  have zh_1 : h_1.1 = h.1 := by rw [eh_1]
  have H_2 : h_1.2 (53) = some (oB 3 [.int (nI (0)), .int (nI (σ.1.1)), .ref (54), .ref (55), .int (nI (σ.1.2.1)), .int (nI (σ.2.1.2.1)), .int (nI (σ.2.1.2.2)), .int (nI (σ.2.1.1)), .ref (56), .ref (57), .ref (58)]) := hs_s eh_1
  have hP1 : MP h_1 σ ρ (nI 0) := MP_53 hP eh_1
  have fm1 : FM h h_1 := FM_set eh_1 (by decide) (by decide)
  obtain ⟨a1, a2, a3, a4, ⟨mf, a5, a5b⟩, ⟨sf, a6, a6b⟩, ⟨rf, a7, a7b⟩, ⟨pf, a8, a8b⟩, ⟨lf, a9, a9b⟩, a10, a11⟩ := id hP1
  obtain ⟨o1, o2, o3, o4⟩ := id a2
  have hM := MP_MS hP1
  obtain ⟨hn, hc9, hm5, hs2⟩ := id a1
  have hp9 := pw_le hn
  refine J_iload_n (i := 1) (pc := 5) dX3_told_5 rfl rfl ?_
  refine J_iconst (v := nI (0)) (pc := 6) dX3_told_6 rfl ?_
  refine J_aload_n (i := 0) (pc := 7) dX3_told_7 rfl rfl ?_
  refine J_getf (k := 1) (pc := 8) dX3_told_8 flX3_44 a4 rfl ?_
  refine J_iconst (v := nI (1)) (pc := 11) dX3_told_11 rfl ?_
  refine J_isub (pc := 12) dX3_told_12 ?_
  refine J_cSi (st := []) (As := [.int (nI (k)), .int (nI (0)), .int (nI (σ.1.1) - nI (1))]) (pc := 13) dX3_told_13 okX3_isIn q3_166 q3_167 rfl (Nat.le_of_ble_eq_true rfl) (Nat.le_of_ble_eq_true rfl) (m_isInT ⟨by rw [nI_toInt (by omega), nI_toInt (by omega)]; omega, by rw [pk_sub (by omega), nI_toInt (by omega), nI_toInt (by omega)]; omega⟩) ?_
  refine J_if_eqN (tgt := 37) (pc := 16) dX3_told_16 (by decide) (by omega) (fun c16 => by exfalso; first | omega | simp_all) (fun c16 => ?_)
  refine J_iload_n (i := 2) (pc := 19) dX3_told_19 rfl rfl ?_
  refine J_iconst (v := nI (0)) (pc := 20) dX3_told_20 rfl ?_
  refine J_iconst (v := nI (4)) (pc := 21) dX3_told_21 rfl ?_
  refine J_cSi (st := []) (As := [.int (nI (1)), .int (nI (0)), .int (nI (4))]) (pc := 22) dX3_told_22 okX3_isIn q3_166 q3_167 rfl (Nat.le_of_ble_eq_true rfl) (Nat.le_of_ble_eq_true rfl) (m_inT (by omega) (by omega) (inZ_nI (by decide) (by decide) (by decide))) ?_
  refine J_if_eqN (tgt := 37) (pc := 25) dX3_told_25 (by decide) (by omega) (fun c25 => by exfalso; first | omega | simp_all) (fun c25 => ?_)
  refine J_aload_n (i := 0) (pc := 28) dX3_told_28 rfl rfl ?_
  refine J_iload_n (i := 1) (pc := 29) dX3_told_29 rfl rfl ?_
  refine J_iload_n (i := 2) (pc := 30) dX3_told_30 rfl rfl ?_
  refine J_cVi (st := []) (As := [.int (nI (k)), .int (nI (1))]) (pc := 31) dX3_told_31 okX3_beanTold q4_69 q4_71 qs2_14 (rfl : vwCl[3]? = some _) a4 rfl (Nat.le_of_ble_eq_true rfl) (Nat.le_of_ble_eq_true rfl) (m_beanTold1 (dd := dd) hP1 hk) ?_
  refine J_goto (tgt := 42) (pc := 34) dX3_told_34 (by decide) ?_
  refine J_iret (ty := .int) (pc := 42) dX3_told_42 rfl rfl ?_
  exact ⟨rfl, FM_tr fm1 (FM_ext (by omega) Ext_rfl), ρ, hP1⟩

set_option maxHeartbeats 2000000 in
set_option maxRecDepth 20000 in
theorem m_told2 {g : GT} {dd : Nat} {h : MH} {σ : ST} {ρ : Nat → Nat} {th : Int32} (hP : MP h σ ρ th) {k : Nat} (hk : k < σ.1.1) : J g (dd + 2) 0 0 mX3_told 0 (lv_args 0 [.ref (53), .int (nI (k)), .int (nI (2))]) [] h (RMo (.int (nI (toS σ k 2))) h σ (nI 0)) := by
  have a40 := hP.2.2.2.1
  have hz0 := hP.2.2.1
  refine J_aload_n (i := 0) (pc := 0) dX3_told_0 rfl rfl ?_
  refine J_iconst (v := nI (0)) (pc := 1) dX3_told_1 rfl ?_
  refine J_putf (k := 0) (pc := 2) dX3_told_2 fpX3_told_34 (fun g => ⟨rfl, rfl⟩) a40 (Nat.le_of_ble_eq_true rfl) ?_
  obtain ⟨h_1, eh_1⟩ : ∃ z : MH, z = (h.1, hset h.2 (53) (oB 3 [.int (nI (0)), .int (nI (σ.1.1)), .ref (54), .ref (55), .int (nI (σ.1.2.1)), .int (nI (σ.2.1.2.1)), .int (nI (σ.2.1.2.2)), .int (nI (σ.2.1.1)), .ref (56), .ref (57), .ref (58)])) := ⟨_, rfl⟩
  refine J_heq (h2 := h_1) eh_1 ?_
  have zh_1 : h_1.1 = h.1 := by rw [eh_1]
  have H_2 : h_1.2 (53) = some (oB 3 [.int (nI (0)), .int (nI (σ.1.1)), .ref (54), .ref (55), .int (nI (σ.1.2.1)), .int (nI (σ.2.1.2.1)), .int (nI (σ.2.1.2.2)), .int (nI (σ.2.1.1)), .ref (56), .ref (57), .ref (58)]) := hs_s eh_1
  have hP1 : MP h_1 σ ρ (nI 0) := MP_53 hP eh_1
  have fm1 : FM h h_1 := FM_set eh_1 (by decide) (by decide)
  obtain ⟨a1, a2, a3, a4, ⟨mf, a5, a5b⟩, ⟨sf, a6, a6b⟩, ⟨rf, a7, a7b⟩, ⟨pf, a8, a8b⟩, ⟨lf, a9, a9b⟩, a10, a11⟩ := id hP1
  obtain ⟨o1, o2, o3, o4⟩ := id a2
  have hM := MP_MS hP1
  obtain ⟨hn, hc9, hm5, hs2⟩ := id a1
  have hp9 := pw_le hn
  refine J_iload_n (i := 1) (pc := 5) dX3_told_5 rfl rfl ?_
  refine J_iconst (v := nI (0)) (pc := 6) dX3_told_6 rfl ?_
  refine J_aload_n (i := 0) (pc := 7) dX3_told_7 rfl rfl ?_
  refine J_getf (k := 1) (pc := 8) dX3_told_8 flX3_44 a4 rfl ?_
  refine J_iconst (v := nI (1)) (pc := 11) dX3_told_11 rfl ?_
  refine J_isub (pc := 12) dX3_told_12 ?_
  refine J_cSi (st := []) (As := [.int (nI (k)), .int (nI (0)), .int (nI (σ.1.1) - nI (1))]) (pc := 13) dX3_told_13 okX3_isIn q3_166 q3_167 rfl (Nat.le_of_ble_eq_true rfl) (Nat.le_of_ble_eq_true rfl) (m_isInT ⟨by rw [nI_toInt (by omega), nI_toInt (by omega)]; omega, by rw [pk_sub (by omega), nI_toInt (by omega), nI_toInt (by omega)]; omega⟩) ?_
  refine J_if_eqN (tgt := 37) (pc := 16) dX3_told_16 (by decide) (by omega) (fun c16 => by exfalso; first | omega | simp_all) (fun c16 => ?_)
  refine J_iload_n (i := 2) (pc := 19) dX3_told_19 rfl rfl ?_
  refine J_iconst (v := nI (0)) (pc := 20) dX3_told_20 rfl ?_
  refine J_iconst (v := nI (4)) (pc := 21) dX3_told_21 rfl ?_
  refine J_cSi (st := []) (As := [.int (nI (2)), .int (nI (0)), .int (nI (4))]) (pc := 22) dX3_told_22 okX3_isIn q3_166 q3_167 rfl (Nat.le_of_ble_eq_true rfl) (Nat.le_of_ble_eq_true rfl) (m_inT (by omega) (by omega) (inZ_nI (by decide) (by decide) (by decide))) ?_
  refine J_if_eqN (tgt := 37) (pc := 25) dX3_told_25 (by decide) (by omega) (fun c25 => by exfalso; first | omega | simp_all) (fun c25 => ?_)
  refine J_aload_n (i := 0) (pc := 28) dX3_told_28 rfl rfl ?_
  refine J_iload_n (i := 1) (pc := 29) dX3_told_29 rfl rfl ?_
  refine J_iload_n (i := 2) (pc := 30) dX3_told_30 rfl rfl ?_
  refine J_cVi (st := []) (As := [.int (nI (k)), .int (nI (2))]) (pc := 31) dX3_told_31 okX3_beanTold q4_69 q4_71 qs2_14 (rfl : vwCl[3]? = some _) a4 rfl (Nat.le_of_ble_eq_true rfl) (Nat.le_of_ble_eq_true rfl) (m_beanTold2 (dd := dd) hP1 hk) ?_
  refine J_goto (tgt := 42) (pc := 34) dX3_told_34 (by decide) ?_
  refine J_iret (ty := .int) (pc := 42) dX3_told_42 rfl rfl ?_
  exact ⟨rfl, FM_tr fm1 (FM_ext (by omega) Ext_rfl), ρ, hP1⟩

set_option maxHeartbeats 2000000 in
set_option maxRecDepth 20000 in
theorem m_told3 {g : GT} {dd : Nat} {h : MH} {σ : ST} {ρ : Nat → Nat} {th : Int32} (hP : MP h σ ρ th) {k : Nat} (hk : k < σ.1.1) : J g (dd + 2) 0 0 mX3_told 0 (lv_args 0 [.ref (53), .int (nI (k)), .int (nI (3))]) [] h (RMo (.int (nI (toS σ k 3))) h σ (nI 0)) := by
  have a40 := hP.2.2.2.1
  have hz0 := hP.2.2.1
  refine J_aload_n (i := 0) (pc := 0) dX3_told_0 rfl rfl ?_
  refine J_iconst (v := nI (0)) (pc := 1) dX3_told_1 rfl ?_
  refine J_putf (k := 0) (pc := 2) dX3_told_2 fpX3_told_34 (fun g => ⟨rfl, rfl⟩) a40 (Nat.le_of_ble_eq_true rfl) ?_
  obtain ⟨h_1, eh_1⟩ : ∃ z : MH, z = (h.1, hset h.2 (53) (oB 3 [.int (nI (0)), .int (nI (σ.1.1)), .ref (54), .ref (55), .int (nI (σ.1.2.1)), .int (nI (σ.2.1.2.1)), .int (nI (σ.2.1.2.2)), .int (nI (σ.2.1.1)), .ref (56), .ref (57), .ref (58)])) := ⟨_, rfl⟩
  refine J_heq (h2 := h_1) eh_1 ?_
  have zh_1 : h_1.1 = h.1 := by rw [eh_1]
  have H_2 : h_1.2 (53) = some (oB 3 [.int (nI (0)), .int (nI (σ.1.1)), .ref (54), .ref (55), .int (nI (σ.1.2.1)), .int (nI (σ.2.1.2.1)), .int (nI (σ.2.1.2.2)), .int (nI (σ.2.1.1)), .ref (56), .ref (57), .ref (58)]) := hs_s eh_1
  have hP1 : MP h_1 σ ρ (nI 0) := MP_53 hP eh_1
  have fm1 : FM h h_1 := FM_set eh_1 (by decide) (by decide)
  obtain ⟨a1, a2, a3, a4, ⟨mf, a5, a5b⟩, ⟨sf, a6, a6b⟩, ⟨rf, a7, a7b⟩, ⟨pf, a8, a8b⟩, ⟨lf, a9, a9b⟩, a10, a11⟩ := id hP1
  obtain ⟨o1, o2, o3, o4⟩ := id a2
  have hM := MP_MS hP1
  obtain ⟨hn, hc9, hm5, hs2⟩ := id a1
  have hp9 := pw_le hn
  refine J_iload_n (i := 1) (pc := 5) dX3_told_5 rfl rfl ?_
  refine J_iconst (v := nI (0)) (pc := 6) dX3_told_6 rfl ?_
  refine J_aload_n (i := 0) (pc := 7) dX3_told_7 rfl rfl ?_
  refine J_getf (k := 1) (pc := 8) dX3_told_8 flX3_44 a4 rfl ?_
  refine J_iconst (v := nI (1)) (pc := 11) dX3_told_11 rfl ?_
  refine J_isub (pc := 12) dX3_told_12 ?_
  refine J_cSi (st := []) (As := [.int (nI (k)), .int (nI (0)), .int (nI (σ.1.1) - nI (1))]) (pc := 13) dX3_told_13 okX3_isIn q3_166 q3_167 rfl (Nat.le_of_ble_eq_true rfl) (Nat.le_of_ble_eq_true rfl) (m_isInT ⟨by rw [nI_toInt (by omega), nI_toInt (by omega)]; omega, by rw [pk_sub (by omega), nI_toInt (by omega), nI_toInt (by omega)]; omega⟩) ?_
  refine J_if_eqN (tgt := 37) (pc := 16) dX3_told_16 (by decide) (by omega) (fun c16 => by exfalso; first | omega | simp_all) (fun c16 => ?_)
  refine J_iload_n (i := 2) (pc := 19) dX3_told_19 rfl rfl ?_
  refine J_iconst (v := nI (0)) (pc := 20) dX3_told_20 rfl ?_
  refine J_iconst (v := nI (4)) (pc := 21) dX3_told_21 rfl ?_
  refine J_cSi (st := []) (As := [.int (nI (3)), .int (nI (0)), .int (nI (4))]) (pc := 22) dX3_told_22 okX3_isIn q3_166 q3_167 rfl (Nat.le_of_ble_eq_true rfl) (Nat.le_of_ble_eq_true rfl) (m_inT (by omega) (by omega) (inZ_nI (by decide) (by decide) (by decide))) ?_
  refine J_if_eqN (tgt := 37) (pc := 25) dX3_told_25 (by decide) (by omega) (fun c25 => by exfalso; first | omega | simp_all) (fun c25 => ?_)
  refine J_aload_n (i := 0) (pc := 28) dX3_told_28 rfl rfl ?_
  refine J_iload_n (i := 1) (pc := 29) dX3_told_29 rfl rfl ?_
  refine J_iload_n (i := 2) (pc := 30) dX3_told_30 rfl rfl ?_
  refine J_cVi (st := []) (As := [.int (nI (k)), .int (nI (3))]) (pc := 31) dX3_told_31 okX3_beanTold q4_69 q4_71 qs2_14 (rfl : vwCl[3]? = some _) a4 rfl (Nat.le_of_ble_eq_true rfl) (Nat.le_of_ble_eq_true rfl) (m_beanTold3 (dd := dd) hP1 hk) ?_
  refine J_goto (tgt := 42) (pc := 34) dX3_told_34 (by decide) ?_
  refine J_iret (ty := .int) (pc := 42) dX3_told_42 rfl rfl ?_
  exact ⟨rfl, FM_tr fm1 (FM_ext (by omega) Ext_rfl), ρ, hP1⟩

set_option maxHeartbeats 2000000 in
set_option maxRecDepth 20000 in
theorem m_told4 {g : GT} {dd : Nat} {h : MH} {σ : ST} {ρ : Nat → Nat} {th : Int32} (hP : MP h σ ρ th) {k : Nat} (hk : k < σ.1.1) : J g (dd + 2) 0 0 mX3_told 0 (lv_args 0 [.ref (53), .int (nI (k)), .int (nI (4))]) [] h (RMo (.int (nI (toS σ k 4))) h σ (nI 0)) := by
  have a40 := hP.2.2.2.1
  have hz0 := hP.2.2.1
  refine J_aload_n (i := 0) (pc := 0) dX3_told_0 rfl rfl ?_
  refine J_iconst (v := nI (0)) (pc := 1) dX3_told_1 rfl ?_
  refine J_putf (k := 0) (pc := 2) dX3_told_2 fpX3_told_34 (fun g => ⟨rfl, rfl⟩) a40 (Nat.le_of_ble_eq_true rfl) ?_
  obtain ⟨h_1, eh_1⟩ : ∃ z : MH, z = (h.1, hset h.2 (53) (oB 3 [.int (nI (0)), .int (nI (σ.1.1)), .ref (54), .ref (55), .int (nI (σ.1.2.1)), .int (nI (σ.2.1.2.1)), .int (nI (σ.2.1.2.2)), .int (nI (σ.2.1.1)), .ref (56), .ref (57), .ref (58)])) := ⟨_, rfl⟩
  refine J_heq (h2 := h_1) eh_1 ?_
  have zh_1 : h_1.1 = h.1 := by rw [eh_1]
  have H_2 : h_1.2 (53) = some (oB 3 [.int (nI (0)), .int (nI (σ.1.1)), .ref (54), .ref (55), .int (nI (σ.1.2.1)), .int (nI (σ.2.1.2.1)), .int (nI (σ.2.1.2.2)), .int (nI (σ.2.1.1)), .ref (56), .ref (57), .ref (58)]) := hs_s eh_1
  have hP1 : MP h_1 σ ρ (nI 0) := MP_53 hP eh_1
  have fm1 : FM h h_1 := FM_set eh_1 (by decide) (by decide)
  obtain ⟨a1, a2, a3, a4, ⟨mf, a5, a5b⟩, ⟨sf, a6, a6b⟩, ⟨rf, a7, a7b⟩, ⟨pf, a8, a8b⟩, ⟨lf, a9, a9b⟩, a10, a11⟩ := id hP1
  obtain ⟨o1, o2, o3, o4⟩ := id a2
  have hM := MP_MS hP1
  obtain ⟨hn, hc9, hm5, hs2⟩ := id a1
  have hp9 := pw_le hn
  refine J_iload_n (i := 1) (pc := 5) dX3_told_5 rfl rfl ?_
  refine J_iconst (v := nI (0)) (pc := 6) dX3_told_6 rfl ?_
  refine J_aload_n (i := 0) (pc := 7) dX3_told_7 rfl rfl ?_
  refine J_getf (k := 1) (pc := 8) dX3_told_8 flX3_44 a4 rfl ?_
  refine J_iconst (v := nI (1)) (pc := 11) dX3_told_11 rfl ?_
  refine J_isub (pc := 12) dX3_told_12 ?_
  refine J_cSi (st := []) (As := [.int (nI (k)), .int (nI (0)), .int (nI (σ.1.1) - nI (1))]) (pc := 13) dX3_told_13 okX3_isIn q3_166 q3_167 rfl (Nat.le_of_ble_eq_true rfl) (Nat.le_of_ble_eq_true rfl) (m_isInT ⟨by rw [nI_toInt (by omega), nI_toInt (by omega)]; omega, by rw [pk_sub (by omega), nI_toInt (by omega), nI_toInt (by omega)]; omega⟩) ?_
  refine J_if_eqN (tgt := 37) (pc := 16) dX3_told_16 (by decide) (by omega) (fun c16 => by exfalso; first | omega | simp_all) (fun c16 => ?_)
  refine J_iload_n (i := 2) (pc := 19) dX3_told_19 rfl rfl ?_
  refine J_iconst (v := nI (0)) (pc := 20) dX3_told_20 rfl ?_
  refine J_iconst (v := nI (4)) (pc := 21) dX3_told_21 rfl ?_
  refine J_cSi (st := []) (As := [.int (nI (4)), .int (nI (0)), .int (nI (4))]) (pc := 22) dX3_told_22 okX3_isIn q3_166 q3_167 rfl (Nat.le_of_ble_eq_true rfl) (Nat.le_of_ble_eq_true rfl) (m_inT (by omega) (by omega) (inZ_nI (by decide) (by decide) (by decide))) ?_
  refine J_if_eqN (tgt := 37) (pc := 25) dX3_told_25 (by decide) (by omega) (fun c25 => by exfalso; first | omega | simp_all) (fun c25 => ?_)
  refine J_aload_n (i := 0) (pc := 28) dX3_told_28 rfl rfl ?_
  refine J_iload_n (i := 1) (pc := 29) dX3_told_29 rfl rfl ?_
  refine J_iload_n (i := 2) (pc := 30) dX3_told_30 rfl rfl ?_
  refine J_cVi (st := []) (As := [.int (nI (k)), .int (nI (4))]) (pc := 31) dX3_told_31 okX3_beanTold q4_69 q4_71 qs2_14 (rfl : vwCl[3]? = some _) a4 rfl (Nat.le_of_ble_eq_true rfl) (Nat.le_of_ble_eq_true rfl) (m_beanTold4 (dd := dd) hP1 hk) ?_
  refine J_goto (tgt := 42) (pc := 34) dX3_told_34 (by decide) ?_
  refine J_iret (ty := .int) (pc := 42) dX3_told_42 rfl rfl ?_
  exact ⟨rfl, FM_tr fm1 (FM_ext (by omega) Ext_rfl), ρ, hP1⟩

set_option maxHeartbeats 2000000 in
set_option maxRecDepth 20000 in
theorem m_toldX1 {g : GT} {dd : Nat} {h : MH} {σ : ST} {ρ : Nat → Nat} {th : Int32} (hP : MP h σ ρ th) {x what : Int32} (hx : ¬ (0 ≤ x.toInt ∧ x.toInt < (σ.1.1 : Int))) : J g (dd + 2) 0 0 mX3_told 0 (lv_args 0 [.ref (53), .int (x), .int (what)]) [] h (RMo (.int (nI 0)) h σ (nI 1)) := by
  have a40 := hP.2.2.2.1
  have hz0 := hP.2.2.1
  refine J_aload_n (i := 0) (pc := 0) dX3_told_0 rfl rfl ?_
  refine J_iconst (v := nI (0)) (pc := 1) dX3_told_1 rfl ?_
  refine J_putf (k := 0) (pc := 2) dX3_told_2 fpX3_told_34 (fun g => ⟨rfl, rfl⟩) a40 (Nat.le_of_ble_eq_true rfl) ?_
  obtain ⟨h_1, eh_1⟩ : ∃ z : MH, z = (h.1, hset h.2 (53) (oB 3 [.int (nI (0)), .int (nI (σ.1.1)), .ref (54), .ref (55), .int (nI (σ.1.2.1)), .int (nI (σ.2.1.2.1)), .int (nI (σ.2.1.2.2)), .int (nI (σ.2.1.1)), .ref (56), .ref (57), .ref (58)])) := ⟨_, rfl⟩
  refine J_heq (h2 := h_1) eh_1 ?_
  have zh_1 : h_1.1 = h.1 := by rw [eh_1]
  have H_2 : h_1.2 (53) = some (oB 3 [.int (nI (0)), .int (nI (σ.1.1)), .ref (54), .ref (55), .int (nI (σ.1.2.1)), .int (nI (σ.2.1.2.1)), .int (nI (σ.2.1.2.2)), .int (nI (σ.2.1.1)), .ref (56), .ref (57), .ref (58)]) := hs_s eh_1
  have hP1 : MP h_1 σ ρ (nI 0) := MP_53 hP eh_1
  have fm1 : FM h h_1 := FM_set eh_1 (by decide) (by decide)
  obtain ⟨a1, a2, a3, a4, ⟨mf, a5, a5b⟩, ⟨sf, a6, a6b⟩, ⟨rf, a7, a7b⟩, ⟨pf, a8, a8b⟩, ⟨lf, a9, a9b⟩, a10, a11⟩ := id hP1
  obtain ⟨o1, o2, o3, o4⟩ := id a2
  have hM := MP_MS hP1
  obtain ⟨hn, hc9, hm5, hs2⟩ := id a1
  have hp9 := pw_le hn
  refine J_iload_n (i := 1) (pc := 5) dX3_told_5 rfl rfl ?_
  refine J_iconst (v := nI (0)) (pc := 6) dX3_told_6 rfl ?_
  refine J_aload_n (i := 0) (pc := 7) dX3_told_7 rfl rfl ?_
  refine J_getf (k := 1) (pc := 8) dX3_told_8 flX3_44 a4 rfl ?_
  refine J_iconst (v := nI (1)) (pc := 11) dX3_told_11 rfl ?_
  refine J_isub (pc := 12) dX3_told_12 ?_
  refine J_cSi (st := []) (As := [.int (x), .int (nI (0)), .int (nI (σ.1.1) - nI (1))]) (pc := 13) dX3_told_13 okX3_isIn q3_166 q3_167 rfl (Nat.le_of_ble_eq_true rfl) (Nat.le_of_ble_eq_true rfl) (m_isInF (fun q => hx ⟨by have := q.1; rw [nI_toInt (by omega)] at this; exact this, by have := q.2; rw [pk_sub_toInt (by omega) (by omega)] at this; omega⟩)) ?_
  refine J_if_eqN (tgt := 37) (pc := 16) dX3_told_16 (by decide) (by omega) (fun c16 => ?_) (fun c16 => by exfalso; first | omega | simp_all)
  refine J_aload_n (i := 0) (pc := 37) dX3_told_37 rfl rfl ?_
  refine J_iconst (v := nI (1)) (pc := 38) dX3_told_38 rfl ?_
  refine J_cVh (st := []) (As := [.int (nI (1))]) (pc := 39) dX3_told_39 okX3_no q3_169 q3_171 qs1_13 (rfl : vwCl[3]? = some _) a4 rfl (Nat.le_of_ble_eq_true rfl) (Nat.le_of_ble_eq_true rfl) (m_no hP1) (fun h_3 q_4 => ?_)
  refine J_iret (ty := .int) (pc := 42) dX3_told_42 rfl rfl ?_
  exact ⟨rfl, FM_tr fm1 (FM_tr (FM_ext (by omega) Ext_rfl) q_4.1), ρ, q_4.2⟩

set_option maxHeartbeats 2000000 in
set_option maxRecDepth 20000 in
theorem m_toldX2 {g : GT} {dd : Nat} {h : MH} {σ : ST} {ρ : Nat → Nat} {th : Int32} (hP : MP h σ ρ th) {k : Nat} {what : Int32} (hk : k < σ.1.1) (hw : ¬ inZ 0 4 what) : J g (dd + 2) 0 0 mX3_told 0 (lv_args 0 [.ref (53), .int (nI (k)), .int (what)]) [] h (RMo (.int (nI 0)) h σ (nI 1)) := by
  have a40 := hP.2.2.2.1
  have hz0 := hP.2.2.1
  refine J_aload_n (i := 0) (pc := 0) dX3_told_0 rfl rfl ?_
  refine J_iconst (v := nI (0)) (pc := 1) dX3_told_1 rfl ?_
  refine J_putf (k := 0) (pc := 2) dX3_told_2 fpX3_told_34 (fun g => ⟨rfl, rfl⟩) a40 (Nat.le_of_ble_eq_true rfl) ?_
  obtain ⟨h_1, eh_1⟩ : ∃ z : MH, z = (h.1, hset h.2 (53) (oB 3 [.int (nI (0)), .int (nI (σ.1.1)), .ref (54), .ref (55), .int (nI (σ.1.2.1)), .int (nI (σ.2.1.2.1)), .int (nI (σ.2.1.2.2)), .int (nI (σ.2.1.1)), .ref (56), .ref (57), .ref (58)])) := ⟨_, rfl⟩
  refine J_heq (h2 := h_1) eh_1 ?_
  have zh_1 : h_1.1 = h.1 := by rw [eh_1]
  have H_2 : h_1.2 (53) = some (oB 3 [.int (nI (0)), .int (nI (σ.1.1)), .ref (54), .ref (55), .int (nI (σ.1.2.1)), .int (nI (σ.2.1.2.1)), .int (nI (σ.2.1.2.2)), .int (nI (σ.2.1.1)), .ref (56), .ref (57), .ref (58)]) := hs_s eh_1
  have hP1 : MP h_1 σ ρ (nI 0) := MP_53 hP eh_1
  have fm1 : FM h h_1 := FM_set eh_1 (by decide) (by decide)
  obtain ⟨a1, a2, a3, a4, ⟨mf, a5, a5b⟩, ⟨sf, a6, a6b⟩, ⟨rf, a7, a7b⟩, ⟨pf, a8, a8b⟩, ⟨lf, a9, a9b⟩, a10, a11⟩ := id hP1
  obtain ⟨o1, o2, o3, o4⟩ := id a2
  have hM := MP_MS hP1
  obtain ⟨hn, hc9, hm5, hs2⟩ := id a1
  have hp9 := pw_le hn
  refine J_iload_n (i := 1) (pc := 5) dX3_told_5 rfl rfl ?_
  refine J_iconst (v := nI (0)) (pc := 6) dX3_told_6 rfl ?_
  refine J_aload_n (i := 0) (pc := 7) dX3_told_7 rfl rfl ?_
  refine J_getf (k := 1) (pc := 8) dX3_told_8 flX3_44 a4 rfl ?_
  refine J_iconst (v := nI (1)) (pc := 11) dX3_told_11 rfl ?_
  refine J_isub (pc := 12) dX3_told_12 ?_
  refine J_cSi (st := []) (As := [.int (nI (k)), .int (nI (0)), .int (nI (σ.1.1) - nI (1))]) (pc := 13) dX3_told_13 okX3_isIn q3_166 q3_167 rfl (Nat.le_of_ble_eq_true rfl) (Nat.le_of_ble_eq_true rfl) (m_isInT ⟨by rw [nI_toInt (by omega), nI_toInt (by omega)]; omega, by rw [pk_sub (by omega), nI_toInt (by omega), nI_toInt (by omega)]; omega⟩) ?_
  refine J_if_eqN (tgt := 37) (pc := 16) dX3_told_16 (by decide) (by omega) (fun c16 => by exfalso; first | omega | simp_all) (fun c16 => ?_)
  refine J_iload_n (i := 2) (pc := 19) dX3_told_19 rfl rfl ?_
  refine J_iconst (v := nI (0)) (pc := 20) dX3_told_20 rfl ?_
  refine J_iconst (v := nI (4)) (pc := 21) dX3_told_21 rfl ?_
  refine J_cSi (st := []) (As := [.int (what), .int (nI (0)), .int (nI (4))]) (pc := 22) dX3_told_22 okX3_isIn q3_166 q3_167 rfl (Nat.le_of_ble_eq_true rfl) (Nat.le_of_ble_eq_true rfl) (m_inF (by omega) (by omega) (hw)) ?_
  refine J_if_eqN (tgt := 37) (pc := 25) dX3_told_25 (by decide) (by omega) (fun c25 => ?_) (fun c25 => by exfalso; first | omega | simp_all)
  refine J_aload_n (i := 0) (pc := 37) dX3_told_37 rfl rfl ?_
  refine J_iconst (v := nI (1)) (pc := 38) dX3_told_38 rfl ?_
  refine J_cVh (st := []) (As := [.int (nI (1))]) (pc := 39) dX3_told_39 okX3_no q3_169 q3_171 qs1_13 (rfl : vwCl[3]? = some _) a4 rfl (Nat.le_of_ble_eq_true rfl) (Nat.le_of_ble_eq_true rfl) (m_no hP1) (fun h_3 q_4 => ?_)
  refine J_iret (ty := .int) (pc := 42) dX3_told_42 rfl rfl ?_
  exact ⟨rfl, FM_tr fm1 (FM_tr (FM_ext (by omega) Ext_rfl) q_4.1), ρ, q_4.2⟩

set_option maxHeartbeats 2000000 in
set_option maxRecDepth 20000 in
theorem m_says {g : GT} {dd : Nat} {h : MH} {σ : ST} {ρ : Nat → Nat} {th : Int32} (hP : MP h σ ρ th) {j : Nat} (hj : j < σ.2.1.1) {a b c : Nat} (ha : a ≤ 50) (hb : b ≤ 50) (hc : c ≤ 50) : J g (dd + 3) 1 3 mX3_says 0 (lv_args 0 [.ref (53), .int (nI (j)), .int (nI (a)), .int (nI (b)), .int (nI (c))]) [] h (RMo (.int (nI (saT 5 (σ.2.2.1 j) a b c))) h σ (nI 0)) := by
  have a40 := hP.2.2.2.1
  have hz0 := hP.2.2.1
  refine J_aload_n (i := 0) (pc := 0) dX3_says_0 rfl rfl ?_
  refine J_iconst (v := nI (0)) (pc := 1) dX3_says_1 rfl ?_
  refine J_putf (k := 0) (pc := 2) dX3_says_2 fpX3_says_34 (fun g => ⟨rfl, rfl⟩) a40 (Nat.le_of_ble_eq_true rfl) ?_
  obtain ⟨h_1, eh_1⟩ : ∃ z : MH, z = (h.1, hset h.2 (53) (oB 3 [.int (nI (0)), .int (nI (σ.1.1)), .ref (54), .ref (55), .int (nI (σ.1.2.1)), .int (nI (σ.2.1.2.1)), .int (nI (σ.2.1.2.2)), .int (nI (σ.2.1.1)), .ref (56), .ref (57), .ref (58)])) := ⟨_, rfl⟩
  refine J_heq (h2 := h_1) eh_1 ?_
  have zh_1 : h_1.1 = h.1 := by rw [eh_1]
  have H_2 : h_1.2 (53) = some (oB 3 [.int (nI (0)), .int (nI (σ.1.1)), .ref (54), .ref (55), .int (nI (σ.1.2.1)), .int (nI (σ.2.1.2.1)), .int (nI (σ.2.1.2.2)), .int (nI (σ.2.1.1)), .ref (56), .ref (57), .ref (58)]) := hs_s eh_1
  have hP1 : MP h_1 σ ρ (nI 0) := MP_53 hP eh_1
  have fm1 : FM h h_1 := FM_set eh_1 (by decide) (by decide)
  obtain ⟨a1, a2, a3, a4, ⟨mf, a5, a5b⟩, ⟨sf, a6, a6b⟩, ⟨rf, a7, a7b⟩, ⟨pf, a8, a8b⟩, ⟨lf, a9, a9b⟩, a10, a11⟩ := id hP1
  obtain ⟨o1, o2, o3, o4⟩ := id a2
  have hM := MP_MS hP1
  obtain ⟨hn, hc9, hm5, hs2⟩ := id a1
  have hp9 := pw_le hn
  obtain ⟨p60, plt, f, pc, prw⟩ := a10 j hj
  obtain ⟨okj, n39⟩ := o4 j hj
  refine J_aload_n (i := 0) (pc := 5) dX3_says_5 rfl rfl ?_
  refine J_iload_n (i := 1) (pc := 6) dX3_says_6 rfl rfl ?_
  refine J_cVi (st := []) (As := [.int (nI (j))]) (pc := 7) dX3_says_7 okX3_isTree q4_8 q4_10 qs2_9 (rfl : vwCl[3]? = some _) a4 rfl (Nat.le_of_ble_eq_true rfl) (Nat.le_of_ble_eq_true rfl) (m_isTreeT hP1 hj) ?_
  refine J_if_neN (tgt := 19) (pc := 10) dX3_says_10 (by decide) (by omega) (fun c10 => ?_) (fun c10 => by exfalso; first | omega | simp_all)
  refine J_iload_n (i := 2) (pc := 19) dX3_says_19 rfl rfl ?_
  refine J_iload_n (i := 3) (pc := 20) dX3_says_20 rfl rfl ?_
  refine J_iload (i := 4) (pc := 21) dX3_says_21 rfl ?_
  refine J_cSi (st := []) (As := [.int (nI (a)), .int (nI (b)), .int (nI (c))]) (pc := 23) dX3_says_23 okX3_isMeasure q3_163 q3_164 rfl (Nat.le_of_ble_eq_true rfl) (Nat.le_of_ble_eq_true rfl) (m_isMeasureT ⟨inZ_nI (by omega) (by omega) (by decide), inZ_nI (by omega) (by omega) (by decide), inZ_nI (by omega) (by omega) (by decide)⟩) ?_
  refine J_if_eqN (tgt := 58) (pc := 26) dX3_says_26 (by decide) (by omega) (fun c26 => by exfalso; first | omega | simp_all) (fun c26 => ?_)
  refine J_aload_n (i := 0) (pc := 29) dX3_says_29 rfl rfl ?_
  refine J_getf (k := 8) (pc := 30) dX3_says_30 flX3_24 a4 rfl ?_
  refine J_iload_n (i := 1) (pc := 33) dX3_says_33 rfl rfl ?_
  refine J_aald (j := j) (b := ρ j) (pc := 34) dX3_says_34 (by decide) a7 rfl (by omega) (by omega) (a7b j hj) ?_
  refine J_iconst (v := nI (1)) (pc := 35) dX3_says_35 rfl ?_
  refine J_iconst (v := nI (3)) (pc := 36) dX3_says_36 rfl ?_
  obtain ⟨A_3, eA_3⟩ : ∃ z : Nat, z = h_1.1 := ⟨_, rfl⟩
  obtain ⟨h_4, eh_4⟩ : ∃ z : MH, z = (A_3 + 1, hset h_1.2 A_3 (aI (3) (fun _ => 0))) := ⟨_, rfl⟩
  refine J_newIA (A := A_3) (h' := h_4) (n := 3) (ca' := 0) (sa' := 0) (pc := 37) dX3_says_37 rfl (by decide) (by omega) (by omega) eA_3 eh_4 ?_
  have zh_4 : h_4.1 = A_3 + 1 := by rw [eh_4]
  have H_5 : h_4.2 (53) = some (oB 3 [.int (nI (0)), .int (nI (σ.1.1)), .ref (54), .ref (55), .int (nI (σ.1.2.1)), .int (nI (σ.2.1.2.1)), .int (nI (σ.2.1.2.2)), .int (nI (σ.2.1.1)), .ref (56), .ref (57), .ref (58)]) := (ha_n eh_4 (by omega)).trans a4
  have H_6 : h_4.2 (56) = some (aG (5) (rf)) := (ha_n eh_4 (by omega)).trans a7
  have H_7 : Ext h_1 h_4 := Ext_new Ext_rfl eA_3 eh_4
  have H_8 : MS h_4 σ.1 := MS_oth (fun i i1 i2 => ha_n eh_4 (by omega)) hM
  have H_9 : MP h_4 σ ρ (nI 0) := MP_ext (Ext_new Ext_rfl eA_3 eh_4) hP1
  have H_10 : h_4.2 (ρ j) = some (aI (320) (f)) := (ha_n eh_4 (by omega)).trans pc
  have H_11 : h_4.2 (A_3) = some (aI (3) (fun _ => 0)) := ha_s eh_4
  refine J_dup (pc := 39) dX3_says_39 rfl ?_
  refine J_iconst (v := nI (0)) (pc := 40) dX3_says_40 rfl ?_
  refine J_iload_n (i := 2) (pc := 41) dX3_says_41 rfl rfl ?_
  refine J_iast (j := 0) (pc := 42) dX3_says_42 H_11 rfl (by omega) (by omega) ?_
  obtain ⟨h_12, eh_12⟩ : ∃ z : MH, z = (h_4.1, hset h_4.2 (A_3) (aI (3) (upd ((fun _ => 0)) (0) (nI (a))))) := ⟨_, rfl⟩
  refine J_heq (h2 := h_12) eh_12 ?_
  have zh_12 : h_12.1 = h_4.1 := by rw [eh_12]
  have H_13 : h_12.2 (53) = some (oB 3 [.int (nI (0)), .int (nI (σ.1.1)), .ref (54), .ref (55), .int (nI (σ.1.2.1)), .int (nI (σ.2.1.2.1)), .int (nI (σ.2.1.2.2)), .int (nI (σ.2.1.1)), .ref (56), .ref (57), .ref (58)]) := (hs_n eh_12 (by omega)).trans H_5
  have H_14 : h_12.2 (56) = some (aG (5) (rf)) := (hs_n eh_12 (by omega)).trans H_6
  have H_15 : Ext h_1 h_12 := by rw [eh_12]; exact Ext_st H_7 (by omega) rfl
  have H_16 : MS h_12 σ.1 := by rw [eh_12]; exact MS_oth (fun i i1 i2 => hset_n (by omega)) H_8
  have H_17 : MP h_12 σ ρ (nI 0) := by rw [eh_12]; exact MP_hi (by omega) (fun i hi => by have := (a10 i hi).2.1; omega) H_9
  have H_18 : h_12.2 (ρ j) = some (aI (320) (f)) := (hs_n eh_12 (by omega)).trans H_10
  have H_19 : h_12.2 (A_3) = some (aI (3) (upd ((fun _ => 0)) (0) (nI (a)))) := hs_s eh_12
  refine J_dup (pc := 43) dX3_says_43 rfl ?_
  refine J_iconst (v := nI (1)) (pc := 44) dX3_says_44 rfl ?_
  refine J_iload_n (i := 3) (pc := 45) dX3_says_45 rfl rfl ?_
  refine J_iast (j := 1) (pc := 46) dX3_says_46 H_19 rfl (by omega) (by omega) ?_
  obtain ⟨h_20, eh_20⟩ : ∃ z : MH, z = (h_12.1, hset h_12.2 (A_3) (aI (3) (upd (upd ((fun _ => 0)) (0) (nI (a))) (1) (nI (b))))) := ⟨_, rfl⟩
  refine J_heq (h2 := h_20) eh_20 ?_
  have zh_20 : h_20.1 = h_12.1 := by rw [eh_20]
  have H_21 : h_20.2 (53) = some (oB 3 [.int (nI (0)), .int (nI (σ.1.1)), .ref (54), .ref (55), .int (nI (σ.1.2.1)), .int (nI (σ.2.1.2.1)), .int (nI (σ.2.1.2.2)), .int (nI (σ.2.1.1)), .ref (56), .ref (57), .ref (58)]) := (hs_n eh_20 (by omega)).trans H_13
  have H_22 : h_20.2 (56) = some (aG (5) (rf)) := (hs_n eh_20 (by omega)).trans H_14
  have H_23 : Ext h_1 h_20 := by rw [eh_20]; exact Ext_st H_15 (by omega) rfl
  have H_24 : MS h_20 σ.1 := by rw [eh_20]; exact MS_oth (fun i i1 i2 => hset_n (by omega)) H_16
  have H_25 : MP h_20 σ ρ (nI 0) := by rw [eh_20]; exact MP_hi (by omega) (fun i hi => by have := (a10 i hi).2.1; omega) H_17
  have H_26 : h_20.2 (ρ j) = some (aI (320) (f)) := (hs_n eh_20 (by omega)).trans H_18
  have H_27 : h_20.2 (A_3) = some (aI (3) (upd (upd ((fun _ => 0)) (0) (nI (a))) (1) (nI (b)))) := hs_s eh_20
  refine J_dup (pc := 47) dX3_says_47 rfl ?_
  refine J_iconst (v := nI (2)) (pc := 48) dX3_says_48 rfl ?_
  refine J_iload (i := 4) (pc := 49) dX3_says_49 rfl ?_
  refine J_iast (j := 2) (pc := 51) dX3_says_51 H_27 rfl (by omega) (by omega) ?_
  obtain ⟨h_28, eh_28⟩ : ∃ z : MH, z = (h_20.1, hset h_20.2 (A_3) (aI (3) (upd (upd (upd ((fun _ => 0)) (0) (nI (a))) (1) (nI (b))) (2) (nI (c))))) := ⟨_, rfl⟩
  refine J_heq (h2 := h_28) eh_28 ?_
  have zh_28 : h_28.1 = h_20.1 := by rw [eh_28]
  have H_29 : h_28.2 (53) = some (oB 3 [.int (nI (0)), .int (nI (σ.1.1)), .ref (54), .ref (55), .int (nI (σ.1.2.1)), .int (nI (σ.2.1.2.1)), .int (nI (σ.2.1.2.2)), .int (nI (σ.2.1.1)), .ref (56), .ref (57), .ref (58)]) := (hs_n eh_28 (by omega)).trans H_21
  have H_30 : h_28.2 (56) = some (aG (5) (rf)) := (hs_n eh_28 (by omega)).trans H_22
  have H_31 : Ext h_1 h_28 := by rw [eh_28]; exact Ext_st H_23 (by omega) rfl
  have H_32 : MS h_28 σ.1 := by rw [eh_28]; exact MS_oth (fun i i1 i2 => hset_n (by omega)) H_24
  have H_33 : MP h_28 σ ρ (nI 0) := by rw [eh_28]; exact MP_hi (by omega) (fun i hi => by have := (a10 i hi).2.1; omega) H_25
  have H_34 : h_28.2 (ρ j) = some (aI (320) (f)) := (hs_n eh_28 (by omega)).trans H_26
  have H_35 : h_28.2 (A_3) = some (aI (3) (upd (upd (upd ((fun _ => 0)) (0) (nI (a))) (1) (nI (b))) (2) (nI (c)))) := hs_s eh_28
  refine J_cSi (st := []) (As := [.ref (ρ j), .int (nI (1)), .ref (A_3)]) (pc := 52) dX3_says_52 okX3_said q4_31 q4_32 rfl (Nat.le_of_ble_eq_true rfl) (Nat.le_of_ble_eq_true rfl) (m_said H_34 H_35 (fun k hk => by obtain rfl | rfl | rfl : k = 0 ∨ k = 1 ∨ k = 2 := (by omega); all_goals rfl) ha hb hc prw okj (by decide) (by decide)) ?_
  refine J_goto (tgt := 63) (pc := 55) dX3_says_55 (by decide) ?_
  refine J_iret (ty := .int) (pc := 63) dX3_says_63 rfl rfl ?_
  exact ⟨rfl, FM_tr fm1 (FM_ext (by omega) H_31), ρ, H_33⟩

set_option maxHeartbeats 2000000 in
set_option maxRecDepth 20000 in
theorem m_saysX1 {g : GT} {dd : Nat} {h : MH} {σ : ST} {ρ : Nat → Nat} {th : Int32} (hP : MP h σ ρ th) {x a b c : Int32} (hx : ¬ (0 ≤ x.toInt ∧ x.toInt < (σ.2.1.1 : Int))) : J g (dd + 3) 0 0 mX3_says 0 (lv_args 0 [.ref (53), .int (x), .int (a), .int (b), .int (c)]) [] h (RMo (.int (nI 0)) h σ (nI 1)) := by
  have a40 := hP.2.2.2.1
  have hz0 := hP.2.2.1
  refine J_aload_n (i := 0) (pc := 0) dX3_says_0 rfl rfl ?_
  refine J_iconst (v := nI (0)) (pc := 1) dX3_says_1 rfl ?_
  refine J_putf (k := 0) (pc := 2) dX3_says_2 fpX3_says_34 (fun g => ⟨rfl, rfl⟩) a40 (Nat.le_of_ble_eq_true rfl) ?_
  obtain ⟨h_1, eh_1⟩ : ∃ z : MH, z = (h.1, hset h.2 (53) (oB 3 [.int (nI (0)), .int (nI (σ.1.1)), .ref (54), .ref (55), .int (nI (σ.1.2.1)), .int (nI (σ.2.1.2.1)), .int (nI (σ.2.1.2.2)), .int (nI (σ.2.1.1)), .ref (56), .ref (57), .ref (58)])) := ⟨_, rfl⟩
  refine J_heq (h2 := h_1) eh_1 ?_
  have zh_1 : h_1.1 = h.1 := by rw [eh_1]
  have H_2 : h_1.2 (53) = some (oB 3 [.int (nI (0)), .int (nI (σ.1.1)), .ref (54), .ref (55), .int (nI (σ.1.2.1)), .int (nI (σ.2.1.2.1)), .int (nI (σ.2.1.2.2)), .int (nI (σ.2.1.1)), .ref (56), .ref (57), .ref (58)]) := hs_s eh_1
  have hP1 : MP h_1 σ ρ (nI 0) := MP_53 hP eh_1
  have fm1 : FM h h_1 := FM_set eh_1 (by decide) (by decide)
  obtain ⟨a1, a2, a3, a4, ⟨mf, a5, a5b⟩, ⟨sf, a6, a6b⟩, ⟨rf, a7, a7b⟩, ⟨pf, a8, a8b⟩, ⟨lf, a9, a9b⟩, a10, a11⟩ := id hP1
  obtain ⟨o1, o2, o3, o4⟩ := id a2
  have hM := MP_MS hP1
  obtain ⟨hn, hc9, hm5, hs2⟩ := id a1
  have hp9 := pw_le hn
  refine J_aload_n (i := 0) (pc := 5) dX3_says_5 rfl rfl ?_
  refine J_iload_n (i := 1) (pc := 6) dX3_says_6 rfl rfl ?_
  refine J_cVi (st := []) (As := [.int (x)]) (pc := 7) dX3_says_7 okX3_isTree q4_8 q4_10 qs2_9 (rfl : vwCl[3]? = some _) a4 rfl (Nat.le_of_ble_eq_true rfl) (Nat.le_of_ble_eq_true rfl) (m_isTreeF hP1 hx) ?_
  refine J_if_neN (tgt := 19) (pc := 10) dX3_says_10 (by decide) (by omega) (fun c10 => by exfalso; first | omega | simp_all) (fun c10 => ?_)
  refine J_aload_n (i := 0) (pc := 13) dX3_says_13 rfl rfl ?_
  refine J_iconst (v := nI (1)) (pc := 14) dX3_says_14 rfl ?_
  refine J_cVh (st := []) (As := [.int (nI (1))]) (pc := 15) dX3_says_15 okX3_no q3_169 q3_171 qs1_13 (rfl : vwCl[3]? = some _) a4 rfl (Nat.le_of_ble_eq_true rfl) (Nat.le_of_ble_eq_true rfl) (m_no hP1) (fun h_3 q_4 => ?_)
  refine J_iret (ty := .int) (pc := 18) dX3_says_18 rfl rfl ?_
  exact ⟨rfl, FM_tr fm1 (FM_tr (FM_ext (by omega) Ext_rfl) q_4.1), ρ, q_4.2⟩

set_option maxHeartbeats 2000000 in
set_option maxRecDepth 20000 in
theorem m_saysX2 {g : GT} {dd : Nat} {h : MH} {σ : ST} {ρ : Nat → Nat} {th : Int32} (hP : MP h σ ρ th) {j : Nat} {a b c : Int32} (hj : j < σ.2.1.1) (hm : ¬ inM a b c) : J g (dd + 3) 0 0 mX3_says 0 (lv_args 0 [.ref (53), .int (nI (j)), .int (a), .int (b), .int (c)]) [] h (RMo (.int (nI 0)) h σ (nI 2)) := by
  have a40 := hP.2.2.2.1
  have hz0 := hP.2.2.1
  refine J_aload_n (i := 0) (pc := 0) dX3_says_0 rfl rfl ?_
  refine J_iconst (v := nI (0)) (pc := 1) dX3_says_1 rfl ?_
  refine J_putf (k := 0) (pc := 2) dX3_says_2 fpX3_says_34 (fun g => ⟨rfl, rfl⟩) a40 (Nat.le_of_ble_eq_true rfl) ?_
  obtain ⟨h_1, eh_1⟩ : ∃ z : MH, z = (h.1, hset h.2 (53) (oB 3 [.int (nI (0)), .int (nI (σ.1.1)), .ref (54), .ref (55), .int (nI (σ.1.2.1)), .int (nI (σ.2.1.2.1)), .int (nI (σ.2.1.2.2)), .int (nI (σ.2.1.1)), .ref (56), .ref (57), .ref (58)])) := ⟨_, rfl⟩
  refine J_heq (h2 := h_1) eh_1 ?_
  have zh_1 : h_1.1 = h.1 := by rw [eh_1]
  have H_2 : h_1.2 (53) = some (oB 3 [.int (nI (0)), .int (nI (σ.1.1)), .ref (54), .ref (55), .int (nI (σ.1.2.1)), .int (nI (σ.2.1.2.1)), .int (nI (σ.2.1.2.2)), .int (nI (σ.2.1.1)), .ref (56), .ref (57), .ref (58)]) := hs_s eh_1
  have hP1 : MP h_1 σ ρ (nI 0) := MP_53 hP eh_1
  have fm1 : FM h h_1 := FM_set eh_1 (by decide) (by decide)
  obtain ⟨a1, a2, a3, a4, ⟨mf, a5, a5b⟩, ⟨sf, a6, a6b⟩, ⟨rf, a7, a7b⟩, ⟨pf, a8, a8b⟩, ⟨lf, a9, a9b⟩, a10, a11⟩ := id hP1
  obtain ⟨o1, o2, o3, o4⟩ := id a2
  have hM := MP_MS hP1
  obtain ⟨hn, hc9, hm5, hs2⟩ := id a1
  have hp9 := pw_le hn
  refine J_aload_n (i := 0) (pc := 5) dX3_says_5 rfl rfl ?_
  refine J_iload_n (i := 1) (pc := 6) dX3_says_6 rfl rfl ?_
  refine J_cVi (st := []) (As := [.int (nI (j))]) (pc := 7) dX3_says_7 okX3_isTree q4_8 q4_10 qs2_9 (rfl : vwCl[3]? = some _) a4 rfl (Nat.le_of_ble_eq_true rfl) (Nat.le_of_ble_eq_true rfl) (m_isTreeT hP1 hj) ?_
  refine J_if_neN (tgt := 19) (pc := 10) dX3_says_10 (by decide) (by omega) (fun c10 => ?_) (fun c10 => by exfalso; first | omega | simp_all)
  refine J_iload_n (i := 2) (pc := 19) dX3_says_19 rfl rfl ?_
  refine J_iload_n (i := 3) (pc := 20) dX3_says_20 rfl rfl ?_
  refine J_iload (i := 4) (pc := 21) dX3_says_21 rfl ?_
  refine J_cSi (st := []) (As := [.int (a), .int (b), .int (c)]) (pc := 23) dX3_says_23 okX3_isMeasure q3_163 q3_164 rfl (Nat.le_of_ble_eq_true rfl) (Nat.le_of_ble_eq_true rfl) (m_isMeasureF hm) ?_
  refine J_if_eqN (tgt := 58) (pc := 26) dX3_says_26 (by decide) (by omega) (fun c26 => ?_) (fun c26 => by exfalso; first | omega | simp_all)
  refine J_aload_n (i := 0) (pc := 58) dX3_says_58 rfl rfl ?_
  refine J_iconst (v := nI (2)) (pc := 59) dX3_says_59 rfl ?_
  refine J_cVh (st := []) (As := [.int (nI (2))]) (pc := 60) dX3_says_60 okX3_no q3_169 q3_171 qs1_13 (rfl : vwCl[3]? = some _) a4 rfl (Nat.le_of_ble_eq_true rfl) (Nat.le_of_ble_eq_true rfl) (m_no hP1) (fun h_3 q_4 => ?_)
  refine J_iret (ty := .int) (pc := 63) dX3_says_63 rfl rfl ?_
  exact ⟨rfl, FM_tr fm1 (FM_tr (FM_ext (by omega) Ext_rfl) q_4.1), ρ, q_4.2⟩

